theorem dX0_init_0 : decode cX0_init 0 = .ok (.aload_n 0, 1) := by decide +kernel
theorem dX0_init_1 : decode cX0_init 1 = .ok (.invokespecial 3, 3) := by decide +kernel
theorem dX0_init_4 : decode cX0_init 4 = .ok (.aload_n 0, 1) := by decide +kernel
theorem dX0_init_5 : decode cX0_init 5 = .ok (.bipush 6, 2) := by decide +kernel
theorem dX0_init_7 : decode cX0_init 7 = .ok (.newarray .int, 2) := by decide +kernel
theorem dX0_init_9 : decode cX0_init 9 = .ok (.putfield 9, 3) := by decide +kernel
theorem dX0_init_12 : decode cX0_init 12 = .ok (.aload_n 0, 1) := by decide +kernel
theorem dX0_init_13 : decode cX0_init 13 = .ok (.bipush 6, 2) := by decide +kernel
theorem dX0_init_15 : decode cX0_init 15 = .ok (.newarray .int, 2) := by decide +kernel
theorem dX0_init_17 : decode cX0_init 17 = .ok (.putfield 15, 3) := by decide +kernel
theorem dX0_init_20 : decode cX0_init 20 = .ok (.aload_n 0, 1) := by decide +kernel
theorem dX0_init_21 : decode cX0_init 21 = .ok (.bipush 6, 2) := by decide +kernel
theorem dX0_init_23 : decode cX0_init 23 = .ok (.newarray .int, 2) := by decide +kernel
theorem dX0_init_25 : decode cX0_init 25 = .ok (.putfield 18, 3) := by decide +kernel
theorem dX0_init_28 : decode cX0_init 28 = .ok (.aload_n 0, 1) := by decide +kernel
theorem dX0_init_29 : decode cX0_init 29 = .ok (.iconst 0, 1) := by decide +kernel
theorem dX0_init_30 : decode cX0_init 30 = .ok (.putfield 21, 3) := by decide +kernel
theorem dX0_init_33 : decode cX0_init 33 = .ok (.return_, 1) := by decide +kernel
theorem dX0_isEnded_0 : decode cX0_isEnded 0 = .ok (.aload_n 0, 1) := by decide +kernel
theorem dX0_isEnded_1 : decode cX0_isEnded 1 = .ok (.getfield 21, 3) := by decide +kernel
theorem dX0_isEnded_4 : decode cX0_isEnded 4 = .ok (.ifCond .le 22, 3) := by decide +kernel
theorem dX0_isEnded_7 : decode cX0_isEnded 7 = .ok (.aload_n 0, 1) := by decide +kernel
theorem dX0_isEnded_8 : decode cX0_isEnded 8 = .ok (.getfield 18, 3) := by decide +kernel
theorem dX0_isEnded_11 : decode cX0_isEnded 11 = .ok (.aload_n 0, 1) := by decide +kernel
theorem dX0_isEnded_12 : decode cX0_isEnded 12 = .ok (.getfield 21, 3) := by decide +kernel
theorem dX0_isEnded_15 : decode cX0_isEnded 15 = .ok (.iconst 1, 1) := by decide +kernel
theorem dX0_isEnded_16 : decode cX0_isEnded 16 = .ok (.isub, 1) := by decide +kernel
theorem dX0_isEnded_17 : decode cX0_isEnded 17 = .ok (.iaload, 1) := by decide +kernel
theorem dX0_isEnded_18 : decode cX0_isEnded 18 = .ok (.iconst 1, 1) := by decide +kernel
theorem dX0_isEnded_19 : decode cX0_isEnded 19 = .ok (.if_icmp .ne 7, 3) := by decide +kernel
theorem dX0_isEnded_22 : decode cX0_isEnded 22 = .ok (.iconst 1, 1) := by decide +kernel
theorem dX0_isEnded_23 : decode cX0_isEnded 23 = .ok (.goto 4, 3) := by decide +kernel
theorem dX0_isEnded_26 : decode cX0_isEnded 26 = .ok (.iconst 0, 1) := by decide +kernel
theorem dX0_isEnded_27 : decode cX0_isEnded 27 = .ok (.ireturn, 1) := by decide +kernel
theorem dX0_add_0 : decode cX0_add 0 = .ok (.aload_n 0, 1) := by decide +kernel
theorem dX0_add_1 : decode cX0_add 1 = .ok (.getfield 21, 3) := by decide +kernel
theorem dX0_add_4 : decode cX0_add 4 = .ok (.bipush 6, 2) := by decide +kernel
theorem dX0_add_6 : decode cX0_add 6 = .ok (.if_icmp .lt 4, 3) := by decide +kernel
theorem dX0_add_9 : decode cX0_add 9 = .ok (.return_, 1) := by decide +kernel
theorem dX0_add_10 : decode cX0_add 10 = .ok (.aload_n 0, 1) := by decide +kernel
theorem dX0_add_11 : decode cX0_add 11 = .ok (.getfield 9, 3) := by decide +kernel
theorem dX0_add_14 : decode cX0_add 14 = .ok (.aload_n 0, 1) := by decide +kernel
theorem dX0_add_15 : decode cX0_add 15 = .ok (.getfield 21, 3) := by decide +kernel
theorem dX0_add_18 : decode cX0_add 18 = .ok (.iload_n 1, 1) := by decide +kernel
theorem dX0_add_19 : decode cX0_add 19 = .ok (.iastore, 1) := by decide +kernel
theorem dX0_add_20 : decode cX0_add 20 = .ok (.aload_n 0, 1) := by decide +kernel
theorem dX0_add_21 : decode cX0_add 21 = .ok (.getfield 15, 3) := by decide +kernel
theorem dX0_add_24 : decode cX0_add 24 = .ok (.aload_n 0, 1) := by decide +kernel
theorem dX0_add_25 : decode cX0_add 25 = .ok (.getfield 21, 3) := by decide +kernel
theorem dX0_add_28 : decode cX0_add 28 = .ok (.iload_n 2, 1) := by decide +kernel
theorem dX0_add_29 : decode cX0_add 29 = .ok (.iastore, 1) := by decide +kernel
theorem dX0_add_30 : decode cX0_add 30 = .ok (.aload_n 0, 1) := by decide +kernel
theorem dX0_add_31 : decode cX0_add 31 = .ok (.getfield 18, 3) := by decide +kernel
theorem dX0_add_34 : decode cX0_add 34 = .ok (.aload_n 0, 1) := by decide +kernel
theorem dX0_add_35 : decode cX0_add 35 = .ok (.getfield 21, 3) := by decide +kernel
theorem dX0_add_38 : decode cX0_add 38 = .ok (.iload_n 3, 1) := by decide +kernel
theorem dX0_add_39 : decode cX0_add 39 = .ok (.iastore, 1) := by decide +kernel
theorem dX0_add_40 : decode cX0_add 40 = .ok (.aload_n 0, 1) := by decide +kernel
theorem dX0_add_41 : decode cX0_add 41 = .ok (.dup, 1) := by decide +kernel
theorem dX0_add_42 : decode cX0_add 42 = .ok (.getfield 21, 3) := by decide +kernel
theorem dX0_add_45 : decode cX0_add 45 = .ok (.iconst 1, 1) := by decide +kernel
theorem dX0_add_46 : decode cX0_add 46 = .ok (.iadd, 1) := by decide +kernel
theorem dX0_add_47 : decode cX0_add 47 = .ok (.putfield 21, 3) := by decide +kernel
theorem dX0_add_50 : decode cX0_add 50 = .ok (.return_, 1) := by decide +kernel
theorem dX0_couldBe_0 : decode cX0_couldBe 0 = .ok (.iload_n 1, 1) := by decide +kernel
theorem dX0_couldBe_1 : decode cX0_couldBe 1 = .ok (.istore_n 2, 1) := by decide +kernel
theorem dX0_couldBe_2 : decode cX0_couldBe 2 = .ok (.iconst 0, 1) := by decide +kernel
theorem dX0_couldBe_3 : decode cX0_couldBe 3 = .ok (.istore_n 3, 1) := by decide +kernel
theorem dX0_couldBe_4 : decode cX0_couldBe 4 = .ok (.iload_n 3, 1) := by decide +kernel
theorem dX0_couldBe_5 : decode cX0_couldBe 5 = .ok (.aload_n 0, 1) := by decide +kernel
theorem dX0_couldBe_6 : decode cX0_couldBe 6 = .ok (.getfield 21, 3) := by decide +kernel
theorem dX0_couldBe_9 : decode cX0_couldBe 9 = .ok (.if_icmp .ge 61, 3) := by decide +kernel
theorem dX0_couldBe_12 : decode cX0_couldBe 12 = .ok (.aload_n 0, 1) := by decide +kernel
theorem dX0_couldBe_13 : decode cX0_couldBe 13 = .ok (.getfield 9, 3) := by decide +kernel
theorem dX0_couldBe_16 : decode cX0_couldBe 16 = .ok (.iload_n 3, 1) := by decide +kernel
theorem dX0_couldBe_17 : decode cX0_couldBe 17 = .ok (.iaload, 1) := by decide +kernel
theorem dX0_couldBe_18 : decode cX0_couldBe 18 = .ok (.aload_n 0, 1) := by decide +kernel
theorem dX0_couldBe_19 : decode cX0_couldBe 19 = .ok (.getfield 15, 3) := by decide +kernel
theorem dX0_couldBe_22 : decode cX0_couldBe 22 = .ok (.iload_n 3, 1) := by decide +kernel
theorem dX0_couldBe_23 : decode cX0_couldBe 23 = .ok (.iaload, 1) := by decide +kernel
theorem dX0_couldBe_24 : decode cX0_couldBe 24 = .ok (.iconst 1, 1) := by decide +kernel
theorem dX0_couldBe_25 : decode cX0_couldBe 25 = .ok (.iadd, 1) := by decide +kernel
theorem dX0_couldBe_26 : decode cX0_couldBe 26 = .ok (.imul, 1) := by decide +kernel
theorem dX0_couldBe_27 : decode cX0_couldBe 27 = .ok (.iload_n 2, 1) := by decide +kernel
theorem dX0_couldBe_28 : decode cX0_couldBe 28 = .ok (.if_icmp .lt 7, 3) := by decide +kernel
theorem dX0_couldBe_31 : decode cX0_couldBe 31 = .ok (.iconst 1, 1) := by decide +kernel
theorem dX0_couldBe_32 : decode cX0_couldBe 32 = .ok (.goto 4, 3) := by decide +kernel
theorem dX0_couldBe_35 : decode cX0_couldBe 35 = .ok (.iconst 0, 1) := by decide +kernel
theorem dX0_couldBe_36 : decode cX0_couldBe 36 = .ok (.istore 4, 2) := by decide +kernel
theorem dX0_couldBe_38 : decode cX0_couldBe 38 = .ok (.iload 4, 2) := by decide +kernel
theorem dX0_couldBe_40 : decode cX0_couldBe 40 = .ok (.aload_n 0, 1) := by decide +kernel
theorem dX0_couldBe_41 : decode cX0_couldBe 41 = .ok (.getfield 18, 3) := by decide +kernel
theorem dX0_couldBe_44 : decode cX0_couldBe 44 = .ok (.iload_n 3, 1) := by decide +kernel
theorem dX0_couldBe_45 : decode cX0_couldBe 45 = .ok (.iaload, 1) := by decide +kernel
theorem dX0_couldBe_46 : decode cX0_couldBe 46 = .ok (.if_icmp .eq 5, 3) := by decide +kernel
theorem dX0_couldBe_49 : decode cX0_couldBe 49 = .ok (.iconst 0, 1) := by decide +kernel
theorem dX0_couldBe_50 : decode cX0_couldBe 50 = .ok (.ireturn, 1) := by decide +kernel
theorem dX0_couldBe_51 : decode cX0_couldBe 51 = .ok (.iload_n 2, 1) := by decide +kernel
theorem dX0_couldBe_52 : decode cX0_couldBe 52 = .ok (.aload_n 0, 1) := by decide +kernel
theorem dX0_couldBe_53 : decode cX0_couldBe 53 = .ok (.getfield 9, 3) := by decide +kernel
theorem dX0_couldBe_56 : decode cX0_couldBe 56 = .ok (.iload_n 3, 1) := by decide +kernel
theorem dX0_couldBe_57 : decode cX0_couldBe 57 = .ok (.iaload, 1) := by decide +kernel
theorem dX0_couldBe_58 : decode cX0_couldBe 58 = .ok (.isub, 1) := by decide +kernel
theorem dX0_couldBe_59 : decode cX0_couldBe 59 = .ok (.iconst 1, 1) := by decide +kernel
theorem dX0_couldBe_60 : decode cX0_couldBe 60 = .ok (.invokestatic 25, 3) := by decide +kernel
theorem dX0_couldBe_63 : decode cX0_couldBe 63 = .ok (.istore_n 2, 1) := by decide +kernel
theorem dX0_couldBe_64 : decode cX0_couldBe 64 = .ok (.iinc 3 1, 3) := by decide +kernel
theorem dX0_couldBe_67 : decode cX0_couldBe 67 = .ok (.goto (-63), 3) := by decide +kernel
theorem dX0_couldBe_70 : decode cX0_couldBe 70 = .ok (.iconst 1, 1) := by decide +kernel
theorem dX0_couldBe_71 : decode cX0_couldBe 71 = .ok (.ireturn, 1) := by decide +kernel
theorem dX1_init_0 : decode cX1_init 0 = .ok (.aload_n 0, 1) := by decide +kernel
theorem dX1_init_1 : decode cX1_init 1 = .ok (.invokespecial 3, 3) := by decide +kernel
theorem dX1_init_4 : decode cX1_init 4 = .ok (.aload_n 0, 1) := by decide +kernel
theorem dX1_init_5 : decode cX1_init 5 = .ok (.bipush 11, 2) := by decide +kernel
theorem dX1_init_7 : decode cX1_init 7 = .ok (.anewarray 9, 3) := by decide +kernel
theorem dX1_init_10 : decode cX1_init 10 = .ok (.putfield 11, 3) := by decide +kernel
theorem dX1_init_13 : decode cX1_init 13 = .ok (.aload_n 0, 1) := by decide +kernel
theorem dX1_init_14 : decode cX1_init 14 = .ok (.bipush 10, 2) := by decide +kernel
theorem dX1_init_16 : decode cX1_init 16 = .ok (.newarray .int, 2) := by decide +kernel
theorem dX1_init_18 : decode cX1_init 18 = .ok (.putfield 17, 3) := by decide +kernel
theorem dX1_init_21 : decode cX1_init 21 = .ok (.aload_n 0, 1) := by decide +kernel
theorem dX1_init_22 : decode cX1_init 22 = .ok (.bipush 10, 2) := by decide +kernel
theorem dX1_init_24 : decode cX1_init 24 = .ok (.newarray .int, 2) := by decide +kernel
theorem dX1_init_26 : decode cX1_init 26 = .ok (.putfield 21, 3) := by decide +kernel
theorem dX1_init_29 : decode cX1_init 29 = .ok (.aload_n 0, 1) := by decide +kernel
theorem dX1_init_30 : decode cX1_init 30 = .ok (.sipush 1024, 3) := by decide +kernel
theorem dX1_init_33 : decode cX1_init 33 = .ok (.newarray .long, 2) := by decide +kernel
theorem dX1_init_35 : decode cX1_init 35 = .ok (.putfield 24, 3) := by decide +kernel
theorem dX1_init_38 : decode cX1_init 38 = .ok (.aload_n 0, 1) := by decide +kernel
theorem dX1_init_39 : decode cX1_init 39 = .ok (.sipush 1024, 3) := by decide +kernel
theorem dX1_init_42 : decode cX1_init 42 = .ok (.newarray .int, 2) := by decide +kernel
theorem dX1_init_44 : decode cX1_init 44 = .ok (.putfield 28, 3) := by decide +kernel
theorem dX1_init_47 : decode cX1_init 47 = .ok (.aload_n 0, 1) := by decide +kernel
theorem dX1_init_48 : decode cX1_init 48 = .ok (.iconst 0, 1) := by decide +kernel
theorem dX1_init_49 : decode cX1_init 49 = .ok (.putfield 31, 3) := by decide +kernel
theorem dX1_init_52 : decode cX1_init 52 = .ok (.aload_n 0, 1) := by decide +kernel
theorem dX1_init_53 : decode cX1_init 53 = .ok (.sipush 1000, 3) := by decide +kernel
theorem dX1_init_56 : decode cX1_init 56 = .ok (.putfield 35, 3) := by decide +kernel
theorem dX1_init_59 : decode cX1_init 59 = .ok (.aload_n 0, 1) := by decide +kernel
theorem dX1_init_60 : decode cX1_init 60 = .ok (.aload_n 1, 1) := by decide +kernel
theorem dX1_init_61 : decode cX1_init 61 = .ok (.putfield 38, 3) := by decide +kernel
theorem dX1_init_64 : decode cX1_init 64 = .ok (.iconst 0, 1) := by decide +kernel
theorem dX1_init_65 : decode cX1_init 65 = .ok (.istore_n 2, 1) := by decide +kernel
theorem dX1_init_66 : decode cX1_init 66 = .ok (.iload_n 2, 1) := by decide +kernel
theorem dX1_init_67 : decode cX1_init 67 = .ok (.bipush 10, 2) := by decide +kernel
theorem dX1_init_69 : decode cX1_init 69 = .ok (.if_icmp .gt 23, 3) := by decide +kernel
theorem dX1_init_72 : decode cX1_init 72 = .ok (.aload_n 0, 1) := by decide +kernel
theorem dX1_init_73 : decode cX1_init 73 = .ok (.getfield 11, 3) := by decide +kernel
theorem dX1_init_76 : decode cX1_init 76 = .ok (.iload_n 2, 1) := by decide +kernel
theorem dX1_init_77 : decode cX1_init 77 = .ok (.new 9, 3) := by decide +kernel
theorem dX1_init_80 : decode cX1_init 80 = .ok (.dup, 1) := by decide +kernel
theorem dX1_init_81 : decode cX1_init 81 = .ok (.aload_n 1, 1) := by decide +kernel
theorem dX1_init_82 : decode cX1_init 82 = .ok (.invokespecial 42, 3) := by decide +kernel
theorem dX1_init_85 : decode cX1_init 85 = .ok (.aastore, 1) := by decide +kernel
theorem dX1_init_86 : decode cX1_init 86 = .ok (.iinc 2 1, 3) := by decide +kernel
theorem dX1_init_89 : decode cX1_init 89 = .ok (.goto (-23), 3) := by decide +kernel
theorem dX1_init_92 : decode cX1_init 92 = .ok (.return_, 1) := by decide +kernel
theorem dX1_run_0 : decode cX1_run 0 = .ok (.aload_n 0, 1) := by decide +kernel
theorem dX1_run_1 : decode cX1_run 1 = .ok (.iconst 0, 1) := by decide +kernel
theorem dX1_run_2 : decode cX1_run 2 = .ok (.putfield 31, 3) := by decide +kernel
theorem dX1_run_5 : decode cX1_run 5 = .ok (.aload_n 0, 1) := by decide +kernel
theorem dX1_run_6 : decode cX1_run 6 = .ok (.sipush 1000, 3) := by decide +kernel
theorem dX1_run_9 : decode cX1_run 9 = .ok (.putfield 35, 3) := by decide +kernel
theorem dX1_run_12 : decode cX1_run 12 = .ok (.aload_n 0, 1) := by decide +kernel
theorem dX1_run_13 : decode cX1_run 13 = .ok (.getfield 24, 3) := by decide +kernel
theorem dX1_run_16 : decode cX1_run 16 = .ok (.lconst 0, 1) := by decide +kernel
theorem dX1_run_17 : decode cX1_run 17 = .ok (.invokestatic 45, 3) := by decide +kernel
theorem dX1_run_20 : decode cX1_run 20 = .ok (.aload_n 0, 1) := by decide +kernel
theorem dX1_run_21 : decode cX1_run 21 = .ok (.getfield 11, 3) := by decide +kernel
theorem dX1_run_24 : decode cX1_run 24 = .ok (.iconst 0, 1) := by decide +kernel
theorem dX1_run_25 : decode cX1_run 25 = .ok (.aaload, 1) := by decide +kernel
theorem dX1_run_26 : decode cX1_run 26 = .ok (.aload_n 1, 1) := by decide +kernel
theorem dX1_run_27 : decode cX1_run 27 = .ok (.invokevirtual 51, 3) := by decide +kernel
theorem dX1_run_30 : decode cX1_run 30 = .ok (.aload_n 0, 1) := by decide +kernel
theorem dX1_run_31 : decode cX1_run 31 = .ok (.iconst 0, 1) := by decide +kernel
theorem dX1_run_32 : decode cX1_run 32 = .ok (.iconst 0, 1) := by decide +kernel
theorem dX1_run_33 : decode cX1_run 33 = .ok (.invokevirtual 55, 3) := by decide +kernel
theorem dX1_run_36 : decode cX1_run 36 = .ok (.return_, 1) := by decide +kernel
theorem dX1_goOn_0 : decode cX1_goOn 0 = .ok (.aload_n 0, 1) := by decide +kernel
theorem dX1_goOn_1 : decode cX1_goOn 1 = .ok (.getfield 11, 3) := by decide +kernel
theorem dX1_goOn_4 : decode cX1_goOn 4 = .ok (.iload_n 1, 1) := by decide +kernel
theorem dX1_goOn_5 : decode cX1_goOn 5 = .ok (.aaload, 1) := by decide +kernel
theorem dX1_goOn_6 : decode cX1_goOn 6 = .ok (.astore_n 3, 1) := by decide +kernel
theorem dX1_goOn_7 : decode cX1_goOn 7 = .ok (.aload_n 3, 1) := by decide +kernel
theorem dX1_goOn_8 : decode cX1_goOn 8 = .ok (.invokevirtual 59, 3) := by decide +kernel
theorem dX1_goOn_11 : decode cX1_goOn 11 = .ok (.aload_n 0, 1) := by decide +kernel
theorem dX1_goOn_12 : decode cX1_goOn 12 = .ok (.getfield 38, 3) := by decide +kernel
theorem dX1_goOn_15 : decode cX1_goOn 15 = .ok (.getfield 63, 3) := by decide +kernel
theorem dX1_goOn_18 : decode cX1_goOn 18 = .ok (.if_icmp .ne 10, 3) := by decide +kernel
theorem dX1_goOn_21 : decode cX1_goOn 21 = .ok (.aload_n 0, 1) := by decide +kernel
theorem dX1_goOn_22 : decode cX1_goOn 22 = .ok (.iload_n 1, 1) := by decide +kernel
theorem dX1_goOn_23 : decode cX1_goOn 23 = .ok (.iload_n 2, 1) := by decide +kernel
theorem dX1_goOn_24 : decode cX1_goOn 24 = .ok (.invokevirtual 68, 3) := by decide +kernel
theorem dX1_goOn_27 : decode cX1_goOn 27 = .ok (.return_, 1) := by decide +kernel
theorem dX1_goOn_28 : decode cX1_goOn 28 = .ok (.iload_n 1, 1) := by decide +kernel
theorem dX1_goOn_29 : decode cX1_goOn 29 = .ok (.bipush 10, 2) := by decide +kernel
theorem dX1_goOn_31 : decode cX1_goOn 31 = .ok (.if_icmp .ge 16, 3) := by decide +kernel
theorem dX1_goOn_34 : decode cX1_goOn 34 = .ok (.aload_n 0, 1) := by decide +kernel
theorem dX1_goOn_35 : decode cX1_goOn 35 = .ok (.aload_n 0, 1) := by decide +kernel
theorem dX1_goOn_36 : decode cX1_goOn 36 = .ok (.aload_n 3, 1) := by decide +kernel
theorem dX1_goOn_37 : decode cX1_goOn 37 = .ok (.invokevirtual 71, 3) := by decide +kernel
theorem dX1_goOn_40 : decode cX1_goOn 40 = .ok (.iload_n 2, 1) := by decide +kernel
theorem dX1_goOn_41 : decode cX1_goOn 41 = .ok (.invokevirtual 75, 3) := by decide +kernel
theorem dX1_goOn_44 : decode cX1_goOn 44 = .ok (.ifCond .eq 4, 3) := by decide +kernel
theorem dX1_goOn_47 : decode cX1_goOn 47 = .ok (.return_, 1) := by decide +kernel
theorem dX1_goOn_48 : decode cX1_goOn 48 = .ok (.iconst 0, 1) := by decide +kernel
theorem dX1_goOn_49 : decode cX1_goOn 49 = .ok (.istore 4, 2) := by decide +kernel
theorem dX1_goOn_51 : decode cX1_goOn 51 = .ok (.iload 4, 2) := by decide +kernel
theorem dX1_goOn_53 : decode cX1_goOn 53 = .ok (.aload_n 0, 1) := by decide +kernel
theorem dX1_goOn_54 : decode cX1_goOn 54 = .ok (.getfield 38, 3) := by decide +kernel
theorem dX1_goOn_57 : decode cX1_goOn 57 = .ok (.getfield 63, 3) := by decide +kernel
theorem dX1_goOn_60 : decode cX1_goOn 60 = .ok (.if_icmp .ge 97, 3) := by decide +kernel
theorem dX1_goOn_63 : decode cX1_goOn 63 = .ok (.aload_n 3, 1) := by decide +kernel
theorem dX1_goOn_64 : decode cX1_goOn 64 = .ok (.iload 4, 2) := by decide +kernel
theorem dX1_goOn_66 : decode cX1_goOn 66 = .ok (.invokevirtual 79, 3) := by decide +kernel
theorem dX1_goOn_69 : decode cX1_goOn 69 = .ok (.ifCond .ne 6, 3) := by decide +kernel
theorem dX1_goOn_72 : decode cX1_goOn 72 = .ok (.goto 79, 3) := by decide +kernel
theorem dX1_goOn_75 : decode cX1_goOn 75 = .ok (.aload_n 3, 1) := by decide +kernel
theorem dX1_goOn_76 : decode cX1_goOn 76 = .ok (.iload 4, 2) := by decide +kernel
theorem dX1_goOn_78 : decode cX1_goOn 78 = .ok (.invokevirtual 83, 3) := by decide +kernel
theorem dX1_goOn_81 : decode cX1_goOn 81 = .ok (.istore 5, 2) := by decide +kernel
theorem dX1_goOn_83 : decode cX1_goOn 83 = .ok (.iload 5, 2) := by decide +kernel
theorem dX1_goOn_85 : decode cX1_goOn 85 = .ok (.bipush (-4), 2) := by decide +kernel
theorem dX1_goOn_87 : decode cX1_goOn 87 = .ok (.if_icmp .eq 64, 3) := by decide +kernel
theorem dX1_goOn_90 : decode cX1_goOn 90 = .ok (.iload_n 2, 1) := by decide +kernel
theorem dX1_goOn_91 : decode cX1_goOn 91 = .ok (.iload 5, 2) := by decide +kernel
theorem dX1_goOn_93 : decode cX1_goOn 93 = .ok (.iadd, 1) := by decide +kernel
theorem dX1_goOn_94 : decode cX1_goOn 94 = .ok (.aload_n 0, 1) := by decide +kernel
theorem dX1_goOn_95 : decode cX1_goOn 95 = .ok (.getfield 35, 3) := by decide +kernel
theorem dX1_goOn_98 : decode cX1_goOn 98 = .ok (.if_icmp .lt 6, 3) := by decide +kernel
theorem dX1_goOn_101 : decode cX1_goOn 101 = .ok (.goto 50, 3) := by decide +kernel
theorem dX1_goOn_104 : decode cX1_goOn 104 = .ok (.aload_n 0, 1) := by decide +kernel
theorem dX1_goOn_105 : decode cX1_goOn 105 = .ok (.getfield 17, 3) := by decide +kernel
theorem dX1_goOn_108 : decode cX1_goOn 108 = .ok (.iload_n 1, 1) := by decide +kernel
theorem dX1_goOn_109 : decode cX1_goOn 109 = .ok (.iload 4, 2) := by decide +kernel
theorem dX1_goOn_111 : decode cX1_goOn 111 = .ok (.iastore, 1) := by decide +kernel
theorem dX1_goOn_112 : decode cX1_goOn 112 = .ok (.aload_n 0, 1) := by decide +kernel
theorem dX1_goOn_113 : decode cX1_goOn 113 = .ok (.getfield 11, 3) := by decide +kernel
theorem dX1_goOn_116 : decode cX1_goOn 116 = .ok (.iload_n 1, 1) := by decide +kernel
theorem dX1_goOn_117 : decode cX1_goOn 117 = .ok (.iconst 1, 1) := by decide +kernel
theorem dX1_goOn_118 : decode cX1_goOn 118 = .ok (.iadd, 1) := by decide +kernel
theorem dX1_goOn_119 : decode cX1_goOn 119 = .ok (.aaload, 1) := by decide +kernel
theorem dX1_goOn_120 : decode cX1_goOn 120 = .ok (.aload_n 3, 1) := by decide +kernel
theorem dX1_goOn_121 : decode cX1_goOn 121 = .ok (.invokevirtual 51, 3) := by decide +kernel
theorem dX1_goOn_124 : decode cX1_goOn 124 = .ok (.aload_n 0, 1) := by decide +kernel
theorem dX1_goOn_125 : decode cX1_goOn 125 = .ok (.getfield 11, 3) := by decide +kernel
theorem dX1_goOn_128 : decode cX1_goOn 128 = .ok (.iload_n 1, 1) := by decide +kernel
theorem dX1_goOn_129 : decode cX1_goOn 129 = .ok (.iconst 1, 1) := by decide +kernel
theorem dX1_goOn_130 : decode cX1_goOn 130 = .ok (.iadd, 1) := by decide +kernel
theorem dX1_goOn_131 : decode cX1_goOn 131 = .ok (.aaload, 1) := by decide +kernel
theorem dX1_goOn_132 : decode cX1_goOn 132 = .ok (.iload 4, 2) := by decide +kernel
theorem dX1_goOn_134 : decode cX1_goOn 134 = .ok (.iload 5, 2) := by decide +kernel
theorem dX1_goOn_136 : decode cX1_goOn 136 = .ok (.invokevirtual 87, 3) := by decide +kernel
theorem dX1_goOn_139 : decode cX1_goOn 139 = .ok (.pop, 1) := by decide +kernel
theorem dX1_goOn_140 : decode cX1_goOn 140 = .ok (.aload_n 0, 1) := by decide +kernel
theorem dX1_goOn_141 : decode cX1_goOn 141 = .ok (.iload_n 1, 1) := by decide +kernel
theorem dX1_goOn_142 : decode cX1_goOn 142 = .ok (.iconst 1, 1) := by decide +kernel
theorem dX1_goOn_143 : decode cX1_goOn 143 = .ok (.iadd, 1) := by decide +kernel
theorem dX1_goOn_144 : decode cX1_goOn 144 = .ok (.iload_n 2, 1) := by decide +kernel
theorem dX1_goOn_145 : decode cX1_goOn 145 = .ok (.iload 5, 2) := by decide +kernel
theorem dX1_goOn_147 : decode cX1_goOn 147 = .ok (.iadd, 1) := by decide +kernel
theorem dX1_goOn_148 : decode cX1_goOn 148 = .ok (.invokevirtual 55, 3) := by decide +kernel
theorem dX1_goOn_151 : decode cX1_goOn 151 = .ok (.iinc 4 1, 3) := by decide +kernel
theorem dX1_goOn_154 : decode cX1_goOn 154 = .ok (.goto (-103), 3) := by decide +kernel
theorem dX1_goOn_157 : decode cX1_goOn 157 = .ok (.return_, 1) := by decide +kernel
theorem dX1_keepBest_0 : decode cX1_keepBest 0 = .ok (.iload_n 2, 1) := by decide +kernel
theorem dX1_keepBest_1 : decode cX1_keepBest 1 = .ok (.aload_n 0, 1) := by decide +kernel
theorem dX1_keepBest_2 : decode cX1_keepBest 2 = .ok (.getfield 35, 3) := by decide +kernel
theorem dX1_keepBest_5 : decode cX1_keepBest 5 = .ok (.if_icmp .lt 4, 3) := by decide +kernel
theorem dX1_keepBest_8 : decode cX1_keepBest 8 = .ok (.return_, 1) := by decide +kernel
theorem dX1_keepBest_9 : decode cX1_keepBest 9 = .ok (.aload_n 0, 1) := by decide +kernel
theorem dX1_keepBest_10 : decode cX1_keepBest 10 = .ok (.iload_n 2, 1) := by decide +kernel
theorem dX1_keepBest_11 : decode cX1_keepBest 11 = .ok (.putfield 35, 3) := by decide +kernel
theorem dX1_keepBest_14 : decode cX1_keepBest 14 = .ok (.aload_n 0, 1) := by decide +kernel
theorem dX1_keepBest_15 : decode cX1_keepBest 15 = .ok (.iload_n 1, 1) := by decide +kernel
theorem dX1_keepBest_16 : decode cX1_keepBest 16 = .ok (.putfield 31, 3) := by decide +kernel
theorem dX1_keepBest_19 : decode cX1_keepBest 19 = .ok (.aload_n 0, 1) := by decide +kernel
theorem dX1_keepBest_20 : decode cX1_keepBest 20 = .ok (.getfield 17, 3) := by decide +kernel
theorem dX1_keepBest_23 : decode cX1_keepBest 23 = .ok (.iconst 0, 1) := by decide +kernel
theorem dX1_keepBest_24 : decode cX1_keepBest 24 = .ok (.aload_n 0, 1) := by decide +kernel
theorem dX1_keepBest_25 : decode cX1_keepBest 25 = .ok (.getfield 21, 3) := by decide +kernel
theorem dX1_keepBest_28 : decode cX1_keepBest 28 = .ok (.iconst 0, 1) := by decide +kernel
theorem dX1_keepBest_29 : decode cX1_keepBest 29 = .ok (.iload_n 1, 1) := by decide +kernel
theorem dX1_keepBest_30 : decode cX1_keepBest 30 = .ok (.invokestatic 91, 3) := by decide +kernel
theorem dX1_keepBest_33 : decode cX1_keepBest 33 = .ok (.return_, 1) := by decide +kernel
theorem dX1_markOf_0 : decode cX1_markOf 0 = .ok (.lconst 0, 1) := by decide +kernel
theorem dX1_markOf_1 : decode cX1_markOf 1 = .ok (.lstore_n 2, 1) := by decide +kernel
theorem dX1_markOf_2 : decode cX1_markOf 2 = .ok (.iconst 0, 1) := by decide +kernel
theorem dX1_markOf_3 : decode cX1_markOf 3 = .ok (.istore 4, 2) := by decide +kernel
theorem dX1_markOf_5 : decode cX1_markOf 5 = .ok (.iload 4, 2) := by decide +kernel
theorem dX1_markOf_7 : decode cX1_markOf 7 = .ok (.aload_n 0, 1) := by decide +kernel
theorem dX1_markOf_8 : decode cX1_markOf 8 = .ok (.getfield 38, 3) := by decide +kernel
theorem dX1_markOf_11 : decode cX1_markOf 11 = .ok (.getfield 63, 3) := by decide +kernel
theorem dX1_markOf_14 : decode cX1_markOf 14 = .ok (.if_icmp .ge 35, 3) := by decide +kernel
theorem dX1_markOf_17 : decode cX1_markOf 17 = .ok (.lload_n 2, 1) := by decide +kernel
theorem dX1_markOf_18 : decode cX1_markOf 18 = .ok (.bipush 9, 2) := by decide +kernel
theorem dX1_markOf_20 : decode cX1_markOf 20 = .ok (.lshl, 1) := by decide +kernel
theorem dX1_markOf_21 : decode cX1_markOf 21 = .ok (.aload_n 1, 1) := by decide +kernel
theorem dX1_markOf_22 : decode cX1_markOf 22 = .ok (.getfield 97, 3) := by decide +kernel
theorem dX1_markOf_25 : decode cX1_markOf 25 = .ok (.iload 4, 2) := by decide +kernel
theorem dX1_markOf_27 : decode cX1_markOf 27 = .ok (.iaload, 1) := by decide +kernel
theorem dX1_markOf_28 : decode cX1_markOf 28 = .ok (.bipush 7, 2) := by decide +kernel
theorem dX1_markOf_30 : decode cX1_markOf 30 = .ok (.ishl, 1) := by decide +kernel
theorem dX1_markOf_31 : decode cX1_markOf 31 = .ok (.i2l, 1) := by decide +kernel
theorem dX1_markOf_32 : decode cX1_markOf 32 = .ok (.lor, 1) := by decide +kernel
theorem dX1_markOf_33 : decode cX1_markOf 33 = .ok (.aload_n 1, 1) := by decide +kernel
theorem dX1_markOf_34 : decode cX1_markOf 34 = .ok (.getfield 100, 3) := by decide +kernel
theorem dX1_markOf_37 : decode cX1_markOf 37 = .ok (.iload 4, 2) := by decide +kernel
theorem dX1_markOf_39 : decode cX1_markOf 39 = .ok (.iaload, 1) := by decide +kernel
theorem dX1_markOf_40 : decode cX1_markOf 40 = .ok (.i2l, 1) := by decide +kernel
theorem dX1_markOf_41 : decode cX1_markOf 41 = .ok (.lor, 1) := by decide +kernel
theorem dX1_markOf_42 : decode cX1_markOf 42 = .ok (.lstore_n 2, 1) := by decide +kernel
theorem dX1_markOf_43 : decode cX1_markOf 43 = .ok (.iinc 4 1, 3) := by decide +kernel
theorem dX1_markOf_46 : decode cX1_markOf 46 = .ok (.goto (-41), 3) := by decide +kernel
theorem dX1_markOf_49 : decode cX1_markOf 49 = .ok (.lload_n 2, 1) := by decide +kernel
theorem dX1_markOf_50 : decode cX1_markOf 50 = .ok (.lreturn, 1) := by decide +kernel
theorem dX1_wasSeen_0 : decode cX1_wasSeen 0 = .ok (.lload_n 1, 1) := by decide +kernel
theorem dX1_wasSeen_1 : decode cX1_wasSeen 1 = .ok (.ldc2_w 103, 3) := by decide +kernel
theorem dX1_wasSeen_4 : decode cX1_wasSeen 4 = .ok (.lmul, 1) := by decide +kernel
theorem dX1_wasSeen_5 : decode cX1_wasSeen 5 = .ok (.bipush 40, 2) := by decide +kernel
theorem dX1_wasSeen_7 : decode cX1_wasSeen 7 = .ok (.lushr, 1) := by decide +kernel
theorem dX1_wasSeen_8 : decode cX1_wasSeen 8 = .ok (.l2i, 1) := by decide +kernel
theorem dX1_wasSeen_9 : decode cX1_wasSeen 9 = .ok (.istore 4, 2) := by decide +kernel
theorem dX1_wasSeen_11 : decode cX1_wasSeen 11 = .ok (.iconst 0, 1) := by decide +kernel
theorem dX1_wasSeen_12 : decode cX1_wasSeen 12 = .ok (.istore 5, 2) := by decide +kernel
theorem dX1_wasSeen_14 : decode cX1_wasSeen 14 = .ok (.iload 5, 2) := by decide +kernel
theorem dX1_wasSeen_16 : decode cX1_wasSeen 16 = .ok (.bipush 32, 2) := by decide +kernel
theorem dX1_wasSeen_18 : decode cX1_wasSeen 18 = .ok (.if_icmp .ge 90, 3) := by decide +kernel
theorem dX1_wasSeen_21 : decode cX1_wasSeen 21 = .ok (.iload 4, 2) := by decide +kernel
theorem dX1_wasSeen_23 : decode cX1_wasSeen 23 = .ok (.iload 5, 2) := by decide +kernel
theorem dX1_wasSeen_25 : decode cX1_wasSeen 25 = .ok (.iadd, 1) := by decide +kernel
theorem dX1_wasSeen_26 : decode cX1_wasSeen 26 = .ok (.sipush 1024, 3) := by decide +kernel
theorem dX1_wasSeen_29 : decode cX1_wasSeen 29 = .ok (.irem, 1) := by decide +kernel
theorem dX1_wasSeen_30 : decode cX1_wasSeen 30 = .ok (.istore 6, 2) := by decide +kernel
theorem dX1_wasSeen_32 : decode cX1_wasSeen 32 = .ok (.aload_n 0, 1) := by decide +kernel
theorem dX1_wasSeen_33 : decode cX1_wasSeen 33 = .ok (.getfield 24, 3) := by decide +kernel
theorem dX1_wasSeen_36 : decode cX1_wasSeen 36 = .ok (.iload 6, 2) := by decide +kernel
theorem dX1_wasSeen_38 : decode cX1_wasSeen 38 = .ok (.laload, 1) := by decide +kernel
theorem dX1_wasSeen_39 : decode cX1_wasSeen 39 = .ok (.lload_n 1, 1) := by decide +kernel
theorem dX1_wasSeen_40 : decode cX1_wasSeen 40 = .ok (.lcmp, 1) := by decide +kernel
theorem dX1_wasSeen_41 : decode cX1_wasSeen 41 = .ok (.ifCond .ne 16, 3) := by decide +kernel
theorem dX1_wasSeen_44 : decode cX1_wasSeen 44 = .ok (.aload_n 0, 1) := by decide +kernel
theorem dX1_wasSeen_45 : decode cX1_wasSeen 45 = .ok (.getfield 28, 3) := by decide +kernel
theorem dX1_wasSeen_48 : decode cX1_wasSeen 48 = .ok (.iload 6, 2) := by decide +kernel
theorem dX1_wasSeen_50 : decode cX1_wasSeen 50 = .ok (.iaload, 1) := by decide +kernel
theorem dX1_wasSeen_51 : decode cX1_wasSeen 51 = .ok (.iload_n 3, 1) := by decide +kernel
theorem dX1_wasSeen_52 : decode cX1_wasSeen 52 = .ok (.if_icmp .gt 5, 3) := by decide +kernel
theorem dX1_wasSeen_55 : decode cX1_wasSeen 55 = .ok (.iconst 1, 1) := by decide +kernel
theorem dX1_wasSeen_56 : decode cX1_wasSeen 56 = .ok (.ireturn, 1) := by decide +kernel
theorem dX1_wasSeen_57 : decode cX1_wasSeen 57 = .ok (.aload_n 0, 1) := by decide +kernel
theorem dX1_wasSeen_58 : decode cX1_wasSeen 58 = .ok (.getfield 24, 3) := by decide +kernel
theorem dX1_wasSeen_61 : decode cX1_wasSeen 61 = .ok (.iload 6, 2) := by decide +kernel
theorem dX1_wasSeen_63 : decode cX1_wasSeen 63 = .ok (.laload, 1) := by decide +kernel
theorem dX1_wasSeen_64 : decode cX1_wasSeen 64 = .ok (.lload_n 1, 1) := by decide +kernel
theorem dX1_wasSeen_65 : decode cX1_wasSeen 65 = .ok (.lcmp, 1) := by decide +kernel
theorem dX1_wasSeen_66 : decode cX1_wasSeen 66 = .ok (.ifCond .eq 18, 3) := by decide +kernel
theorem dX1_wasSeen_69 : decode cX1_wasSeen 69 = .ok (.aload_n 0, 1) := by decide +kernel
theorem dX1_wasSeen_70 : decode cX1_wasSeen 70 = .ok (.getfield 24, 3) := by decide +kernel
theorem dX1_wasSeen_73 : decode cX1_wasSeen 73 = .ok (.iload 6, 2) := by decide +kernel
theorem dX1_wasSeen_75 : decode cX1_wasSeen 75 = .ok (.laload, 1) := by decide +kernel
theorem dX1_wasSeen_76 : decode cX1_wasSeen 76 = .ok (.lconst 0, 1) := by decide +kernel
theorem dX1_wasSeen_77 : decode cX1_wasSeen 77 = .ok (.lcmp, 1) := by decide +kernel
theorem dX1_wasSeen_78 : decode cX1_wasSeen 78 = .ok (.ifCond .eq 6, 3) := by decide +kernel
theorem dX1_wasSeen_81 : decode cX1_wasSeen 81 = .ok (.goto 21, 3) := by decide +kernel
theorem dX1_wasSeen_84 : decode cX1_wasSeen 84 = .ok (.aload_n 0, 1) := by decide +kernel
theorem dX1_wasSeen_85 : decode cX1_wasSeen 85 = .ok (.getfield 24, 3) := by decide +kernel
theorem dX1_wasSeen_88 : decode cX1_wasSeen 88 = .ok (.iload 6, 2) := by decide +kernel
theorem dX1_wasSeen_90 : decode cX1_wasSeen 90 = .ok (.lload_n 1, 1) := by decide +kernel
theorem dX1_wasSeen_91 : decode cX1_wasSeen 91 = .ok (.lastore, 1) := by decide +kernel
theorem dX1_wasSeen_92 : decode cX1_wasSeen 92 = .ok (.aload_n 0, 1) := by decide +kernel
theorem dX1_wasSeen_93 : decode cX1_wasSeen 93 = .ok (.getfield 28, 3) := by decide +kernel
theorem dX1_wasSeen_96 : decode cX1_wasSeen 96 = .ok (.iload 6, 2) := by decide +kernel
theorem dX1_wasSeen_98 : decode cX1_wasSeen 98 = .ok (.iload_n 3, 1) := by decide +kernel
theorem dX1_wasSeen_99 : decode cX1_wasSeen 99 = .ok (.iastore, 1) := by decide +kernel
theorem dX1_wasSeen_100 : decode cX1_wasSeen 100 = .ok (.iconst 0, 1) := by decide +kernel
theorem dX1_wasSeen_101 : decode cX1_wasSeen 101 = .ok (.ireturn, 1) := by decide +kernel
theorem dX1_wasSeen_102 : decode cX1_wasSeen 102 = .ok (.iinc 5 1, 3) := by decide +kernel
theorem dX1_wasSeen_105 : decode cX1_wasSeen 105 = .ok (.goto (-91), 3) := by decide +kernel
theorem dX1_wasSeen_108 : decode cX1_wasSeen 108 = .ok (.iconst 0, 1) := by decide +kernel
theorem dX1_wasSeen_109 : decode cX1_wasSeen 109 = .ok (.ireturn, 1) := by decide +kernel
theorem dX2_init_0 : decode cX2_init 0 = .ok (.aload_n 0, 1) := by decide +kernel
theorem dX2_init_1 : decode cX2_init 1 = .ok (.invokespecial 3, 3) := by decide +kernel
theorem dX2_init_4 : decode cX2_init 4 = .ok (.aload_n 0, 1) := by decide +kernel
theorem dX2_init_5 : decode cX2_init 5 = .ok (.bipush 8, 2) := by decide +kernel
theorem dX2_init_7 : decode cX2_init 7 = .ok (.anewarray 9, 3) := by decide +kernel
theorem dX2_init_10 : decode cX2_init 10 = .ok (.putfield 11, 3) := by decide +kernel
theorem dX2_init_13 : decode cX2_init 13 = .ok (.aload_n 0, 1) := by decide +kernel
theorem dX2_init_14 : decode cX2_init 14 = .ok (.iconst 0, 1) := by decide +kernel
theorem dX2_init_15 : decode cX2_init 15 = .ok (.putfield 17, 3) := by decide +kernel
theorem dX2_init_18 : decode cX2_init 18 = .ok (.aload_n 0, 1) := by decide +kernel
theorem dX2_init_19 : decode cX2_init 19 = .ok (.iconst 0, 1) := by decide +kernel
theorem dX2_init_20 : decode cX2_init 20 = .ok (.putfield 21, 3) := by decide +kernel
theorem dX2_init_23 : decode cX2_init 23 = .ok (.iconst 0, 1) := by decide +kernel
theorem dX2_init_24 : decode cX2_init 24 = .ok (.istore_n 2, 1) := by decide +kernel
theorem dX2_init_25 : decode cX2_init 25 = .ok (.iload_n 2, 1) := by decide +kernel
theorem dX2_init_26 : decode cX2_init 26 = .ok (.bipush 8, 2) := by decide +kernel
theorem dX2_init_28 : decode cX2_init 28 = .ok (.if_icmp .ge 23, 3) := by decide +kernel
theorem dX2_init_31 : decode cX2_init 31 = .ok (.aload_n 0, 1) := by decide +kernel
theorem dX2_init_32 : decode cX2_init 32 = .ok (.getfield 11, 3) := by decide +kernel
theorem dX2_init_35 : decode cX2_init 35 = .ok (.iload_n 2, 1) := by decide +kernel
theorem dX2_init_36 : decode cX2_init 36 = .ok (.new 9, 3) := by decide +kernel
theorem dX2_init_39 : decode cX2_init 39 = .ok (.dup, 1) := by decide +kernel
theorem dX2_init_40 : decode cX2_init 40 = .ok (.aload_n 1, 1) := by decide +kernel
theorem dX2_init_41 : decode cX2_init 41 = .ok (.invokespecial 24, 3) := by decide +kernel
theorem dX2_init_44 : decode cX2_init 44 = .ok (.aastore, 1) := by decide +kernel
theorem dX2_init_45 : decode cX2_init 45 = .ok (.iinc 2 1, 3) := by decide +kernel
theorem dX2_init_48 : decode cX2_init 48 = .ok (.goto (-23), 3) := by decide +kernel
theorem dX2_init_51 : decode cX2_init 51 = .ok (.return_, 1) := by decide +kernel
theorem dX2_push_0 : decode cX2_push 0 = .ok (.aload_n 0, 1) := by decide +kernel
theorem dX2_push_1 : decode cX2_push 1 = .ok (.getfield 11, 3) := by decide +kernel
theorem dX2_push_4 : decode cX2_push 4 = .ok (.aload_n 0, 1) := by decide +kernel
theorem dX2_push_5 : decode cX2_push 5 = .ok (.getfield 17, 3) := by decide +kernel
theorem dX2_push_8 : decode cX2_push 8 = .ok (.aaload, 1) := by decide +kernel
theorem dX2_push_9 : decode cX2_push 9 = .ok (.aload_n 1, 1) := by decide +kernel
theorem dX2_push_10 : decode cX2_push 10 = .ok (.invokevirtual 27, 3) := by decide +kernel
theorem dX2_push_13 : decode cX2_push 13 = .ok (.aload_n 0, 1) := by decide +kernel
theorem dX2_push_14 : decode cX2_push 14 = .ok (.aload_n 0, 1) := by decide +kernel
theorem dX2_push_15 : decode cX2_push 15 = .ok (.getfield 17, 3) := by decide +kernel
theorem dX2_push_18 : decode cX2_push 18 = .ok (.iconst 1, 1) := by decide +kernel
theorem dX2_push_19 : decode cX2_push 19 = .ok (.iadd, 1) := by decide +kernel
theorem dX2_push_20 : decode cX2_push 20 = .ok (.bipush 8, 2) := by decide +kernel
theorem dX2_push_22 : decode cX2_push 22 = .ok (.irem, 1) := by decide +kernel
theorem dX2_push_23 : decode cX2_push 23 = .ok (.putfield 17, 3) := by decide +kernel
theorem dX2_push_26 : decode cX2_push 26 = .ok (.aload_n 0, 1) := by decide +kernel
theorem dX2_push_27 : decode cX2_push 27 = .ok (.aload_n 0, 1) := by decide +kernel
theorem dX2_push_28 : decode cX2_push 28 = .ok (.getfield 21, 3) := by decide +kernel
theorem dX2_push_31 : decode cX2_push 31 = .ok (.iconst 1, 1) := by decide +kernel
theorem dX2_push_32 : decode cX2_push 32 = .ok (.iadd, 1) := by decide +kernel
theorem dX2_push_33 : decode cX2_push 33 = .ok (.bipush 8, 2) := by decide +kernel
theorem dX2_push_35 : decode cX2_push 35 = .ok (.invokestatic 31, 3) := by decide +kernel
theorem dX2_push_38 : decode cX2_push 38 = .ok (.putfield 21, 3) := by decide +kernel
theorem dX2_push_41 : decode cX2_push 41 = .ok (.return_, 1) := by decide +kernel
theorem dX2_pop_0 : decode cX2_pop 0 = .ok (.aload_n 0, 1) := by decide +kernel
theorem dX2_pop_1 : decode cX2_pop 1 = .ok (.getfield 21, 3) := by decide +kernel
theorem dX2_pop_4 : decode cX2_pop 4 = .ok (.iconst 1, 1) := by decide +kernel
theorem dX2_pop_5 : decode cX2_pop 5 = .ok (.if_icmp .ge 5, 3) := by decide +kernel
theorem dX2_pop_8 : decode cX2_pop 8 = .ok (.iconst 0, 1) := by decide +kernel
theorem dX2_pop_9 : decode cX2_pop 9 = .ok (.ireturn, 1) := by decide +kernel
theorem dX2_pop_10 : decode cX2_pop 10 = .ok (.aload_n 0, 1) := by decide +kernel
theorem dX2_pop_11 : decode cX2_pop 11 = .ok (.aload_n 0, 1) := by decide +kernel
theorem dX2_pop_12 : decode cX2_pop 12 = .ok (.getfield 17, 3) := by decide +kernel
theorem dX2_pop_15 : decode cX2_pop 15 = .ok (.bipush 8, 2) := by decide +kernel
theorem dX2_pop_17 : decode cX2_pop 17 = .ok (.iadd, 1) := by decide +kernel
theorem dX2_pop_18 : decode cX2_pop 18 = .ok (.iconst 1, 1) := by decide +kernel
theorem dX2_pop_19 : decode cX2_pop 19 = .ok (.isub, 1) := by decide +kernel
theorem dX2_pop_20 : decode cX2_pop 20 = .ok (.bipush 8, 2) := by decide +kernel
theorem dX2_pop_22 : decode cX2_pop 22 = .ok (.irem, 1) := by decide +kernel
theorem dX2_pop_23 : decode cX2_pop 23 = .ok (.putfield 17, 3) := by decide +kernel
theorem dX2_pop_26 : decode cX2_pop 26 = .ok (.aload_n 0, 1) := by decide +kernel
theorem dX2_pop_27 : decode cX2_pop 27 = .ok (.dup, 1) := by decide +kernel
theorem dX2_pop_28 : decode cX2_pop 28 = .ok (.getfield 21, 3) := by decide +kernel
theorem dX2_pop_31 : decode cX2_pop 31 = .ok (.iconst 1, 1) := by decide +kernel
theorem dX2_pop_32 : decode cX2_pop 32 = .ok (.isub, 1) := by decide +kernel
theorem dX2_pop_33 : decode cX2_pop 33 = .ok (.putfield 21, 3) := by decide +kernel
theorem dX2_pop_36 : decode cX2_pop 36 = .ok (.aload_n 1, 1) := by decide +kernel
theorem dX2_pop_37 : decode cX2_pop 37 = .ok (.aload_n 0, 1) := by decide +kernel
theorem dX2_pop_38 : decode cX2_pop 38 = .ok (.getfield 11, 3) := by decide +kernel
theorem dX2_pop_41 : decode cX2_pop 41 = .ok (.aload_n 0, 1) := by decide +kernel
theorem dX2_pop_42 : decode cX2_pop 42 = .ok (.getfield 17, 3) := by decide +kernel
theorem dX2_pop_45 : decode cX2_pop 45 = .ok (.aaload, 1) := by decide +kernel
theorem dX2_pop_46 : decode cX2_pop 46 = .ok (.invokevirtual 27, 3) := by decide +kernel
theorem dX2_pop_49 : decode cX2_pop 49 = .ok (.iconst 1, 1) := by decide +kernel
theorem dX2_pop_50 : decode cX2_pop 50 = .ok (.ireturn, 1) := by decide +kernel
theorem dX3_init_0 : decode cX3_init 0 = .ok (.aload_n 0, 1) := by decide +kernel
theorem dX3_init_1 : decode cX3_init 1 = .ok (.invokespecial 3, 3) := by decide +kernel
theorem dX3_init_4 : decode cX3_init 4 = .ok (.aload_n 0, 1) := by decide +kernel
theorem dX3_init_5 : decode cX3_init 5 = .ok (.iconst 0, 1) := by decide +kernel
theorem dX3_init_6 : decode cX3_init 6 = .ok (.putfield 9, 3) := by decide +kernel
theorem dX3_init_9 : decode cX3_init 9 = .ok (.aload_n 0, 1) := by decide +kernel
theorem dX3_init_10 : decode cX3_init 10 = .ok (.iconst 0, 1) := by decide +kernel
theorem dX3_init_11 : decode cX3_init 11 = .ok (.putfield 15, 3) := by decide +kernel
theorem dX3_init_14 : decode cX3_init 14 = .ok (.aload_n 0, 1) := by decide +kernel
theorem dX3_init_15 : decode cX3_init 15 = .ok (.iconst 5, 1) := by decide +kernel
theorem dX3_init_16 : decode cX3_init 16 = .ok (.newarray .int, 2) := by decide +kernel
theorem dX3_init_18 : decode cX3_init 18 = .ok (.putfield 18, 3) := by decide +kernel
theorem dX3_init_21 : decode cX3_init 21 = .ok (.aload_n 0, 1) := by decide +kernel
theorem dX3_init_22 : decode cX3_init 22 = .ok (.iconst 5, 1) := by decide +kernel
theorem dX3_init_23 : decode cX3_init 23 = .ok (.newarray .int, 2) := by decide +kernel
theorem dX3_init_25 : decode cX3_init 25 = .ok (.putfield 22, 3) := by decide +kernel
theorem dX3_init_28 : decode cX3_init 28 = .ok (.aload_n 0, 1) := by decide +kernel
theorem dX3_init_29 : decode cX3_init 29 = .ok (.iconst 5, 1) := by decide +kernel
theorem dX3_init_30 : decode cX3_init 30 = .ok (.newarray .int, 2) := by decide +kernel
theorem dX3_init_32 : decode cX3_init 32 = .ok (.putfield 25, 3) := by decide +kernel
theorem dX3_init_35 : decode cX3_init 35 = .ok (.aload_n 0, 1) := by decide +kernel
theorem dX3_init_36 : decode cX3_init 36 = .ok (.bipush 25, 2) := by decide +kernel
theorem dX3_init_38 : decode cX3_init 38 = .ok (.newarray .int, 2) := by decide +kernel
theorem dX3_init_40 : decode cX3_init 40 = .ok (.putfield 28, 3) := by decide +kernel
theorem dX3_init_43 : decode cX3_init 43 = .ok (.return_, 1) := by decide +kernel
theorem dX3_clear_0 : decode cX3_clear 0 = .ok (.aload_n 0, 1) := by decide +kernel
theorem dX3_clear_1 : decode cX3_clear 1 = .ok (.iconst 0, 1) := by decide +kernel
theorem dX3_clear_2 : decode cX3_clear 2 = .ok (.putfield 9, 3) := by decide +kernel
theorem dX3_clear_5 : decode cX3_clear 5 = .ok (.aload_n 0, 1) := by decide +kernel
theorem dX3_clear_6 : decode cX3_clear 6 = .ok (.iconst 0, 1) := by decide +kernel
theorem dX3_clear_7 : decode cX3_clear 7 = .ok (.putfield 15, 3) := by decide +kernel
theorem dX3_clear_10 : decode cX3_clear 10 = .ok (.aload_n 0, 1) := by decide +kernel
theorem dX3_clear_11 : decode cX3_clear 11 = .ok (.getfield 28, 3) := by decide +kernel
theorem dX3_clear_14 : decode cX3_clear 14 = .ok (.iconst 0, 1) := by decide +kernel
theorem dX3_clear_15 : decode cX3_clear 15 = .ok (.invokestatic 31, 3) := by decide +kernel
theorem dX3_clear_18 : decode cX3_clear 18 = .ok (.return_, 1) := by decide +kernel
theorem dX3_take_0 : decode cX3_take 0 = .ok (.iload_n 1, 1) := by decide +kernel
theorem dX3_take_1 : decode cX3_take 1 = .ok (.bipush 119, 2) := by decide +kernel
theorem dX3_take_3 : decode cX3_take 3 = .ok (.if_icmp .ne 12, 3) := by decide +kernel
theorem dX3_take_6 : decode cX3_take 6 = .ok (.aload_n 0, 1) := by decide +kernel
theorem dX3_take_7 : decode cX3_take 7 = .ok (.iload_n 2, 1) := by decide +kernel
theorem dX3_take_8 : decode cX3_take 8 = .ok (.iload_n 3, 1) := by decide +kernel
theorem dX3_take_9 : decode cX3_take 9 = .ok (.iload 4, 2) := by decide +kernel
theorem dX3_take_11 : decode cX3_take 11 = .ok (.invokevirtual 37, 3) := by decide +kernel
theorem dX3_take_14 : decode cX3_take 14 = .ok (.ireturn, 1) := by decide +kernel
theorem dX3_take_15 : decode cX3_take 15 = .ok (.iload_n 1, 1) := by decide +kernel
theorem dX3_take_16 : decode cX3_take 16 = .ok (.bipush 104, 2) := by decide +kernel
theorem dX3_take_18 : decode cX3_take 18 = .ok (.if_icmp .ne 12, 3) := by decide +kernel
theorem dX3_take_21 : decode cX3_take 21 = .ok (.aload_n 0, 1) := by decide +kernel
theorem dX3_take_22 : decode cX3_take 22 = .ok (.iload_n 2, 1) := by decide +kernel
theorem dX3_take_23 : decode cX3_take 23 = .ok (.iload_n 3, 1) := by decide +kernel
theorem dX3_take_24 : decode cX3_take 24 = .ok (.iload 4, 2) := by decide +kernel
theorem dX3_take_26 : decode cX3_take 26 = .ok (.invokevirtual 41, 3) := by decide +kernel
theorem dX3_take_29 : decode cX3_take 29 = .ok (.ireturn, 1) := by decide +kernel
theorem dX3_take_30 : decode cX3_take 30 = .ok (.iload_n 2, 1) := by decide +kernel
theorem dX3_take_31 : decode cX3_take 31 = .ok (.iconst 0, 1) := by decide +kernel
theorem dX3_take_32 : decode cX3_take 32 = .ok (.bipush 60, 2) := by decide +kernel
theorem dX3_take_34 : decode cX3_take 34 = .ok (.invokestatic 44, 3) := by decide +kernel
theorem dX3_take_37 : decode cX3_take 37 = .ok (.ifCond .eq 5, 3) := by decide +kernel
theorem dX3_take_40 : decode cX3_take 40 = .ok (.iconst 0, 1) := by decide +kernel
theorem dX3_take_41 : decode cX3_take 41 = .ok (.ireturn, 1) := by decide +kernel
theorem dX3_take_42 : decode cX3_take 42 = .ok (.aload_n 0, 1) := by decide +kernel
theorem dX3_take_43 : decode cX3_take 43 = .ok (.iload_n 2, 1) := by decide +kernel
theorem dX3_take_44 : decode cX3_take 44 = .ok (.putfield 15, 3) := by decide +kernel
theorem dX3_take_47 : decode cX3_take 47 = .ok (.iconst 1, 1) := by decide +kernel
theorem dX3_take_48 : decode cX3_take 48 = .ok (.ireturn, 1) := by decide +kernel
theorem dX3_takeWall_0 : decode cX3_takeWall 0 = .ok (.aload_n 0, 1) := by decide +kernel
theorem dX3_takeWall_1 : decode cX3_takeWall 1 = .ok (.getfield 9, 3) := by decide +kernel
theorem dX3_takeWall_4 : decode cX3_takeWall 4 = .ok (.iconst 5, 1) := by decide +kernel
theorem dX3_takeWall_5 : decode cX3_takeWall 5 = .ok (.if_icmp .lt 5, 3) := by decide +kernel
theorem dX3_takeWall_8 : decode cX3_takeWall 8 = .ok (.iconst 0, 1) := by decide +kernel
theorem dX3_takeWall_9 : decode cX3_takeWall 9 = .ok (.ireturn, 1) := by decide +kernel
theorem dX3_takeWall_10 : decode cX3_takeWall 10 = .ok (.iload_n 1, 1) := by decide +kernel
theorem dX3_takeWall_11 : decode cX3_takeWall 11 = .ok (.iconst 0, 1) := by decide +kernel
theorem dX3_takeWall_12 : decode cX3_takeWall 12 = .ok (.iconst 3, 1) := by decide +kernel
theorem dX3_takeWall_13 : decode cX3_takeWall 13 = .ok (.invokestatic 44, 3) := by decide +kernel
theorem dX3_takeWall_16 : decode cX3_takeWall 16 = .ok (.ifCond .ne 23, 3) := by decide +kernel
theorem dX3_takeWall_19 : decode cX3_takeWall 19 = .ok (.iload_n 2, 1) := by decide +kernel
theorem dX3_takeWall_20 : decode cX3_takeWall 20 = .ok (.iconst 1, 1) := by decide +kernel
theorem dX3_takeWall_21 : decode cX3_takeWall 21 = .ok (.bipush 60, 2) := by decide +kernel
theorem dX3_takeWall_23 : decode cX3_takeWall 23 = .ok (.invokestatic 44, 3) := by decide +kernel
theorem dX3_takeWall_26 : decode cX3_takeWall 26 = .ok (.ifCond .ne 13, 3) := by decide +kernel
theorem dX3_takeWall_29 : decode cX3_takeWall 29 = .ok (.iload_n 3, 1) := by decide +kernel
theorem dX3_takeWall_30 : decode cX3_takeWall 30 = .ok (.iconst 0, 1) := by decide +kernel
theorem dX3_takeWall_31 : decode cX3_takeWall 31 = .ok (.bipush 7, 2) := by decide +kernel
theorem dX3_takeWall_33 : decode cX3_takeWall 33 = .ok (.invokestatic 44, 3) := by decide +kernel
theorem dX3_takeWall_36 : decode cX3_takeWall 36 = .ok (.ifCond .eq 5, 3) := by decide +kernel
theorem dX3_takeWall_39 : decode cX3_takeWall 39 = .ok (.iconst 0, 1) := by decide +kernel
theorem dX3_takeWall_40 : decode cX3_takeWall 40 = .ok (.ireturn, 1) := by decide +kernel
theorem dX3_takeWall_41 : decode cX3_takeWall 41 = .ok (.aload_n 0, 1) := by decide +kernel
theorem dX3_takeWall_42 : decode cX3_takeWall 42 = .ok (.getfield 18, 3) := by decide +kernel
theorem dX3_takeWall_45 : decode cX3_takeWall 45 = .ok (.aload_n 0, 1) := by decide +kernel
theorem dX3_takeWall_46 : decode cX3_takeWall 46 = .ok (.getfield 9, 3) := by decide +kernel
theorem dX3_takeWall_49 : decode cX3_takeWall 49 = .ok (.iload_n 1, 1) := by decide +kernel
theorem dX3_takeWall_50 : decode cX3_takeWall 50 = .ok (.iastore, 1) := by decide +kernel
theorem dX3_takeWall_51 : decode cX3_takeWall 51 = .ok (.aload_n 0, 1) := by decide +kernel
theorem dX3_takeWall_52 : decode cX3_takeWall 52 = .ok (.getfield 22, 3) := by decide +kernel
theorem dX3_takeWall_55 : decode cX3_takeWall 55 = .ok (.aload_n 0, 1) := by decide +kernel
theorem dX3_takeWall_56 : decode cX3_takeWall 56 = .ok (.getfield 9, 3) := by decide +kernel
theorem dX3_takeWall_59 : decode cX3_takeWall 59 = .ok (.iload_n 2, 1) := by decide +kernel
theorem dX3_takeWall_60 : decode cX3_takeWall 60 = .ok (.iastore, 1) := by decide +kernel
theorem dX3_takeWall_61 : decode cX3_takeWall 61 = .ok (.aload_n 0, 1) := by decide +kernel
theorem dX3_takeWall_62 : decode cX3_takeWall 62 = .ok (.getfield 25, 3) := by decide +kernel
theorem dX3_takeWall_65 : decode cX3_takeWall 65 = .ok (.aload_n 0, 1) := by decide +kernel
theorem dX3_takeWall_66 : decode cX3_takeWall 66 = .ok (.getfield 9, 3) := by decide +kernel
theorem dX3_takeWall_69 : decode cX3_takeWall 69 = .ok (.iload_n 3, 1) := by decide +kernel
theorem dX3_takeWall_70 : decode cX3_takeWall 70 = .ok (.iastore, 1) := by decide +kernel
theorem dX3_takeWall_71 : decode cX3_takeWall 71 = .ok (.aload_n 0, 1) := by decide +kernel
theorem dX3_takeWall_72 : decode cX3_takeWall 72 = .ok (.dup, 1) := by decide +kernel
theorem dX3_takeWall_73 : decode cX3_takeWall 73 = .ok (.getfield 9, 3) := by decide +kernel
theorem dX3_takeWall_76 : decode cX3_takeWall 76 = .ok (.iconst 1, 1) := by decide +kernel
theorem dX3_takeWall_77 : decode cX3_takeWall 77 = .ok (.iadd, 1) := by decide +kernel
theorem dX3_takeWall_78 : decode cX3_takeWall 78 = .ok (.putfield 9, 3) := by decide +kernel
theorem dX3_takeWall_81 : decode cX3_takeWall 81 = .ok (.iconst 1, 1) := by decide +kernel
theorem dX3_takeWall_82 : decode cX3_takeWall 82 = .ok (.ireturn, 1) := by decide +kernel
theorem dX3_takeProp_0 : decode cX3_takeProp 0 = .ok (.iload_n 1, 1) := by decide +kernel
theorem dX3_takeProp_1 : decode cX3_takeProp 1 = .ok (.iconst 0, 1) := by decide +kernel
theorem dX3_takeProp_2 : decode cX3_takeProp 2 = .ok (.aload_n 0, 1) := by decide +kernel
theorem dX3_takeProp_3 : decode cX3_takeProp 3 = .ok (.getfield 9, 3) := by decide +kernel
theorem dX3_takeProp_6 : decode cX3_takeProp 6 = .ok (.iconst 1, 1) := by decide +kernel
theorem dX3_takeProp_7 : decode cX3_takeProp 7 = .ok (.isub, 1) := by decide +kernel
theorem dX3_takeProp_8 : decode cX3_takeProp 8 = .ok (.invokestatic 44, 3) := by decide +kernel
theorem dX3_takeProp_11 : decode cX3_takeProp 11 = .ok (.ifCond .ne 22, 3) := by decide +kernel
theorem dX3_takeProp_14 : decode cX3_takeProp 14 = .ok (.iload_n 2, 1) := by decide +kernel
theorem dX3_takeProp_15 : decode cX3_takeProp 15 = .ok (.iconst 0, 1) := by decide +kernel
theorem dX3_takeProp_16 : decode cX3_takeProp 16 = .ok (.aload_n 0, 1) := by decide +kernel
theorem dX3_takeProp_17 : decode cX3_takeProp 17 = .ok (.getfield 9, 3) := by decide +kernel
theorem dX3_takeProp_20 : decode cX3_takeProp 20 = .ok (.iconst 1, 1) := by decide +kernel
theorem dX3_takeProp_21 : decode cX3_takeProp 21 = .ok (.isub, 1) := by decide +kernel
theorem dX3_takeProp_22 : decode cX3_takeProp 22 = .ok (.invokestatic 44, 3) := by decide +kernel
theorem dX3_takeProp_25 : decode cX3_takeProp 25 = .ok (.ifCond .ne 8, 3) := by decide +kernel
theorem dX3_takeProp_28 : decode cX3_takeProp 28 = .ok (.iload_n 1, 1) := by decide +kernel
theorem dX3_takeProp_29 : decode cX3_takeProp 29 = .ok (.iload_n 2, 1) := by decide +kernel
theorem dX3_takeProp_30 : decode cX3_takeProp 30 = .ok (.if_icmp .ne 5, 3) := by decide +kernel
theorem dX3_takeProp_33 : decode cX3_takeProp 33 = .ok (.iconst 0, 1) := by decide +kernel
theorem dX3_takeProp_34 : decode cX3_takeProp 34 = .ok (.ireturn, 1) := by decide +kernel
theorem dX3_takeProp_35 : decode cX3_takeProp 35 = .ok (.iload_n 3, 1) := by decide +kernel
theorem dX3_takeProp_36 : decode cX3_takeProp 36 = .ok (.iconst 1, 1) := by decide +kernel
theorem dX3_takeProp_37 : decode cX3_takeProp 37 = .ok (.bipush 40, 2) := by decide +kernel
theorem dX3_takeProp_39 : decode cX3_takeProp 39 = .ok (.invokestatic 44, 3) := by decide +kernel
theorem dX3_takeProp_42 : decode cX3_takeProp 42 = .ok (.ifCond .eq 5, 3) := by decide +kernel
theorem dX3_takeProp_45 : decode cX3_takeProp 45 = .ok (.iconst 0, 1) := by decide +kernel
theorem dX3_takeProp_46 : decode cX3_takeProp 46 = .ok (.ireturn, 1) := by decide +kernel
theorem dX3_takeProp_47 : decode cX3_takeProp 47 = .ok (.aload_n 0, 1) := by decide +kernel
theorem dX3_takeProp_48 : decode cX3_takeProp 48 = .ok (.getfield 28, 3) := by decide +kernel
theorem dX3_takeProp_51 : decode cX3_takeProp 51 = .ok (.iload_n 1, 1) := by decide +kernel
theorem dX3_takeProp_52 : decode cX3_takeProp 52 = .ok (.iconst 5, 1) := by decide +kernel
theorem dX3_takeProp_53 : decode cX3_takeProp 53 = .ok (.imul, 1) := by decide +kernel
theorem dX3_takeProp_54 : decode cX3_takeProp 54 = .ok (.iload_n 2, 1) := by decide +kernel
theorem dX3_takeProp_55 : decode cX3_takeProp 55 = .ok (.iadd, 1) := by decide +kernel
theorem dX3_takeProp_56 : decode cX3_takeProp 56 = .ok (.iload_n 3, 1) := by decide +kernel
theorem dX3_takeProp_57 : decode cX3_takeProp 57 = .ok (.iastore, 1) := by decide +kernel
theorem dX3_takeProp_58 : decode cX3_takeProp 58 = .ok (.iconst 1, 1) := by decide +kernel
theorem dX3_takeProp_59 : decode cX3_takeProp 59 = .ok (.ireturn, 1) := by decide +kernel
theorem dX4_init_0 : decode cX4_init 0 = .ok (.aload_n 0, 1) := by decide +kernel
theorem dX4_init_1 : decode cX4_init 1 = .ok (.invokespecial 3, 3) := by decide +kernel
theorem dX4_init_4 : decode cX4_init 4 = .ok (.aload_n 0, 1) := by decide +kernel
theorem dX4_init_5 : decode cX4_init 5 = .ok (.sipush 200, 3) := by decide +kernel
theorem dX4_init_8 : decode cX4_init 8 = .ok (.newarray .char, 2) := by decide +kernel
theorem dX4_init_10 : decode cX4_init 10 = .ok (.putfield 9, 3) := by decide +kernel
theorem dX4_init_13 : decode cX4_init 13 = .ok (.aload_n 0, 1) := by decide +kernel
theorem dX4_init_14 : decode cX4_init 14 = .ok (.iconst 3, 1) := by decide +kernel
theorem dX4_init_15 : decode cX4_init 15 = .ok (.newarray .int, 2) := by decide +kernel
theorem dX4_init_17 : decode cX4_init 17 = .ok (.putfield 15, 3) := by decide +kernel
theorem dX4_init_20 : decode cX4_init 20 = .ok (.aload_n 0, 1) := by decide +kernel
theorem dX4_init_21 : decode cX4_init 21 = .ok (.iconst 0, 1) := by decide +kernel
theorem dX4_init_22 : decode cX4_init 22 = .ok (.putfield 19, 3) := by decide +kernel
theorem dX4_init_25 : decode cX4_init 25 = .ok (.return_, 1) := by decide +kernel
theorem dX4_add_0 : decode cX4_add 0 = .ok (.aload_n 0, 1) := by decide +kernel
theorem dX4_add_1 : decode cX4_add 1 = .ok (.getfield 19, 3) := by decide +kernel
theorem dX4_add_4 : decode cX4_add 4 = .ok (.sipush 200, 3) := by decide +kernel
theorem dX4_add_7 : decode cX4_add 7 = .ok (.if_icmp .lt 4, 3) := by decide +kernel
theorem dX4_add_10 : decode cX4_add 10 = .ok (.return_, 1) := by decide +kernel
theorem dX4_add_11 : decode cX4_add 11 = .ok (.aload_n 0, 1) := by decide +kernel
theorem dX4_add_12 : decode cX4_add 12 = .ok (.getfield 9, 3) := by decide +kernel
theorem dX4_add_15 : decode cX4_add 15 = .ok (.aload_n 0, 1) := by decide +kernel
theorem dX4_add_16 : decode cX4_add 16 = .ok (.getfield 19, 3) := by decide +kernel
theorem dX4_add_19 : decode cX4_add 19 = .ok (.iload_n 1, 1) := by decide +kernel
theorem dX4_add_20 : decode cX4_add 20 = .ok (.castore, 1) := by decide +kernel
theorem dX4_add_21 : decode cX4_add 21 = .ok (.aload_n 0, 1) := by decide +kernel
theorem dX4_add_22 : decode cX4_add 22 = .ok (.dup, 1) := by decide +kernel
theorem dX4_add_23 : decode cX4_add 23 = .ok (.getfield 19, 3) := by decide +kernel
theorem dX4_add_26 : decode cX4_add 26 = .ok (.iconst 1, 1) := by decide +kernel
theorem dX4_add_27 : decode cX4_add 27 = .ok (.iadd, 1) := by decide +kernel
theorem dX4_add_28 : decode cX4_add 28 = .ok (.putfield 19, 3) := by decide +kernel
theorem dX4_add_31 : decode cX4_add 31 = .ok (.return_, 1) := by decide +kernel
theorem dX4_readInto_0 : decode cX4_readInto 0 = .ok (.aload_n 1, 1) := by decide +kernel
theorem dX4_readInto_1 : decode cX4_readInto 1 = .ok (.invokevirtual 23, 3) := by decide +kernel
theorem dX4_readInto_4 : decode cX4_readInto 4 = .ok (.iconst 0, 1) := by decide +kernel
theorem dX4_readInto_5 : decode cX4_readInto 5 = .ok (.istore_n 2, 1) := by decide +kernel
theorem dX4_readInto_6 : decode cX4_readInto 6 = .ok (.iconst 0, 1) := by decide +kernel
theorem dX4_readInto_7 : decode cX4_readInto 7 = .ok (.istore_n 3, 1) := by decide +kernel
theorem dX4_readInto_8 : decode cX4_readInto 8 = .ok (.iload_n 3, 1) := by decide +kernel
theorem dX4_readInto_9 : decode cX4_readInto 9 = .ok (.sipush 200, 3) := by decide +kernel
theorem dX4_readInto_12 : decode cX4_readInto 12 = .ok (.if_icmp .ge 35, 3) := by decide +kernel
theorem dX4_readInto_15 : decode cX4_readInto 15 = .ok (.iload_n 2, 1) := by decide +kernel
theorem dX4_readInto_16 : decode cX4_readInto 16 = .ok (.aload_n 0, 1) := by decide +kernel
theorem dX4_readInto_17 : decode cX4_readInto 17 = .ok (.getfield 19, 3) := by decide +kernel
theorem dX4_readInto_20 : decode cX4_readInto 20 = .ok (.if_icmp .ge 27, 3) := by decide +kernel
theorem dX4_readInto_23 : decode cX4_readInto 23 = .ok (.aload_n 0, 1) := by decide +kernel
theorem dX4_readInto_24 : decode cX4_readInto 24 = .ok (.iload_n 2, 1) := by decide +kernel
theorem dX4_readInto_25 : decode cX4_readInto 25 = .ok (.aload_n 1, 1) := by decide +kernel
theorem dX4_readInto_26 : decode cX4_readInto 26 = .ok (.invokevirtual 28, 3) := by decide +kernel
theorem dX4_readInto_29 : decode cX4_readInto 29 = .ok (.istore 4, 2) := by decide +kernel
theorem dX4_readInto_31 : decode cX4_readInto 31 = .ok (.iload 4, 2) := by decide +kernel
theorem dX4_readInto_33 : decode cX4_readInto 33 = .ok (.ifCond .ge 5, 3) := by decide +kernel
theorem dX4_readInto_36 : decode cX4_readInto 36 = .ok (.iload_n 2, 1) := by decide +kernel
theorem dX4_readInto_37 : decode cX4_readInto 37 = .ok (.ireturn, 1) := by decide +kernel
theorem dX4_readInto_38 : decode cX4_readInto 38 = .ok (.iload 4, 2) := by decide +kernel
theorem dX4_readInto_40 : decode cX4_readInto 40 = .ok (.istore_n 2, 1) := by decide +kernel
theorem dX4_readInto_41 : decode cX4_readInto 41 = .ok (.iinc 3 1, 3) := by decide +kernel
theorem dX4_readInto_44 : decode cX4_readInto 44 = .ok (.goto (-36), 3) := by decide +kernel
theorem dX4_readInto_47 : decode cX4_readInto 47 = .ok (.bipush (-4), 2) := by decide +kernel
theorem dX4_readInto_49 : decode cX4_readInto 49 = .ok (.ireturn, 1) := by decide +kernel
theorem dX4_readItem_0 : decode cX4_readItem 0 = .ok (.aload_n 0, 1) := by decide +kernel
theorem dX4_readItem_1 : decode cX4_readItem 1 = .ok (.iload_n 1, 1) := by decide +kernel
theorem dX4_readItem_2 : decode cX4_readItem 2 = .ok (.invokevirtual 32, 3) := by decide +kernel
theorem dX4_readItem_5 : decode cX4_readItem 5 = .ok (.istore_n 3, 1) := by decide +kernel
theorem dX4_readItem_6 : decode cX4_readItem 6 = .ok (.iload_n 3, 1) := by decide +kernel
theorem dX4_readItem_7 : decode cX4_readItem 7 = .ok (.bipush 119, 2) := by decide +kernel
theorem dX4_readItem_9 : decode cX4_readItem 9 = .ok (.if_icmp .eq 9, 3) := by decide +kernel
theorem dX4_readItem_12 : decode cX4_readItem 12 = .ok (.iload_n 3, 1) := by decide +kernel
theorem dX4_readItem_13 : decode cX4_readItem 13 = .ok (.bipush 104, 2) := by decide +kernel
theorem dX4_readItem_15 : decode cX4_readItem 15 = .ok (.if_icmp .ne 7, 3) := by decide +kernel
theorem dX4_readItem_18 : decode cX4_readItem 18 = .ok (.iconst 3, 1) := by decide +kernel
theorem dX4_readItem_19 : decode cX4_readItem 19 = .ok (.goto 14, 3) := by decide +kernel
theorem dX4_readItem_22 : decode cX4_readItem 22 = .ok (.iload_n 3, 1) := by decide +kernel
theorem dX4_readItem_23 : decode cX4_readItem 23 = .ok (.bipush 115, 2) := by decide +kernel
theorem dX4_readItem_25 : decode cX4_readItem 25 = .ok (.if_icmp .ne 7, 3) := by decide +kernel
theorem dX4_readItem_28 : decode cX4_readItem 28 = .ok (.iconst 1, 1) := by decide +kernel
theorem dX4_readItem_29 : decode cX4_readItem 29 = .ok (.goto 4, 3) := by decide +kernel
theorem dX4_readItem_32 : decode cX4_readItem 32 = .ok (.iconst 0, 1) := by decide +kernel
theorem dX4_readItem_33 : decode cX4_readItem 33 = .ok (.istore 4, 2) := by decide +kernel
theorem dX4_readItem_35 : decode cX4_readItem 35 = .ok (.iload 4, 2) := by decide +kernel
theorem dX4_readItem_37 : decode cX4_readItem 37 = .ok (.ifCond .ne 5, 3) := by decide +kernel
theorem dX4_readItem_40 : decode cX4_readItem 40 = .ok (.iconst (-1), 1) := by decide +kernel
theorem dX4_readItem_41 : decode cX4_readItem 41 = .ok (.ireturn, 1) := by decide +kernel
theorem dX4_readItem_42 : decode cX4_readItem 42 = .ok (.iload_n 1, 1) := by decide +kernel
theorem dX4_readItem_43 : decode cX4_readItem 43 = .ok (.iconst 1, 1) := by decide +kernel
theorem dX4_readItem_44 : decode cX4_readItem 44 = .ok (.iadd, 1) := by decide +kernel
theorem dX4_readItem_45 : decode cX4_readItem 45 = .ok (.istore 5, 2) := by decide +kernel
theorem dX4_readItem_47 : decode cX4_readItem 47 = .ok (.iconst 0, 1) := by decide +kernel
theorem dX4_readItem_48 : decode cX4_readItem 48 = .ok (.istore 6, 2) := by decide +kernel
theorem dX4_readItem_50 : decode cX4_readItem 50 = .ok (.iload 6, 2) := by decide +kernel
theorem dX4_readItem_52 : decode cX4_readItem 52 = .ok (.iload 4, 2) := by decide +kernel
theorem dX4_readItem_54 : decode cX4_readItem 54 = .ok (.if_icmp .ge 76, 3) := by decide +kernel
theorem dX4_readItem_57 : decode cX4_readItem 57 = .ok (.aload_n 0, 1) := by decide +kernel
theorem dX4_readItem_58 : decode cX4_readItem 58 = .ok (.iload 5, 2) := by decide +kernel
theorem dX4_readItem_60 : decode cX4_readItem 60 = .ok (.invokevirtual 36, 3) := by decide +kernel
theorem dX4_readItem_63 : decode cX4_readItem 63 = .ok (.istore 7, 2) := by decide +kernel
theorem dX4_readItem_65 : decode cX4_readItem 65 = .ok (.iload 7, 2) := by decide +kernel
theorem dX4_readItem_67 : decode cX4_readItem 67 = .ok (.ifCond .ne 5, 3) := by decide +kernel
theorem dX4_readItem_70 : decode cX4_readItem 70 = .ok (.iconst (-1), 1) := by decide +kernel
theorem dX4_readItem_71 : decode cX4_readItem 71 = .ok (.ireturn, 1) := by decide +kernel
theorem dX4_readItem_72 : decode cX4_readItem 72 = .ok (.aload_n 0, 1) := by decide +kernel
theorem dX4_readItem_73 : decode cX4_readItem 73 = .ok (.getfield 15, 3) := by decide +kernel
theorem dX4_readItem_76 : decode cX4_readItem 76 = .ok (.iload 6, 2) := by decide +kernel
theorem dX4_readItem_78 : decode cX4_readItem 78 = .ok (.aload_n 0, 1) := by decide +kernel
theorem dX4_readItem_79 : decode cX4_readItem 79 = .ok (.iload 5, 2) := by decide +kernel
theorem dX4_readItem_81 : decode cX4_readItem 81 = .ok (.iload 7, 2) := by decide +kernel
theorem dX4_readItem_83 : decode cX4_readItem 83 = .ok (.invokevirtual 40, 3) := by decide +kernel
theorem dX4_readItem_86 : decode cX4_readItem 86 = .ok (.iastore, 1) := by decide +kernel
theorem dX4_readItem_87 : decode cX4_readItem 87 = .ok (.iload 5, 2) := by decide +kernel
theorem dX4_readItem_89 : decode cX4_readItem 89 = .ok (.iload 7, 2) := by decide +kernel
theorem dX4_readItem_91 : decode cX4_readItem 91 = .ok (.iadd, 1) := by decide +kernel
theorem dX4_readItem_92 : decode cX4_readItem 92 = .ok (.istore 5, 2) := by decide +kernel
theorem dX4_readItem_94 : decode cX4_readItem 94 = .ok (.aload_n 0, 1) := by decide +kernel
theorem dX4_readItem_95 : decode cX4_readItem 95 = .ok (.iload 5, 2) := by decide +kernel
theorem dX4_readItem_97 : decode cX4_readItem 97 = .ok (.invokevirtual 32, 3) := by decide +kernel
theorem dX4_readItem_100 : decode cX4_readItem 100 = .ok (.iload 6, 2) := by decide +kernel
theorem dX4_readItem_102 : decode cX4_readItem 102 = .ok (.iload 4, 2) := by decide +kernel
theorem dX4_readItem_104 : decode cX4_readItem 104 = .ok (.iconst 1, 1) := by decide +kernel
theorem dX4_readItem_105 : decode cX4_readItem 105 = .ok (.isub, 1) := by decide +kernel
theorem dX4_readItem_106 : decode cX4_readItem 106 = .ok (.if_icmp .ge 8, 3) := by decide +kernel
theorem dX4_readItem_109 : decode cX4_readItem 109 = .ok (.bipush 44, 2) := by decide +kernel
theorem dX4_readItem_111 : decode cX4_readItem 111 = .ok (.goto 5, 3) := by decide +kernel
theorem dX4_readItem_114 : decode cX4_readItem 114 = .ok (.bipush 59, 2) := by decide +kernel
theorem dX4_readItem_116 : decode cX4_readItem 116 = .ok (.if_icmp .eq 5, 3) := by decide +kernel
theorem dX4_readItem_119 : decode cX4_readItem 119 = .ok (.iconst (-1), 1) := by decide +kernel
theorem dX4_readItem_120 : decode cX4_readItem 120 = .ok (.ireturn, 1) := by decide +kernel
theorem dX4_readItem_121 : decode cX4_readItem 121 = .ok (.iinc 5 1, 3) := by decide +kernel
theorem dX4_readItem_124 : decode cX4_readItem 124 = .ok (.iinc 6 1, 3) := by decide +kernel
theorem dX4_readItem_127 : decode cX4_readItem 127 = .ok (.goto (-77), 3) := by decide +kernel
theorem dX4_readItem_130 : decode cX4_readItem 130 = .ok (.aload_n 2, 1) := by decide +kernel
theorem dX4_readItem_131 : decode cX4_readItem 131 = .ok (.iload_n 3, 1) := by decide +kernel
theorem dX4_readItem_132 : decode cX4_readItem 132 = .ok (.aload_n 0, 1) := by decide +kernel
theorem dX4_readItem_133 : decode cX4_readItem 133 = .ok (.getfield 15, 3) := by decide +kernel
theorem dX4_readItem_136 : decode cX4_readItem 136 = .ok (.iconst 0, 1) := by decide +kernel
theorem dX4_readItem_137 : decode cX4_readItem 137 = .ok (.iaload, 1) := by decide +kernel
theorem dX4_readItem_138 : decode cX4_readItem 138 = .ok (.aload_n 0, 1) := by decide +kernel
theorem dX4_readItem_139 : decode cX4_readItem 139 = .ok (.getfield 15, 3) := by decide +kernel
theorem dX4_readItem_142 : decode cX4_readItem 142 = .ok (.iconst 1, 1) := by decide +kernel
theorem dX4_readItem_143 : decode cX4_readItem 143 = .ok (.iaload, 1) := by decide +kernel
theorem dX4_readItem_144 : decode cX4_readItem 144 = .ok (.aload_n 0, 1) := by decide +kernel
theorem dX4_readItem_145 : decode cX4_readItem 145 = .ok (.getfield 15, 3) := by decide +kernel
theorem dX4_readItem_148 : decode cX4_readItem 148 = .ok (.iconst 2, 1) := by decide +kernel
theorem dX4_readItem_149 : decode cX4_readItem 149 = .ok (.iaload, 1) := by decide +kernel
theorem dX4_readItem_150 : decode cX4_readItem 150 = .ok (.invokevirtual 44, 3) := by decide +kernel
theorem dX4_readItem_153 : decode cX4_readItem 153 = .ok (.ifCond .eq 8, 3) := by decide +kernel
theorem dX4_readItem_156 : decode cX4_readItem 156 = .ok (.iload 5, 2) := by decide +kernel
theorem dX4_readItem_158 : decode cX4_readItem 158 = .ok (.goto 4, 3) := by decide +kernel
theorem dX4_readItem_161 : decode cX4_readItem 161 = .ok (.iconst (-1), 1) := by decide +kernel
theorem dX4_readItem_162 : decode cX4_readItem 162 = .ok (.ireturn, 1) := by decide +kernel
theorem dX4_letterAt_0 : decode cX4_letterAt 0 = .ok (.iload_n 1, 1) := by decide +kernel
theorem dX4_letterAt_1 : decode cX4_letterAt 1 = .ok (.ifCond .lt 20, 3) := by decide +kernel
theorem dX4_letterAt_4 : decode cX4_letterAt 4 = .ok (.iload_n 1, 1) := by decide +kernel
theorem dX4_letterAt_5 : decode cX4_letterAt 5 = .ok (.aload_n 0, 1) := by decide +kernel
theorem dX4_letterAt_6 : decode cX4_letterAt 6 = .ok (.getfield 19, 3) := by decide +kernel
theorem dX4_letterAt_9 : decode cX4_letterAt 9 = .ok (.if_icmp .ge 12, 3) := by decide +kernel
theorem dX4_letterAt_12 : decode cX4_letterAt 12 = .ok (.aload_n 0, 1) := by decide +kernel
theorem dX4_letterAt_13 : decode cX4_letterAt 13 = .ok (.getfield 9, 3) := by decide +kernel
theorem dX4_letterAt_16 : decode cX4_letterAt 16 = .ok (.iload_n 1, 1) := by decide +kernel
theorem dX4_letterAt_17 : decode cX4_letterAt 17 = .ok (.caload, 1) := by decide +kernel
theorem dX4_letterAt_18 : decode cX4_letterAt 18 = .ok (.goto 4, 3) := by decide +kernel
theorem dX4_letterAt_21 : decode cX4_letterAt 21 = .ok (.iconst 0, 1) := by decide +kernel
theorem dX4_letterAt_22 : decode cX4_letterAt 22 = .ok (.ireturn, 1) := by decide +kernel
theorem dX4_isFigure_0 : decode cX4_isFigure 0 = .ok (.aload_n 0, 1) := by decide +kernel
theorem dX4_isFigure_1 : decode cX4_isFigure 1 = .ok (.iload_n 1, 1) := by decide +kernel
theorem dX4_isFigure_2 : decode cX4_isFigure 2 = .ok (.invokevirtual 32, 3) := by decide +kernel
theorem dX4_isFigure_5 : decode cX4_isFigure 5 = .ok (.bipush 48, 2) := by decide +kernel
theorem dX4_isFigure_7 : decode cX4_isFigure 7 = .ok (.if_icmp .lt 17, 3) := by decide +kernel
theorem dX4_isFigure_10 : decode cX4_isFigure 10 = .ok (.aload_n 0, 1) := by decide +kernel
theorem dX4_isFigure_11 : decode cX4_isFigure 11 = .ok (.iload_n 1, 1) := by decide +kernel
theorem dX4_isFigure_12 : decode cX4_isFigure 12 = .ok (.invokevirtual 32, 3) := by decide +kernel
theorem dX4_isFigure_15 : decode cX4_isFigure 15 = .ok (.bipush 57, 2) := by decide +kernel
theorem dX4_isFigure_17 : decode cX4_isFigure 17 = .ok (.if_icmp .gt 7, 3) := by decide +kernel
theorem dX4_isFigure_20 : decode cX4_isFigure 20 = .ok (.iconst 1, 1) := by decide +kernel
theorem dX4_isFigure_21 : decode cX4_isFigure 21 = .ok (.goto 4, 3) := by decide +kernel
theorem dX4_isFigure_24 : decode cX4_isFigure 24 = .ok (.iconst 0, 1) := by decide +kernel
theorem dX4_isFigure_25 : decode cX4_isFigure 25 = .ok (.ireturn, 1) := by decide +kernel
theorem dX4_figuresAt_0 : decode cX4_figuresAt 0 = .ok (.aload_n 0, 1) := by decide +kernel
theorem dX4_figuresAt_1 : decode cX4_figuresAt 1 = .ok (.iload_n 1, 1) := by decide +kernel
theorem dX4_figuresAt_2 : decode cX4_figuresAt 2 = .ok (.invokevirtual 48, 3) := by decide +kernel
theorem dX4_figuresAt_5 : decode cX4_figuresAt 5 = .ok (.ifCond .ne 5, 3) := by decide +kernel
theorem dX4_figuresAt_8 : decode cX4_figuresAt 8 = .ok (.iconst 0, 1) := by decide +kernel
theorem dX4_figuresAt_9 : decode cX4_figuresAt 9 = .ok (.ireturn, 1) := by decide +kernel
theorem dX4_figuresAt_10 : decode cX4_figuresAt 10 = .ok (.aload_n 0, 1) := by decide +kernel
