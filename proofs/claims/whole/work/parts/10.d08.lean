theorem dX4_figuresAt_11 : decode cX4_figuresAt 11 = .ok (.iload_n 1, 1) := by decide +kernel
theorem dX4_figuresAt_12 : decode cX4_figuresAt 12 = .ok (.iconst 1, 1) := by decide +kernel
theorem dX4_figuresAt_13 : decode cX4_figuresAt 13 = .ok (.iadd, 1) := by decide +kernel
theorem dX4_figuresAt_14 : decode cX4_figuresAt 14 = .ok (.invokevirtual 48, 3) := by decide +kernel
theorem dX4_figuresAt_17 : decode cX4_figuresAt 17 = .ok (.ifCond .eq 7, 3) := by decide +kernel
theorem dX4_figuresAt_20 : decode cX4_figuresAt 20 = .ok (.iconst 2, 1) := by decide +kernel
theorem dX4_figuresAt_21 : decode cX4_figuresAt 21 = .ok (.goto 4, 3) := by decide +kernel
theorem dX4_figuresAt_24 : decode cX4_figuresAt 24 = .ok (.iconst 1, 1) := by decide +kernel
theorem dX4_figuresAt_25 : decode cX4_figuresAt 25 = .ok (.ireturn, 1) := by decide +kernel
theorem dX4_numberAt_0 : decode cX4_numberAt 0 = .ok (.aload_n 0, 1) := by decide +kernel
theorem dX4_numberAt_1 : decode cX4_numberAt 1 = .ok (.iload_n 1, 1) := by decide +kernel
theorem dX4_numberAt_2 : decode cX4_numberAt 2 = .ok (.invokevirtual 32, 3) := by decide +kernel
theorem dX4_numberAt_5 : decode cX4_numberAt 5 = .ok (.bipush 48, 2) := by decide +kernel
theorem dX4_numberAt_7 : decode cX4_numberAt 7 = .ok (.isub, 1) := by decide +kernel
theorem dX4_numberAt_8 : decode cX4_numberAt 8 = .ok (.istore_n 3, 1) := by decide +kernel
theorem dX4_numberAt_9 : decode cX4_numberAt 9 = .ok (.iload_n 2, 1) := by decide +kernel
theorem dX4_numberAt_10 : decode cX4_numberAt 10 = .ok (.iconst 1, 1) := by decide +kernel
theorem dX4_numberAt_11 : decode cX4_numberAt 11 = .ok (.if_icmp .ne 7, 3) := by decide +kernel
theorem dX4_numberAt_14 : decode cX4_numberAt 14 = .ok (.iload_n 3, 1) := by decide +kernel
theorem dX4_numberAt_15 : decode cX4_numberAt 15 = .ok (.goto 18, 3) := by decide +kernel
theorem dX4_numberAt_18 : decode cX4_numberAt 18 = .ok (.iload_n 3, 1) := by decide +kernel
theorem dX4_numberAt_19 : decode cX4_numberAt 19 = .ok (.bipush 10, 2) := by decide +kernel
theorem dX4_numberAt_21 : decode cX4_numberAt 21 = .ok (.imul, 1) := by decide +kernel
theorem dX4_numberAt_22 : decode cX4_numberAt 22 = .ok (.aload_n 0, 1) := by decide +kernel
theorem dX4_numberAt_23 : decode cX4_numberAt 23 = .ok (.iload_n 1, 1) := by decide +kernel
theorem dX4_numberAt_24 : decode cX4_numberAt 24 = .ok (.iconst 1, 1) := by decide +kernel
theorem dX4_numberAt_25 : decode cX4_numberAt 25 = .ok (.iadd, 1) := by decide +kernel
theorem dX4_numberAt_26 : decode cX4_numberAt 26 = .ok (.invokevirtual 32, 3) := by decide +kernel
theorem dX4_numberAt_29 : decode cX4_numberAt 29 = .ok (.iadd, 1) := by decide +kernel
theorem dX4_numberAt_30 : decode cX4_numberAt 30 = .ok (.bipush 48, 2) := by decide +kernel
theorem dX4_numberAt_32 : decode cX4_numberAt 32 = .ok (.isub, 1) := by decide +kernel
theorem dX4_numberAt_33 : decode cX4_numberAt 33 = .ok (.ireturn, 1) := by decide +kernel
theorem dX5_init_0 : decode cX5_init 0 = .ok (.aload_n 0, 1) := by decide +kernel
theorem dX5_init_1 : decode cX5_init 1 = .ok (.invokespecial 3, 3) := by decide +kernel
theorem dX5_init_4 : decode cX5_init 4 = .ok (.aload_n 0, 1) := by decide +kernel
theorem dX5_init_5 : decode cX5_init 5 = .ok (.iconst 5, 1) := by decide +kernel
theorem dX5_init_6 : decode cX5_init 6 = .ok (.newarray .int, 2) := by decide +kernel
theorem dX5_init_8 : decode cX5_init 8 = .ok (.putfield 9, 3) := by decide +kernel
theorem dX5_init_11 : decode cX5_init 11 = .ok (.aload_n 0, 1) := by decide +kernel
theorem dX5_init_12 : decode cX5_init 12 = .ok (.iconst 5, 1) := by decide +kernel
theorem dX5_init_13 : decode cX5_init 13 = .ok (.newarray .int, 2) := by decide +kernel
theorem dX5_init_15 : decode cX5_init 15 = .ok (.putfield 15, 3) := by decide +kernel
theorem dX5_init_18 : decode cX5_init 18 = .ok (.aload_n 0, 1) := by decide +kernel
theorem dX5_init_19 : decode cX5_init 19 = .ok (.iconst 5, 1) := by decide +kernel
theorem dX5_init_20 : decode cX5_init 20 = .ok (.newarray .int, 2) := by decide +kernel
theorem dX5_init_22 : decode cX5_init 22 = .ok (.putfield 18, 3) := by decide +kernel
theorem dX5_init_25 : decode cX5_init 25 = .ok (.aload_n 0, 1) := by decide +kernel
theorem dX5_init_26 : decode cX5_init 26 = .ok (.iconst 5, 1) := by decide +kernel
theorem dX5_init_27 : decode cX5_init 27 = .ok (.newarray .int, 2) := by decide +kernel
theorem dX5_init_29 : decode cX5_init 29 = .ok (.putfield 21, 3) := by decide +kernel
theorem dX5_init_32 : decode cX5_init 32 = .ok (.aload_n 0, 1) := by decide +kernel
theorem dX5_init_33 : decode cX5_init 33 = .ok (.bipush 25, 2) := by decide +kernel
theorem dX5_init_35 : decode cX5_init 35 = .ok (.newarray .int, 2) := by decide +kernel
theorem dX5_init_37 : decode cX5_init 37 = .ok (.putfield 24, 3) := by decide +kernel
theorem dX5_init_40 : decode cX5_init 40 = .ok (.aload_n 0, 1) := by decide +kernel
theorem dX5_init_41 : decode cX5_init 41 = .ok (.iconst 0, 1) := by decide +kernel
theorem dX5_init_42 : decode cX5_init 42 = .ok (.putfield 27, 3) := by decide +kernel
theorem dX5_init_45 : decode cX5_init 45 = .ok (.aload_n 0, 1) := by decide +kernel
theorem dX5_init_46 : decode cX5_init 46 = .ok (.iconst 0, 1) := by decide +kernel
theorem dX5_init_47 : decode cX5_init 47 = .ok (.putfield 31, 3) := by decide +kernel
theorem dX5_init_50 : decode cX5_init 50 = .ok (.aload_n 0, 1) := by decide +kernel
theorem dX5_init_51 : decode cX5_init 51 = .ok (.aload_n 1, 1) := by decide +kernel
theorem dX5_init_52 : decode cX5_init 52 = .ok (.putfield 34, 3) := by decide +kernel
theorem dX5_init_55 : decode cX5_init 55 = .ok (.return_, 1) := by decide +kernel
theorem dX5_layOut_0 : decode cX5_layOut 0 = .ok (.aload_n 0, 1) := by decide +kernel
theorem dX5_layOut_1 : decode cX5_layOut 1 = .ok (.getfield 34, 3) := by decide +kernel
theorem dX5_layOut_4 : decode cX5_layOut 4 = .ok (.getfield 38, 3) := by decide +kernel
theorem dX5_layOut_7 : decode cX5_layOut 7 = .ok (.iconst 0, 1) := by decide +kernel
theorem dX5_layOut_8 : decode cX5_layOut 8 = .ok (.aload_n 0, 1) := by decide +kernel
theorem dX5_layOut_9 : decode cX5_layOut 9 = .ok (.getfield 9, 3) := by decide +kernel
theorem dX5_layOut_12 : decode cX5_layOut 12 = .ok (.iconst 0, 1) := by decide +kernel
theorem dX5_layOut_13 : decode cX5_layOut 13 = .ok (.iconst 5, 1) := by decide +kernel
theorem dX5_layOut_14 : decode cX5_layOut 14 = .ok (.invokestatic 41, 3) := by decide +kernel
theorem dX5_layOut_17 : decode cX5_layOut 17 = .ok (.aload_n 0, 1) := by decide +kernel
theorem dX5_layOut_18 : decode cX5_layOut 18 = .ok (.getfield 34, 3) := by decide +kernel
theorem dX5_layOut_21 : decode cX5_layOut 21 = .ok (.getfield 47, 3) := by decide +kernel
theorem dX5_layOut_24 : decode cX5_layOut 24 = .ok (.iconst 0, 1) := by decide +kernel
theorem dX5_layOut_25 : decode cX5_layOut 25 = .ok (.aload_n 0, 1) := by decide +kernel
theorem dX5_layOut_26 : decode cX5_layOut 26 = .ok (.getfield 24, 3) := by decide +kernel
theorem dX5_layOut_29 : decode cX5_layOut 29 = .ok (.iconst 0, 1) := by decide +kernel
theorem dX5_layOut_30 : decode cX5_layOut 30 = .ok (.aload_n 0, 1) := by decide +kernel
theorem dX5_layOut_31 : decode cX5_layOut 31 = .ok (.getfield 24, 3) := by decide +kernel
theorem dX5_layOut_34 : decode cX5_layOut 34 = .ok (.arraylength, 1) := by decide +kernel
theorem dX5_layOut_35 : decode cX5_layOut 35 = .ok (.invokestatic 41, 3) := by decide +kernel
theorem dX5_layOut_38 : decode cX5_layOut 38 = .ok (.aload_n 0, 1) := by decide +kernel
theorem dX5_layOut_39 : decode cX5_layOut 39 = .ok (.getfield 15, 3) := by decide +kernel
theorem dX5_layOut_42 : decode cX5_layOut 42 = .ok (.iconst 0, 1) := by decide +kernel
theorem dX5_layOut_43 : decode cX5_layOut 43 = .ok (.invokestatic 48, 3) := by decide +kernel
theorem dX5_layOut_46 : decode cX5_layOut 46 = .ok (.aload_n 0, 1) := by decide +kernel
theorem dX5_layOut_47 : decode cX5_layOut 47 = .ok (.getfield 18, 3) := by decide +kernel
theorem dX5_layOut_50 : decode cX5_layOut 50 = .ok (.iconst 0, 1) := by decide +kernel
theorem dX5_layOut_51 : decode cX5_layOut 51 = .ok (.invokestatic 48, 3) := by decide +kernel
theorem dX5_layOut_54 : decode cX5_layOut 54 = .ok (.aload_n 0, 1) := by decide +kernel
theorem dX5_layOut_55 : decode cX5_layOut 55 = .ok (.getfield 21, 3) := by decide +kernel
theorem dX5_layOut_58 : decode cX5_layOut 58 = .ok (.iconst 0, 1) := by decide +kernel
theorem dX5_layOut_59 : decode cX5_layOut 59 = .ok (.invokestatic 48, 3) := by decide +kernel
theorem dX5_layOut_62 : decode cX5_layOut 62 = .ok (.aload_n 0, 1) := by decide +kernel
theorem dX5_layOut_63 : decode cX5_layOut 63 = .ok (.aload_n 0, 1) := by decide +kernel
theorem dX5_layOut_64 : decode cX5_layOut 64 = .ok (.getfield 34, 3) := by decide +kernel
theorem dX5_layOut_67 : decode cX5_layOut 67 = .ok (.getfield 54, 3) := by decide +kernel
theorem dX5_layOut_70 : decode cX5_layOut 70 = .ok (.putfield 27, 3) := by decide +kernel
theorem dX5_layOut_73 : decode cX5_layOut 73 = .ok (.aload_n 0, 1) := by decide +kernel
theorem dX5_layOut_74 : decode cX5_layOut 74 = .ok (.iconst 0, 1) := by decide +kernel
theorem dX5_layOut_75 : decode cX5_layOut 75 = .ok (.putfield 31, 3) := by decide +kernel
theorem dX5_layOut_78 : decode cX5_layOut 78 = .ok (.return_, 1) := by decide +kernel
theorem dX5_copyFrom_0 : decode cX5_copyFrom 0 = .ok (.aload_n 1, 1) := by decide +kernel
theorem dX5_copyFrom_1 : decode cX5_copyFrom 1 = .ok (.getfield 9, 3) := by decide +kernel
theorem dX5_copyFrom_4 : decode cX5_copyFrom 4 = .ok (.iconst 0, 1) := by decide +kernel
theorem dX5_copyFrom_5 : decode cX5_copyFrom 5 = .ok (.aload_n 0, 1) := by decide +kernel
theorem dX5_copyFrom_6 : decode cX5_copyFrom 6 = .ok (.getfield 9, 3) := by decide +kernel
theorem dX5_copyFrom_9 : decode cX5_copyFrom 9 = .ok (.iconst 0, 1) := by decide +kernel
theorem dX5_copyFrom_10 : decode cX5_copyFrom 10 = .ok (.iconst 5, 1) := by decide +kernel
theorem dX5_copyFrom_11 : decode cX5_copyFrom 11 = .ok (.invokestatic 41, 3) := by decide +kernel
theorem dX5_copyFrom_14 : decode cX5_copyFrom 14 = .ok (.aload_n 1, 1) := by decide +kernel
theorem dX5_copyFrom_15 : decode cX5_copyFrom 15 = .ok (.getfield 15, 3) := by decide +kernel
theorem dX5_copyFrom_18 : decode cX5_copyFrom 18 = .ok (.iconst 0, 1) := by decide +kernel
theorem dX5_copyFrom_19 : decode cX5_copyFrom 19 = .ok (.aload_n 0, 1) := by decide +kernel
theorem dX5_copyFrom_20 : decode cX5_copyFrom 20 = .ok (.getfield 15, 3) := by decide +kernel
theorem dX5_copyFrom_23 : decode cX5_copyFrom 23 = .ok (.iconst 0, 1) := by decide +kernel
theorem dX5_copyFrom_24 : decode cX5_copyFrom 24 = .ok (.iconst 5, 1) := by decide +kernel
theorem dX5_copyFrom_25 : decode cX5_copyFrom 25 = .ok (.invokestatic 41, 3) := by decide +kernel
theorem dX5_copyFrom_28 : decode cX5_copyFrom 28 = .ok (.aload_n 1, 1) := by decide +kernel
theorem dX5_copyFrom_29 : decode cX5_copyFrom 29 = .ok (.getfield 18, 3) := by decide +kernel
theorem dX5_copyFrom_32 : decode cX5_copyFrom 32 = .ok (.iconst 0, 1) := by decide +kernel
theorem dX5_copyFrom_33 : decode cX5_copyFrom 33 = .ok (.aload_n 0, 1) := by decide +kernel
theorem dX5_copyFrom_34 : decode cX5_copyFrom 34 = .ok (.getfield 18, 3) := by decide +kernel
theorem dX5_copyFrom_37 : decode cX5_copyFrom 37 = .ok (.iconst 0, 1) := by decide +kernel
theorem dX5_copyFrom_38 : decode cX5_copyFrom 38 = .ok (.iconst 5, 1) := by decide +kernel
theorem dX5_copyFrom_39 : decode cX5_copyFrom 39 = .ok (.invokestatic 41, 3) := by decide +kernel
theorem dX5_copyFrom_42 : decode cX5_copyFrom 42 = .ok (.aload_n 1, 1) := by decide +kernel
theorem dX5_copyFrom_43 : decode cX5_copyFrom 43 = .ok (.getfield 21, 3) := by decide +kernel
theorem dX5_copyFrom_46 : decode cX5_copyFrom 46 = .ok (.iconst 0, 1) := by decide +kernel
theorem dX5_copyFrom_47 : decode cX5_copyFrom 47 = .ok (.aload_n 0, 1) := by decide +kernel
theorem dX5_copyFrom_48 : decode cX5_copyFrom 48 = .ok (.getfield 21, 3) := by decide +kernel
theorem dX5_copyFrom_51 : decode cX5_copyFrom 51 = .ok (.iconst 0, 1) := by decide +kernel
theorem dX5_copyFrom_52 : decode cX5_copyFrom 52 = .ok (.iconst 5, 1) := by decide +kernel
theorem dX5_copyFrom_53 : decode cX5_copyFrom 53 = .ok (.invokestatic 41, 3) := by decide +kernel
theorem dX5_copyFrom_56 : decode cX5_copyFrom 56 = .ok (.aload_n 1, 1) := by decide +kernel
theorem dX5_copyFrom_57 : decode cX5_copyFrom 57 = .ok (.getfield 24, 3) := by decide +kernel
theorem dX5_copyFrom_60 : decode cX5_copyFrom 60 = .ok (.iconst 0, 1) := by decide +kernel
theorem dX5_copyFrom_61 : decode cX5_copyFrom 61 = .ok (.aload_n 0, 1) := by decide +kernel
theorem dX5_copyFrom_62 : decode cX5_copyFrom 62 = .ok (.getfield 24, 3) := by decide +kernel
theorem dX5_copyFrom_65 : decode cX5_copyFrom 65 = .ok (.iconst 0, 1) := by decide +kernel
theorem dX5_copyFrom_66 : decode cX5_copyFrom 66 = .ok (.aload_n 0, 1) := by decide +kernel
theorem dX5_copyFrom_67 : decode cX5_copyFrom 67 = .ok (.getfield 24, 3) := by decide +kernel
theorem dX5_copyFrom_70 : decode cX5_copyFrom 70 = .ok (.arraylength, 1) := by decide +kernel
theorem dX5_copyFrom_71 : decode cX5_copyFrom 71 = .ok (.invokestatic 41, 3) := by decide +kernel
theorem dX5_copyFrom_74 : decode cX5_copyFrom 74 = .ok (.aload_n 0, 1) := by decide +kernel
theorem dX5_copyFrom_75 : decode cX5_copyFrom 75 = .ok (.aload_n 1, 1) := by decide +kernel
theorem dX5_copyFrom_76 : decode cX5_copyFrom 76 = .ok (.getfield 27, 3) := by decide +kernel
theorem dX5_copyFrom_79 : decode cX5_copyFrom 79 = .ok (.putfield 27, 3) := by decide +kernel
theorem dX5_copyFrom_82 : decode cX5_copyFrom 82 = .ok (.aload_n 0, 1) := by decide +kernel
theorem dX5_copyFrom_83 : decode cX5_copyFrom 83 = .ok (.aload_n 1, 1) := by decide +kernel
theorem dX5_copyFrom_84 : decode cX5_copyFrom 84 = .ok (.getfield 31, 3) := by decide +kernel
theorem dX5_copyFrom_87 : decode cX5_copyFrom 87 = .ok (.putfield 31, 3) := by decide +kernel
theorem dX5_copyFrom_90 : decode cX5_copyFrom 90 = .ok (.return_, 1) := by decide +kernel
theorem dX5_stands_0 : decode cX5_stands 0 = .ok (.aload_n 0, 1) := by decide +kernel
theorem dX5_stands_1 : decode cX5_stands 1 = .ok (.getfield 21, 3) := by decide +kernel
theorem dX5_stands_4 : decode cX5_stands 4 = .ok (.iload_n 1, 1) := by decide +kernel
theorem dX5_stands_5 : decode cX5_stands 5 = .ok (.iaload, 1) := by decide +kernel
theorem dX5_stands_6 : decode cX5_stands 6 = .ok (.aload_n 0, 1) := by decide +kernel
theorem dX5_stands_7 : decode cX5_stands 7 = .ok (.getfield 34, 3) := by decide +kernel
theorem dX5_stands_10 : decode cX5_stands 10 = .ok (.getfield 55, 3) := by decide +kernel
theorem dX5_stands_13 : decode cX5_stands 13 = .ok (.iload_n 1, 1) := by decide +kernel
theorem dX5_stands_14 : decode cX5_stands 14 = .ok (.iaload, 1) := by decide +kernel
theorem dX5_stands_15 : decode cX5_stands 15 = .ok (.iconst 3, 1) := by decide +kernel
theorem dX5_stands_16 : decode cX5_stands 16 = .ok (.if_icmp .ne 7, 3) := by decide +kernel
theorem dX5_stands_19 : decode cX5_stands 19 = .ok (.iconst 2, 1) := by decide +kernel
theorem dX5_stands_20 : decode cX5_stands 20 = .ok (.goto 4, 3) := by decide +kernel
theorem dX5_stands_23 : decode cX5_stands 23 = .ok (.iconst 1, 1) := by decide +kernel
theorem dX5_stands_24 : decode cX5_stands 24 = .ok (.if_icmp .ge 7, 3) := by decide +kernel
theorem dX5_stands_27 : decode cX5_stands 27 = .ok (.iconst 1, 1) := by decide +kernel
theorem dX5_stands_28 : decode cX5_stands 28 = .ok (.goto 4, 3) := by decide +kernel
theorem dX5_stands_31 : decode cX5_stands 31 = .ok (.iconst 0, 1) := by decide +kernel
theorem dX5_stands_32 : decode cX5_stands 32 = .ok (.ireturn, 1) := by decide +kernel
theorem dX5_heldBy_0 : decode cX5_heldBy 0 = .ok (.aload_n 0, 1) := by decide +kernel
theorem dX5_heldBy_1 : decode cX5_heldBy 1 = .ok (.getfield 24, 3) := by decide +kernel
theorem dX5_heldBy_4 : decode cX5_heldBy 4 = .ok (.iload_n 1, 1) := by decide +kernel
theorem dX5_heldBy_5 : decode cX5_heldBy 5 = .ok (.iconst 5, 1) := by decide +kernel
theorem dX5_heldBy_6 : decode cX5_heldBy 6 = .ok (.imul, 1) := by decide +kernel
theorem dX5_heldBy_7 : decode cX5_heldBy 7 = .ok (.iload_n 2, 1) := by decide +kernel
theorem dX5_heldBy_8 : decode cX5_heldBy 8 = .ok (.iadd, 1) := by decide +kernel
theorem dX5_heldBy_9 : decode cX5_heldBy 9 = .ok (.iaload, 1) := by decide +kernel
theorem dX5_heldBy_10 : decode cX5_heldBy 10 = .ok (.ireturn, 1) := by decide +kernel
theorem dX5_setProp_0 : decode cX5_setProp 0 = .ok (.aload_n 0, 1) := by decide +kernel
theorem dX5_setProp_1 : decode cX5_setProp 1 = .ok (.getfield 24, 3) := by decide +kernel
theorem dX5_setProp_4 : decode cX5_setProp 4 = .ok (.iload_n 1, 1) := by decide +kernel
theorem dX5_setProp_5 : decode cX5_setProp 5 = .ok (.iconst 5, 1) := by decide +kernel
theorem dX5_setProp_6 : decode cX5_setProp 6 = .ok (.imul, 1) := by decide +kernel
theorem dX5_setProp_7 : decode cX5_setProp 7 = .ok (.iload_n 2, 1) := by decide +kernel
theorem dX5_setProp_8 : decode cX5_setProp 8 = .ok (.iadd, 1) := by decide +kernel
theorem dX5_setProp_9 : decode cX5_setProp 9 = .ok (.iload_n 3, 1) := by decide +kernel
theorem dX5_setProp_10 : decode cX5_setProp 10 = .ok (.iastore, 1) := by decide +kernel
theorem dX5_setProp_11 : decode cX5_setProp 11 = .ok (.return_, 1) := by decide +kernel
theorem dX5_holdersOf_0 : decode cX5_holdersOf 0 = .ok (.iconst 0, 1) := by decide +kernel
theorem dX5_holdersOf_1 : decode cX5_holdersOf 1 = .ok (.istore_n 2, 1) := by decide +kernel
theorem dX5_holdersOf_2 : decode cX5_holdersOf 2 = .ok (.iconst 0, 1) := by decide +kernel
theorem dX5_holdersOf_3 : decode cX5_holdersOf 3 = .ok (.istore_n 3, 1) := by decide +kernel
theorem dX5_holdersOf_4 : decode cX5_holdersOf 4 = .ok (.iload_n 3, 1) := by decide +kernel
theorem dX5_holdersOf_5 : decode cX5_holdersOf 5 = .ok (.aload_n 0, 1) := by decide +kernel
theorem dX5_holdersOf_6 : decode cX5_holdersOf 6 = .ok (.getfield 34, 3) := by decide +kernel
theorem dX5_holdersOf_9 : decode cX5_holdersOf 9 = .ok (.getfield 58, 3) := by decide +kernel
theorem dX5_holdersOf_12 : decode cX5_holdersOf 12 = .ok (.if_icmp .ge 24, 3) := by decide +kernel
theorem dX5_holdersOf_15 : decode cX5_holdersOf 15 = .ok (.aload_n 0, 1) := by decide +kernel
theorem dX5_holdersOf_16 : decode cX5_holdersOf 16 = .ok (.iload_n 3, 1) := by decide +kernel
theorem dX5_holdersOf_17 : decode cX5_holdersOf 17 = .ok (.iload_n 1, 1) := by decide +kernel
theorem dX5_holdersOf_18 : decode cX5_holdersOf 18 = .ok (.invokevirtual 61, 3) := by decide +kernel
theorem dX5_holdersOf_21 : decode cX5_holdersOf 21 = .ok (.ifCond .le 9, 3) := by decide +kernel
theorem dX5_holdersOf_24 : decode cX5_holdersOf 24 = .ok (.iload_n 2, 1) := by decide +kernel
theorem dX5_holdersOf_25 : decode cX5_holdersOf 25 = .ok (.iconst 1, 1) := by decide +kernel
theorem dX5_holdersOf_26 : decode cX5_holdersOf 26 = .ok (.iload_n 3, 1) := by decide +kernel
theorem dX5_holdersOf_27 : decode cX5_holdersOf 27 = .ok (.ishl, 1) := by decide +kernel
theorem dX5_holdersOf_28 : decode cX5_holdersOf 28 = .ok (.ior, 1) := by decide +kernel
theorem dX5_holdersOf_29 : decode cX5_holdersOf 29 = .ok (.istore_n 2, 1) := by decide +kernel
theorem dX5_holdersOf_30 : decode cX5_holdersOf 30 = .ok (.iinc 3 1, 3) := by decide +kernel
theorem dX5_holdersOf_33 : decode cX5_holdersOf 33 = .ok (.goto (-29), 3) := by decide +kernel
theorem dX5_holdersOf_36 : decode cX5_holdersOf 36 = .ok (.iload_n 2, 1) := by decide +kernel
theorem dX5_holdersOf_37 : decode cX5_holdersOf 37 = .ok (.ireturn, 1) := by decide +kernel
theorem dX5_goRound_0 : decode cX5_goRound 0 = .ok (.aload_n 0, 1) := by decide +kernel
theorem dX5_goRound_1 : decode cX5_goRound 1 = .ok (.getfield 34, 3) := by decide +kernel
theorem dX5_goRound_4 : decode cX5_goRound 4 = .ok (.getfield 55, 3) := by decide +kernel
theorem dX5_goRound_7 : decode cX5_goRound 7 = .ok (.iload_n 1, 1) := by decide +kernel
theorem dX5_goRound_8 : decode cX5_goRound 8 = .ok (.iaload, 1) := by decide +kernel
theorem dX5_goRound_9 : decode cX5_goRound 9 = .ok (.iconst 2, 1) := by decide +kernel
theorem dX5_goRound_10 : decode cX5_goRound 10 = .ok (.if_icmp .ne 7, 3) := by decide +kernel
theorem dX5_goRound_13 : decode cX5_goRound 13 = .ok (.iconst 2, 1) := by decide +kernel
theorem dX5_goRound_14 : decode cX5_goRound 14 = .ok (.goto 4, 3) := by decide +kernel
theorem dX5_goRound_17 : decode cX5_goRound 17 = .ok (.iconst 1, 1) := by decide +kernel
theorem dX5_goRound_18 : decode cX5_goRound 18 = .ok (.istore_n 2, 1) := by decide +kernel
theorem dX5_goRound_19 : decode cX5_goRound 19 = .ok (.aload_n 0, 1) := by decide +kernel
theorem dX5_goRound_20 : decode cX5_goRound 20 = .ok (.getfield 15, 3) := by decide +kernel
theorem dX5_goRound_23 : decode cX5_goRound 23 = .ok (.iload_n 1, 1) := by decide +kernel
theorem dX5_goRound_24 : decode cX5_goRound 24 = .ok (.aload_n 0, 1) := by decide +kernel
theorem dX5_goRound_25 : decode cX5_goRound 25 = .ok (.getfield 15, 3) := by decide +kernel
theorem dX5_goRound_28 : decode cX5_goRound 28 = .ok (.iload_n 1, 1) := by decide +kernel
theorem dX5_goRound_29 : decode cX5_goRound 29 = .ok (.iaload, 1) := by decide +kernel
theorem dX5_goRound_30 : decode cX5_goRound 30 = .ok (.iload_n 2, 1) := by decide +kernel
theorem dX5_goRound_31 : decode cX5_goRound 31 = .ok (.iadd, 1) := by decide +kernel
theorem dX5_goRound_32 : decode cX5_goRound 32 = .ok (.bipush 7, 2) := by decide +kernel
theorem dX5_goRound_34 : decode cX5_goRound 34 = .ok (.invokestatic 65, 3) := by decide +kernel
theorem dX5_goRound_37 : decode cX5_goRound 37 = .ok (.iastore, 1) := by decide +kernel
theorem dX5_goRound_38 : decode cX5_goRound 38 = .ok (.return_, 1) := by decide +kernel
theorem dX5_wouldFall_0 : decode cX5_wouldFall 0 = .ok (.iload_n 2, 1) := by decide +kernel
theorem dX5_wouldFall_1 : decode cX5_wouldFall 1 = .ok (.aload_n 0, 1) := by decide +kernel
theorem dX5_wouldFall_2 : decode cX5_wouldFall 2 = .ok (.getfield 15, 3) := by decide +kernel
theorem dX5_wouldFall_5 : decode cX5_wouldFall 5 = .ok (.iload_n 1, 1) := by decide +kernel
theorem dX5_wouldFall_6 : decode cX5_wouldFall 6 = .ok (.iaload, 1) := by decide +kernel
theorem dX5_wouldFall_7 : decode cX5_wouldFall 7 = .ok (.iconst 1, 1) := by decide +kernel
theorem dX5_wouldFall_8 : decode cX5_wouldFall 8 = .ok (.iadd, 1) := by decide +kernel
theorem dX5_wouldFall_9 : decode cX5_wouldFall 9 = .ok (.imul, 1) := by decide +kernel
theorem dX5_wouldFall_10 : decode cX5_wouldFall 10 = .ok (.aload_n 0, 1) := by decide +kernel
theorem dX5_wouldFall_11 : decode cX5_wouldFall 11 = .ok (.getfield 9, 3) := by decide +kernel
theorem dX5_wouldFall_14 : decode cX5_wouldFall 14 = .ok (.iload_n 1, 1) := by decide +kernel
theorem dX5_wouldFall_15 : decode cX5_wouldFall 15 = .ok (.iaload, 1) := by decide +kernel
theorem dX5_wouldFall_16 : decode cX5_wouldFall 16 = .ok (.if_icmp .lt 7, 3) := by decide +kernel
theorem dX5_wouldFall_19 : decode cX5_wouldFall 19 = .ok (.iconst 1, 1) := by decide +kernel
theorem dX5_wouldFall_20 : decode cX5_wouldFall 20 = .ok (.goto 4, 3) := by decide +kernel
theorem dX5_wouldFall_23 : decode cX5_wouldFall 23 = .ok (.iconst 0, 1) := by decide +kernel
theorem dX5_wouldFall_24 : decode cX5_wouldFall 24 = .ok (.ireturn, 1) := by decide +kernel
theorem dX5_leansInward_0 : decode cX5_leansInward 0 = .ok (.aload_n 0, 1) := by decide +kernel
theorem dX5_leansInward_1 : decode cX5_leansInward 1 = .ok (.getfield 15, 3) := by decide +kernel
theorem dX5_leansInward_4 : decode cX5_leansInward 4 = .ok (.iload_n 1, 1) := by decide +kernel
theorem dX5_leansInward_5 : decode cX5_leansInward 5 = .ok (.iaload, 1) := by decide +kernel
theorem dX5_leansInward_6 : decode cX5_leansInward 6 = .ok (.aload_n 0, 1) := by decide +kernel
theorem dX5_leansInward_7 : decode cX5_leansInward 7 = .ok (.getfield 34, 3) := by decide +kernel
theorem dX5_leansInward_10 : decode cX5_leansInward 10 = .ok (.getfield 70, 3) := by decide +kernel
theorem dX5_leansInward_13 : decode cX5_leansInward 13 = .ok (.iload_n 1, 1) := by decide +kernel
theorem dX5_leansInward_14 : decode cX5_leansInward 14 = .ok (.iaload, 1) := by decide +kernel
theorem dX5_leansInward_15 : decode cX5_leansInward 15 = .ok (.if_icmp .lt 7, 3) := by decide +kernel
theorem dX5_leansInward_18 : decode cX5_leansInward 18 = .ok (.iconst 1, 1) := by decide +kernel
theorem dX5_leansInward_19 : decode cX5_leansInward 19 = .ok (.goto 4, 3) := by decide +kernel
theorem dX5_leansInward_22 : decode cX5_leansInward 22 = .ok (.iconst 0, 1) := by decide +kernel
theorem dX5_leansInward_23 : decode cX5_leansInward 23 = .ok (.ireturn, 1) := by decide +kernel
theorem dX5_fewestTrumpets_0 : decode cX5_fewestTrumpets 0 = .ok (.iconst 1, 1) := by decide +kernel
theorem dX5_fewestTrumpets_1 : decode cX5_fewestTrumpets 1 = .ok (.istore_n 2, 1) := by decide +kernel
theorem dX5_fewestTrumpets_2 : decode cX5_fewestTrumpets 2 = .ok (.iload_n 2, 1) := by decide +kernel
theorem dX5_fewestTrumpets_3 : decode cX5_fewestTrumpets 3 = .ok (.bipush 9, 2) := by decide +kernel
theorem dX5_fewestTrumpets_5 : decode cX5_fewestTrumpets 5 = .ok (.if_icmp .gt 20, 3) := by decide +kernel
theorem dX5_fewestTrumpets_8 : decode cX5_fewestTrumpets 8 = .ok (.aload_n 0, 1) := by decide +kernel
theorem dX5_fewestTrumpets_9 : decode cX5_fewestTrumpets 9 = .ok (.iload_n 1, 1) := by decide +kernel
theorem dX5_fewestTrumpets_10 : decode cX5_fewestTrumpets 10 = .ok (.iload_n 2, 1) := by decide +kernel
theorem dX5_fewestTrumpets_11 : decode cX5_fewestTrumpets 11 = .ok (.invokevirtual 73, 3) := by decide +kernel
theorem dX5_fewestTrumpets_14 : decode cX5_fewestTrumpets 14 = .ok (.ifCond .eq 5, 3) := by decide +kernel
theorem dX5_fewestTrumpets_17 : decode cX5_fewestTrumpets 17 = .ok (.iload_n 2, 1) := by decide +kernel
theorem dX5_fewestTrumpets_18 : decode cX5_fewestTrumpets 18 = .ok (.ireturn, 1) := by decide +kernel
theorem dX5_fewestTrumpets_19 : decode cX5_fewestTrumpets 19 = .ok (.iinc 2 1, 3) := by decide +kernel
theorem dX5_fewestTrumpets_22 : decode cX5_fewestTrumpets 22 = .ok (.goto (-20), 3) := by decide +kernel
theorem dX5_fewestTrumpets_25 : decode cX5_fewestTrumpets 25 = .ok (.bipush (-4), 2) := by decide +kernel
theorem dX5_fewestTrumpets_27 : decode cX5_fewestTrumpets 27 = .ok (.ireturn, 1) := by decide +kernel
theorem dX5_blow_0 : decode cX5_blow 0 = .ok (.aload_n 0, 1) := by decide +kernel
theorem dX5_blow_1 : decode cX5_blow 1 = .ok (.iload_n 1, 1) := by decide +kernel
theorem dX5_blow_2 : decode cX5_blow 2 = .ok (.iload_n 2, 1) := by decide +kernel
theorem dX5_blow_3 : decode cX5_blow 3 = .ok (.invokevirtual 73, 3) := by decide +kernel
theorem dX5_blow_6 : decode cX5_blow 6 = .ok (.ifCond .eq 25, 3) := by decide +kernel
theorem dX5_blow_9 : decode cX5_blow 9 = .ok (.aload_n 0, 1) := by decide +kernel
theorem dX5_blow_10 : decode cX5_blow 10 = .ok (.iload_n 1, 1) := by decide +kernel
theorem dX5_blow_11 : decode cX5_blow 11 = .ok (.invokevirtual 77, 3) := by decide +kernel
theorem dX5_blow_14 : decode cX5_blow 14 = .ok (.ifCond .eq 7, 3) := by decide +kernel
theorem dX5_blow_17 : decode cX5_blow 17 = .ok (.iconst 1, 1) := by decide +kernel
theorem dX5_blow_18 : decode cX5_blow 18 = .ok (.goto 4, 3) := by decide +kernel
theorem dX5_blow_21 : decode cX5_blow 21 = .ok (.iconst 2, 1) := by decide +kernel
theorem dX5_blow_22 : decode cX5_blow 22 = .ok (.istore_n 3, 1) := by decide +kernel
theorem dX5_blow_23 : decode cX5_blow 23 = .ok (.aload_n 0, 1) := by decide +kernel
theorem dX5_blow_24 : decode cX5_blow 24 = .ok (.iload_n 1, 1) := by decide +kernel
theorem dX5_blow_25 : decode cX5_blow 25 = .ok (.iload_n 3, 1) := by decide +kernel
theorem dX5_blow_26 : decode cX5_blow 26 = .ok (.invokevirtual 81, 3) := by decide +kernel
theorem dX5_blow_29 : decode cX5_blow 29 = .ok (.iload_n 3, 1) := by decide +kernel
theorem dX5_blow_30 : decode cX5_blow 30 = .ok (.ireturn, 1) := by decide +kernel
theorem dX5_blow_31 : decode cX5_blow 31 = .ok (.aload_n 0, 1) := by decide +kernel
theorem dX5_blow_32 : decode cX5_blow 32 = .ok (.getfield 9, 3) := by decide +kernel
theorem dX5_blow_35 : decode cX5_blow 35 = .ok (.iload_n 1, 1) := by decide +kernel
theorem dX5_blow_36 : decode cX5_blow 36 = .ok (.aload_n 0, 1) := by decide +kernel
theorem dX5_blow_37 : decode cX5_blow 37 = .ok (.getfield 9, 3) := by decide +kernel
theorem dX5_blow_40 : decode cX5_blow 40 = .ok (.iload_n 1, 1) := by decide +kernel
theorem dX5_blow_41 : decode cX5_blow 41 = .ok (.iaload, 1) := by decide +kernel
theorem dX5_blow_42 : decode cX5_blow 42 = .ok (.iload_n 2, 1) := by decide +kernel
theorem dX5_blow_43 : decode cX5_blow 43 = .ok (.isub, 1) := by decide +kernel
theorem dX5_blow_44 : decode cX5_blow 44 = .ok (.iconst 1, 1) := by decide +kernel
theorem dX5_blow_45 : decode cX5_blow 45 = .ok (.invokestatic 85, 3) := by decide +kernel
theorem dX5_blow_48 : decode cX5_blow 48 = .ok (.iastore, 1) := by decide +kernel
theorem dX5_blow_49 : decode cX5_blow 49 = .ok (.aload_n 0, 1) := by decide +kernel
theorem dX5_blow_50 : decode cX5_blow 50 = .ok (.getfield 15, 3) := by decide +kernel
theorem dX5_blow_53 : decode cX5_blow 53 = .ok (.iload_n 1, 1) := by decide +kernel
theorem dX5_blow_54 : decode cX5_blow 54 = .ok (.iconst 0, 1) := by decide +kernel
theorem dX5_blow_55 : decode cX5_blow 55 = .ok (.iastore, 1) := by decide +kernel
theorem dX5_blow_56 : decode cX5_blow 56 = .ok (.iconst 0, 1) := by decide +kernel
theorem dX5_blow_57 : decode cX5_blow 57 = .ok (.ireturn, 1) := by decide +kernel
theorem dX5_comeDown_0 : decode cX5_comeDown 0 = .ok (.aload_n 0, 1) := by decide +kernel
theorem dX5_comeDown_1 : decode cX5_comeDown 1 = .ok (.iload_n 1, 1) := by decide +kernel
theorem dX5_comeDown_2 : decode cX5_comeDown 2 = .ok (.iload_n 2, 1) := by decide +kernel
theorem dX5_comeDown_3 : decode cX5_comeDown 3 = .ok (.iconst 0, 1) := by decide +kernel
theorem dX5_comeDown_4 : decode cX5_comeDown 4 = .ok (.invokevirtual 88, 3) := by decide +kernel
theorem dX5_comeDown_7 : decode cX5_comeDown 7 = .ok (.return_, 1) := by decide +kernel
theorem dX5_fallWithAll_0 : decode cX5_fallWithAll 0 = .ok (.iload_n 3, 1) := by decide +kernel
theorem dX5_fallWithAll_1 : decode cX5_fallWithAll 1 = .ok (.iconst 5, 1) := by decide +kernel
theorem dX5_fallWithAll_2 : decode cX5_fallWithAll 2 = .ok (.if_icmp .le 4, 3) := by decide +kernel
theorem dX5_fallWithAll_5 : decode cX5_fallWithAll 5 = .ok (.return_, 1) := by decide +kernel
theorem dX5_fallWithAll_6 : decode cX5_fallWithAll 6 = .ok (.aload_n 0, 1) := by decide +kernel
theorem dX5_fallWithAll_7 : decode cX5_fallWithAll 7 = .ok (.getfield 21, 3) := by decide +kernel
theorem dX5_fallWithAll_10 : decode cX5_fallWithAll 10 = .ok (.iload_n 1, 1) := by decide +kernel
theorem dX5_fallWithAll_11 : decode cX5_fallWithAll 11 = .ok (.dup2, 1) := by decide +kernel
theorem dX5_fallWithAll_12 : decode cX5_fallWithAll 12 = .ok (.iaload, 1) := by decide +kernel
theorem dX5_fallWithAll_13 : decode cX5_fallWithAll 13 = .ok (.iconst 1, 1) := by decide +kernel
theorem dX5_fallWithAll_14 : decode cX5_fallWithAll 14 = .ok (.iadd, 1) := by decide +kernel
theorem dX5_fallWithAll_15 : decode cX5_fallWithAll 15 = .ok (.iastore, 1) := by decide +kernel
theorem dX5_fallWithAll_16 : decode cX5_fallWithAll 16 = .ok (.aload_n 0, 1) := by decide +kernel
theorem dX5_fallWithAll_17 : decode cX5_fallWithAll 17 = .ok (.getfield 15, 3) := by decide +kernel
theorem dX5_fallWithAll_20 : decode cX5_fallWithAll 20 = .ok (.iload_n 1, 1) := by decide +kernel
theorem dX5_fallWithAll_21 : decode cX5_fallWithAll 21 = .ok (.iconst 0, 1) := by decide +kernel
theorem dX5_fallWithAll_22 : decode cX5_fallWithAll 22 = .ok (.iastore, 1) := by decide +kernel
theorem dX5_fallWithAll_23 : decode cX5_fallWithAll 23 = .ok (.iload_n 2, 1) := by decide +kernel
theorem dX5_fallWithAll_24 : decode cX5_fallWithAll 24 = .ok (.iconst 1, 1) := by decide +kernel
theorem dX5_fallWithAll_25 : decode cX5_fallWithAll 25 = .ok (.if_icmp .ne 21, 3) := by decide +kernel
theorem dX5_fallWithAll_28 : decode cX5_fallWithAll 28 = .ok (.aload_n 0, 1) := by decide +kernel
theorem dX5_fallWithAll_29 : decode cX5_fallWithAll 29 = .ok (.dup, 1) := by decide +kernel
theorem dX5_fallWithAll_30 : decode cX5_fallWithAll 30 = .ok (.getfield 27, 3) := by decide +kernel
theorem dX5_fallWithAll_33 : decode cX5_fallWithAll 33 = .ok (.aload_n 0, 1) := by decide +kernel
theorem dX5_fallWithAll_34 : decode cX5_fallWithAll 34 = .ok (.getfield 34, 3) := by decide +kernel
theorem dX5_fallWithAll_37 : decode cX5_fallWithAll 37 = .ok (.getfield 38, 3) := by decide +kernel
theorem dX5_fallWithAll_40 : decode cX5_fallWithAll 40 = .ok (.iload_n 1, 1) := by decide +kernel
theorem dX5_fallWithAll_41 : decode cX5_fallWithAll 41 = .ok (.iaload, 1) := by decide +kernel
theorem dX5_fallWithAll_42 : decode cX5_fallWithAll 42 = .ok (.iadd, 1) := by decide +kernel
theorem dX5_fallWithAll_43 : decode cX5_fallWithAll 43 = .ok (.putfield 27, 3) := by decide +kernel
theorem dX5_fallWithAll_46 : decode cX5_fallWithAll 46 = .ok (.iload_n 2, 1) := by decide +kernel
theorem dX5_fallWithAll_47 : decode cX5_fallWithAll 47 = .ok (.iconst 2, 1) := by decide +kernel
theorem dX5_fallWithAll_48 : decode cX5_fallWithAll 48 = .ok (.if_icmp .ne 28, 3) := by decide +kernel
theorem dX5_fallWithAll_51 : decode cX5_fallWithAll 51 = .ok (.iload_n 1, 1) := by decide +kernel
theorem dX5_fallWithAll_52 : decode cX5_fallWithAll 52 = .ok (.iconst 1, 1) := by decide +kernel
theorem dX5_fallWithAll_53 : decode cX5_fallWithAll 53 = .ok (.iadd, 1) := by decide +kernel
theorem dX5_fallWithAll_54 : decode cX5_fallWithAll 54 = .ok (.aload_n 0, 1) := by decide +kernel
theorem dX5_fallWithAll_55 : decode cX5_fallWithAll 55 = .ok (.getfield 34, 3) := by decide +kernel
theorem dX5_fallWithAll_58 : decode cX5_fallWithAll 58 = .ok (.getfield 58, 3) := by decide +kernel
theorem dX5_fallWithAll_61 : decode cX5_fallWithAll 61 = .ok (.if_icmp .ge 15, 3) := by decide +kernel
theorem dX5_fallWithAll_64 : decode cX5_fallWithAll 64 = .ok (.aload_n 0, 1) := by decide +kernel
theorem dX5_fallWithAll_65 : decode cX5_fallWithAll 65 = .ok (.getfield 18, 3) := by decide +kernel
theorem dX5_fallWithAll_68 : decode cX5_fallWithAll 68 = .ok (.iload_n 1, 1) := by decide +kernel
theorem dX5_fallWithAll_69 : decode cX5_fallWithAll 69 = .ok (.iconst 1, 1) := by decide +kernel
theorem dX5_fallWithAll_70 : decode cX5_fallWithAll 70 = .ok (.iadd, 1) := by decide +kernel
theorem dX5_fallWithAll_71 : decode cX5_fallWithAll 71 = .ok (.dup2, 1) := by decide +kernel
theorem dX5_fallWithAll_72 : decode cX5_fallWithAll 72 = .ok (.iaload, 1) := by decide +kernel
theorem dX5_fallWithAll_73 : decode cX5_fallWithAll 73 = .ok (.iconst 1, 1) := by decide +kernel
theorem dX5_fallWithAll_74 : decode cX5_fallWithAll 74 = .ok (.iadd, 1) := by decide +kernel
theorem dX5_fallWithAll_75 : decode cX5_fallWithAll 75 = .ok (.iastore, 1) := by decide +kernel
theorem dX5_fallWithAll_76 : decode cX5_fallWithAll 76 = .ok (.aload_n 0, 1) := by decide +kernel
theorem dX5_fallWithAll_77 : decode cX5_fallWithAll 77 = .ok (.iload_n 1, 1) := by decide +kernel
theorem dX5_fallWithAll_78 : decode cX5_fallWithAll 78 = .ok (.invokevirtual 92, 3) := by decide +kernel
theorem dX5_fallWithAll_81 : decode cX5_fallWithAll 81 = .ok (.ifCond .eq 23, 3) := by decide +kernel
theorem dX5_fallWithAll_84 : decode cX5_fallWithAll 84 = .ok (.aload_n 0, 1) := by decide +kernel
theorem dX5_fallWithAll_85 : decode cX5_fallWithAll 85 = .ok (.getfield 9, 3) := by decide +kernel
theorem dX5_fallWithAll_88 : decode cX5_fallWithAll 88 = .ok (.iload_n 1, 1) := by decide +kernel
theorem dX5_fallWithAll_89 : decode cX5_fallWithAll 89 = .ok (.aload_n 0, 1) := by decide +kernel
theorem dX5_fallWithAll_90 : decode cX5_fallWithAll 90 = .ok (.getfield 34, 3) := by decide +kernel
theorem dX5_fallWithAll_93 : decode cX5_fallWithAll 93 = .ok (.getfield 38, 3) := by decide +kernel
theorem dX5_fallWithAll_96 : decode cX5_fallWithAll 96 = .ok (.iload_n 1, 1) := by decide +kernel
theorem dX5_fallWithAll_97 : decode cX5_fallWithAll 97 = .ok (.iaload, 1) := by decide +kernel
theorem dX5_fallWithAll_98 : decode cX5_fallWithAll 98 = .ok (.iconst 2, 1) := by decide +kernel
theorem dX5_fallWithAll_99 : decode cX5_fallWithAll 99 = .ok (.idiv, 1) := by decide +kernel
theorem dX5_fallWithAll_100 : decode cX5_fallWithAll 100 = .ok (.iconst 1, 1) := by decide +kernel
theorem dX5_fallWithAll_101 : decode cX5_fallWithAll 101 = .ok (.iadd, 1) := by decide +kernel
theorem dX5_fallWithAll_102 : decode cX5_fallWithAll 102 = .ok (.iastore, 1) := by decide +kernel
theorem dX5_fallWithAll_103 : decode cX5_fallWithAll 103 = .ok (.return_, 1) := by decide +kernel
theorem dX5_fallWithAll_104 : decode cX5_fallWithAll 104 = .ok (.aload_n 0, 1) := by decide +kernel
theorem dX5_fallWithAll_105 : decode cX5_fallWithAll 105 = .ok (.getfield 9, 3) := by decide +kernel
theorem dX5_fallWithAll_108 : decode cX5_fallWithAll 108 = .ok (.iload_n 1, 1) := by decide +kernel
theorem dX5_fallWithAll_109 : decode cX5_fallWithAll 109 = .ok (.iconst 0, 1) := by decide +kernel
theorem dX5_fallWithAll_110 : decode cX5_fallWithAll 110 = .ok (.iastore, 1) := by decide +kernel
theorem dX5_fallWithAll_111 : decode cX5_fallWithAll 111 = .ok (.iconst 0, 1) := by decide +kernel
theorem dX5_fallWithAll_112 : decode cX5_fallWithAll 112 = .ok (.istore 4, 2) := by decide +kernel
theorem dX5_fallWithAll_114 : decode cX5_fallWithAll 114 = .ok (.iload 4, 2) := by decide +kernel
theorem dX5_fallWithAll_116 : decode cX5_fallWithAll 116 = .ok (.aload_n 0, 1) := by decide +kernel
theorem dX5_fallWithAll_117 : decode cX5_fallWithAll 117 = .ok (.getfield 34, 3) := by decide +kernel
theorem dX5_fallWithAll_120 : decode cX5_fallWithAll 120 = .ok (.getfield 58, 3) := by decide +kernel
theorem dX5_fallWithAll_123 : decode cX5_fallWithAll 123 = .ok (.if_icmp .ge 35, 3) := by decide +kernel
theorem dX5_fallWithAll_126 : decode cX5_fallWithAll 126 = .ok (.aload_n 0, 1) := by decide +kernel
theorem dX5_fallWithAll_127 : decode cX5_fallWithAll 127 = .ok (.iload 4, 2) := by decide +kernel
theorem dX5_fallWithAll_129 : decode cX5_fallWithAll 129 = .ok (.invokevirtual 92, 3) := by decide +kernel
theorem dX5_fallWithAll_132 : decode cX5_fallWithAll 132 = .ok (.ifCond .eq 20, 3) := by decide +kernel
theorem dX5_fallWithAll_135 : decode cX5_fallWithAll 135 = .ok (.aload_n 0, 1) := by decide +kernel
theorem dX5_fallWithAll_136 : decode cX5_fallWithAll 136 = .ok (.getfield 9, 3) := by decide +kernel
theorem dX5_fallWithAll_139 : decode cX5_fallWithAll 139 = .ok (.iload 4, 2) := by decide +kernel
theorem dX5_fallWithAll_141 : decode cX5_fallWithAll 141 = .ok (.dup2, 1) := by decide +kernel
theorem dX5_fallWithAll_142 : decode cX5_fallWithAll 142 = .ok (.iaload, 1) := by decide +kernel
theorem dX5_fallWithAll_143 : decode cX5_fallWithAll 143 = .ok (.aload_n 0, 1) := by decide +kernel
theorem dX5_fallWithAll_144 : decode cX5_fallWithAll 144 = .ok (.iload_n 1, 1) := by decide +kernel
theorem dX5_fallWithAll_145 : decode cX5_fallWithAll 145 = .ok (.iload 4, 2) := by decide +kernel
theorem dX5_fallWithAll_147 : decode cX5_fallWithAll 147 = .ok (.invokevirtual 61, 3) := by decide +kernel
theorem dX5_fallWithAll_150 : decode cX5_fallWithAll 150 = .ok (.isub, 1) := by decide +kernel
theorem dX5_fallWithAll_151 : decode cX5_fallWithAll 151 = .ok (.iastore, 1) := by decide +kernel
theorem dX5_fallWithAll_152 : decode cX5_fallWithAll 152 = .ok (.iinc 4 1, 3) := by decide +kernel
theorem dX5_fallWithAll_155 : decode cX5_fallWithAll 155 = .ok (.goto (-41), 3) := by decide +kernel
theorem dX5_fallWithAll_158 : decode cX5_fallWithAll 158 = .ok (.iconst 0, 1) := by decide +kernel
theorem dX5_fallWithAll_159 : decode cX5_fallWithAll 159 = .ok (.istore 4, 2) := by decide +kernel
theorem dX5_fallWithAll_161 : decode cX5_fallWithAll 161 = .ok (.iload 4, 2) := by decide +kernel
theorem dX5_fallWithAll_163 : decode cX5_fallWithAll 163 = .ok (.aload_n 0, 1) := by decide +kernel
theorem dX5_fallWithAll_164 : decode cX5_fallWithAll 164 = .ok (.getfield 34, 3) := by decide +kernel
theorem dX5_fallWithAll_167 : decode cX5_fallWithAll 167 = .ok (.getfield 58, 3) := by decide +kernel
theorem dX5_fallWithAll_170 : decode cX5_fallWithAll 170 = .ok (.if_icmp .ge 48, 3) := by decide +kernel
theorem dX5_fallWithAll_173 : decode cX5_fallWithAll 173 = .ok (.aload_n 0, 1) := by decide +kernel
theorem dX5_fallWithAll_174 : decode cX5_fallWithAll 174 = .ok (.iload_n 1, 1) := by decide +kernel
theorem dX5_fallWithAll_175 : decode cX5_fallWithAll 175 = .ok (.iload 4, 2) := by decide +kernel
theorem dX5_fallWithAll_177 : decode cX5_fallWithAll 177 = .ok (.invokevirtual 61, 3) := by decide +kernel
theorem dX5_fallWithAll_180 : decode cX5_fallWithAll 180 = .ok (.ifCond .le 32, 3) := by decide +kernel
theorem dX5_fallWithAll_183 : decode cX5_fallWithAll 183 = .ok (.aload_n 0, 1) := by decide +kernel
theorem dX5_fallWithAll_184 : decode cX5_fallWithAll 184 = .ok (.iload 4, 2) := by decide +kernel
theorem dX5_fallWithAll_186 : decode cX5_fallWithAll 186 = .ok (.invokevirtual 92, 3) := by decide +kernel
theorem dX5_fallWithAll_189 : decode cX5_fallWithAll 189 = .ok (.ifCond .eq 23, 3) := by decide +kernel
theorem dX5_fallWithAll_192 : decode cX5_fallWithAll 192 = .ok (.aload_n 0, 1) := by decide +kernel
theorem dX5_fallWithAll_193 : decode cX5_fallWithAll 193 = .ok (.getfield 9, 3) := by decide +kernel
theorem dX5_fallWithAll_196 : decode cX5_fallWithAll 196 = .ok (.iload 4, 2) := by decide +kernel
theorem dX5_fallWithAll_198 : decode cX5_fallWithAll 198 = .ok (.iaload, 1) := by decide +kernel
theorem dX5_fallWithAll_199 : decode cX5_fallWithAll 199 = .ok (.ifCond .gt 13, 3) := by decide +kernel
theorem dX5_fallWithAll_202 : decode cX5_fallWithAll 202 = .ok (.aload_n 0, 1) := by decide +kernel
theorem dX5_fallWithAll_203 : decode cX5_fallWithAll 203 = .ok (.iload 4, 2) := by decide +kernel
theorem dX5_fallWithAll_205 : decode cX5_fallWithAll 205 = .ok (.iconst 1, 1) := by decide +kernel
theorem dX5_fallWithAll_206 : decode cX5_fallWithAll 206 = .ok (.iload_n 3, 1) := by decide +kernel
theorem dX5_fallWithAll_207 : decode cX5_fallWithAll 207 = .ok (.iconst 1, 1) := by decide +kernel
theorem dX5_fallWithAll_208 : decode cX5_fallWithAll 208 = .ok (.iadd, 1) := by decide +kernel
theorem dX5_fallWithAll_209 : decode cX5_fallWithAll 209 = .ok (.invokevirtual 88, 3) := by decide +kernel
theorem dX5_fallWithAll_212 : decode cX5_fallWithAll 212 = .ok (.iinc 4 1, 3) := by decide +kernel
theorem dX5_fallWithAll_215 : decode cX5_fallWithAll 215 = .ok (.goto (-54), 3) := by decide +kernel
theorem dX5_fallWithAll_218 : decode cX5_fallWithAll 218 = .ok (.return_, 1) := by decide +kernel
theorem dX5_dayGoesBy_0 : decode cX5_dayGoesBy 0 = .ok (.iconst 0, 1) := by decide +kernel
theorem dX5_dayGoesBy_1 : decode cX5_dayGoesBy 1 = .ok (.istore_n 1, 1) := by decide +kernel
theorem dX5_dayGoesBy_2 : decode cX5_dayGoesBy 2 = .ok (.iload_n 1, 1) := by decide +kernel
theorem dX5_dayGoesBy_3 : decode cX5_dayGoesBy 3 = .ok (.aload_n 0, 1) := by decide +kernel
theorem dX5_dayGoesBy_4 : decode cX5_dayGoesBy 4 = .ok (.getfield 34, 3) := by decide +kernel
theorem dX5_dayGoesBy_7 : decode cX5_dayGoesBy 7 = .ok (.getfield 58, 3) := by decide +kernel
theorem dX5_dayGoesBy_10 : decode cX5_dayGoesBy 10 = .ok (.if_icmp .ge 49, 3) := by decide +kernel
theorem dX5_dayGoesBy_13 : decode cX5_dayGoesBy 13 = .ok (.aload_n 0, 1) := by decide +kernel
theorem dX5_dayGoesBy_14 : decode cX5_dayGoesBy 14 = .ok (.getfield 34, 3) := by decide +kernel
theorem dX5_dayGoesBy_17 : decode cX5_dayGoesBy 17 = .ok (.getfield 55, 3) := by decide +kernel
theorem dX5_dayGoesBy_20 : decode cX5_dayGoesBy 20 = .ok (.iload_n 1, 1) := by decide +kernel
theorem dX5_dayGoesBy_21 : decode cX5_dayGoesBy 21 = .ok (.iaload, 1) := by decide +kernel
theorem dX5_dayGoesBy_22 : decode cX5_dayGoesBy 22 = .ok (.iconst 1, 1) := by decide +kernel
theorem dX5_dayGoesBy_23 : decode cX5_dayGoesBy 23 = .ok (.if_icmp .ne 30, 3) := by decide +kernel
theorem dX5_dayGoesBy_26 : decode cX5_dayGoesBy 26 = .ok (.aload_n 0, 1) := by decide +kernel
theorem dX5_dayGoesBy_27 : decode cX5_dayGoesBy 27 = .ok (.iload_n 1, 1) := by decide +kernel
theorem dX5_dayGoesBy_28 : decode cX5_dayGoesBy 28 = .ok (.invokevirtual 92, 3) := by decide +kernel
theorem dX5_dayGoesBy_31 : decode cX5_dayGoesBy 31 = .ok (.ifCond .eq 22, 3) := by decide +kernel
theorem dX5_dayGoesBy_34 : decode cX5_dayGoesBy 34 = .ok (.aload_n 0, 1) := by decide +kernel
theorem dX5_dayGoesBy_35 : decode cX5_dayGoesBy 35 = .ok (.getfield 9, 3) := by decide +kernel
theorem dX5_dayGoesBy_38 : decode cX5_dayGoesBy 38 = .ok (.iload_n 1, 1) := by decide +kernel
theorem dX5_dayGoesBy_39 : decode cX5_dayGoesBy 39 = .ok (.aload_n 0, 1) := by decide +kernel
theorem dX5_dayGoesBy_40 : decode cX5_dayGoesBy 40 = .ok (.getfield 9, 3) := by decide +kernel
theorem dX5_dayGoesBy_43 : decode cX5_dayGoesBy 43 = .ok (.iload_n 1, 1) := by decide +kernel
theorem dX5_dayGoesBy_44 : decode cX5_dayGoesBy 44 = .ok (.iaload, 1) := by decide +kernel
theorem dX5_dayGoesBy_45 : decode cX5_dayGoesBy 45 = .ok (.iconst 1, 1) := by decide +kernel
theorem dX5_dayGoesBy_46 : decode cX5_dayGoesBy 46 = .ok (.iadd, 1) := by decide +kernel
theorem dX5_dayGoesBy_47 : decode cX5_dayGoesBy 47 = .ok (.bipush 99, 2) := by decide +kernel
theorem dX5_dayGoesBy_49 : decode cX5_dayGoesBy 49 = .ok (.invokestatic 65, 3) := by decide +kernel
theorem dX5_dayGoesBy_52 : decode cX5_dayGoesBy 52 = .ok (.iastore, 1) := by decide +kernel
theorem dX5_dayGoesBy_53 : decode cX5_dayGoesBy 53 = .ok (.iinc 1 1, 3) := by decide +kernel
theorem dX5_dayGoesBy_56 : decode cX5_dayGoesBy 56 = .ok (.goto (-54), 3) := by decide +kernel
theorem dX5_dayGoesBy_59 : decode cX5_dayGoesBy 59 = .ok (.aload_n 0, 1) := by decide +kernel
theorem dX5_dayGoesBy_60 : decode cX5_dayGoesBy 60 = .ok (.dup, 1) := by decide +kernel
theorem dX5_dayGoesBy_61 : decode cX5_dayGoesBy 61 = .ok (.getfield 31, 3) := by decide +kernel
theorem dX5_dayGoesBy_64 : decode cX5_dayGoesBy 64 = .ok (.iconst 1, 1) := by decide +kernel
theorem dX5_dayGoesBy_65 : decode cX5_dayGoesBy 65 = .ok (.iadd, 1) := by decide +kernel
theorem dX5_dayGoesBy_66 : decode cX5_dayGoesBy 66 = .ok (.putfield 31, 3) := by decide +kernel
theorem dX5_dayGoesBy_69 : decode cX5_dayGoesBy 69 = .ok (.return_, 1) := by decide +kernel
theorem dX5_countDown_0 : decode cX5_countDown 0 = .ok (.iconst 0, 1) := by decide +kernel
theorem dX5_countDown_1 : decode cX5_countDown 1 = .ok (.istore_n 1, 1) := by decide +kernel
theorem dX5_countDown_2 : decode cX5_countDown 2 = .ok (.iconst 0, 1) := by decide +kernel
theorem dX5_countDown_3 : decode cX5_countDown 3 = .ok (.istore_n 2, 1) := by decide +kernel
theorem dX5_countDown_4 : decode cX5_countDown 4 = .ok (.iload_n 2, 1) := by decide +kernel
theorem dX5_countDown_5 : decode cX5_countDown 5 = .ok (.aload_n 0, 1) := by decide +kernel
theorem dX5_countDown_6 : decode cX5_countDown 6 = .ok (.getfield 34, 3) := by decide +kernel
theorem dX5_countDown_9 : decode cX5_countDown 9 = .ok (.getfield 58, 3) := by decide +kernel
theorem dX5_countDown_12 : decode cX5_countDown 12 = .ok (.if_icmp .ge 20, 3) := by decide +kernel
theorem dX5_countDown_15 : decode cX5_countDown 15 = .ok (.aload_n 0, 1) := by decide +kernel
theorem dX5_countDown_16 : decode cX5_countDown 16 = .ok (.iload_n 2, 1) := by decide +kernel
theorem dX5_countDown_17 : decode cX5_countDown 17 = .ok (.invokevirtual 92, 3) := by decide +kernel
theorem dX5_countDown_20 : decode cX5_countDown 20 = .ok (.ifCond .ne 6, 3) := by decide +kernel
theorem dX5_countDown_23 : decode cX5_countDown 23 = .ok (.iinc 1 1, 3) := by decide +kernel
theorem dX5_countDown_26 : decode cX5_countDown 26 = .ok (.iinc 2 1, 3) := by decide +kernel
theorem dX5_countDown_29 : decode cX5_countDown 29 = .ok (.goto (-25), 3) := by decide +kernel
theorem dX5_countDown_32 : decode cX5_countDown 32 = .ok (.iload_n 1, 1) := by decide +kernel
theorem dX5_countDown_33 : decode cX5_countDown 33 = .ok (.ireturn, 1) := by decide +kernel
theorem dX5_countHurt_0 : decode cX5_countHurt 0 = .ok (.iconst 0, 1) := by decide +kernel
theorem dX5_countHurt_1 : decode cX5_countHurt 1 = .ok (.istore_n 1, 1) := by decide +kernel
theorem dX5_countHurt_2 : decode cX5_countHurt 2 = .ok (.iconst 0, 1) := by decide +kernel
theorem dX5_countHurt_3 : decode cX5_countHurt 3 = .ok (.istore_n 2, 1) := by decide +kernel
theorem dX5_countHurt_4 : decode cX5_countHurt 4 = .ok (.iload_n 2, 1) := by decide +kernel
theorem dX5_countHurt_5 : decode cX5_countHurt 5 = .ok (.aload_n 0, 1) := by decide +kernel
theorem dX5_countHurt_6 : decode cX5_countHurt 6 = .ok (.getfield 34, 3) := by decide +kernel
theorem dX5_countHurt_9 : decode cX5_countHurt 9 = .ok (.getfield 58, 3) := by decide +kernel
theorem dX5_countHurt_12 : decode cX5_countHurt 12 = .ok (.if_icmp .ge 18, 3) := by decide +kernel
theorem dX5_countHurt_15 : decode cX5_countHurt 15 = .ok (.iload_n 1, 1) := by decide +kernel
theorem dX5_countHurt_16 : decode cX5_countHurt 16 = .ok (.aload_n 0, 1) := by decide +kernel
theorem dX5_countHurt_17 : decode cX5_countHurt 17 = .ok (.getfield 18, 3) := by decide +kernel
theorem dX5_countHurt_20 : decode cX5_countHurt 20 = .ok (.iload_n 2, 1) := by decide +kernel
theorem dX5_countHurt_21 : decode cX5_countHurt 21 = .ok (.iaload, 1) := by decide +kernel
theorem dX5_countHurt_22 : decode cX5_countHurt 22 = .ok (.iadd, 1) := by decide +kernel
theorem dX5_countHurt_23 : decode cX5_countHurt 23 = .ok (.istore_n 1, 1) := by decide +kernel
theorem dX5_countHurt_24 : decode cX5_countHurt 24 = .ok (.iinc 2 1, 3) := by decide +kernel
theorem dX5_countHurt_27 : decode cX5_countHurt 27 = .ok (.goto (-23), 3) := by decide +kernel
theorem dX5_countHurt_30 : decode cX5_countHurt 30 = .ok (.iload_n 1, 1) := by decide +kernel
theorem dX5_countHurt_31 : decode cX5_countHurt 31 = .ok (.ireturn, 1) := by decide +kernel
theorem dX5_countProps_0 : decode cX5_countProps 0 = .ok (.iconst 0, 1) := by decide +kernel
theorem dX5_countProps_1 : decode cX5_countProps 1 = .ok (.istore_n 1, 1) := by decide +kernel
theorem dX5_countProps_2 : decode cX5_countProps 2 = .ok (.aload_n 0, 1) := by decide +kernel
theorem dX5_countProps_3 : decode cX5_countProps 3 = .ok (.getfield 24, 3) := by decide +kernel
theorem dX5_countProps_6 : decode cX5_countProps 6 = .ok (.astore_n 2, 1) := by decide +kernel
theorem dX5_countProps_7 : decode cX5_countProps 7 = .ok (.aload_n 2, 1) := by decide +kernel
theorem dX5_countProps_8 : decode cX5_countProps 8 = .ok (.arraylength, 1) := by decide +kernel
theorem dX5_countProps_9 : decode cX5_countProps 9 = .ok (.istore_n 3, 1) := by decide +kernel
theorem dX5_countProps_10 : decode cX5_countProps 10 = .ok (.iconst 0, 1) := by decide +kernel
theorem dX5_countProps_11 : decode cX5_countProps 11 = .ok (.istore 4, 2) := by decide +kernel
theorem dX5_countProps_13 : decode cX5_countProps 13 = .ok (.iload 4, 2) := by decide +kernel
theorem dX5_countProps_15 : decode cX5_countProps 15 = .ok (.iload_n 3, 1) := by decide +kernel
theorem dX5_countProps_16 : decode cX5_countProps 16 = .ok (.if_icmp .ge 23, 3) := by decide +kernel
theorem dX5_countProps_19 : decode cX5_countProps 19 = .ok (.aload_n 2, 1) := by decide +kernel
theorem dX5_countProps_20 : decode cX5_countProps 20 = .ok (.iload 4, 2) := by decide +kernel
theorem dX5_countProps_22 : decode cX5_countProps 22 = .ok (.iaload, 1) := by decide +kernel
theorem dX5_countProps_23 : decode cX5_countProps 23 = .ok (.istore 5, 2) := by decide +kernel
theorem dX5_countProps_25 : decode cX5_countProps 25 = .ok (.iload 5, 2) := by decide +kernel
theorem dX5_countProps_27 : decode cX5_countProps 27 = .ok (.ifCond .le 6, 3) := by decide +kernel
theorem dX5_countProps_30 : decode cX5_countProps 30 = .ok (.iinc 1 1, 3) := by decide +kernel
theorem dX5_countProps_33 : decode cX5_countProps 33 = .ok (.iinc 4 1, 3) := by decide +kernel
theorem dX5_countProps_36 : decode cX5_countProps 36 = .ok (.goto (-23), 3) := by decide +kernel
theorem dX5_countProps_39 : decode cX5_countProps 39 = .ok (.iload_n 1, 1) := by decide +kernel
theorem dX5_countProps_40 : decode cX5_countProps 40 = .ok (.ireturn, 1) := by decide +kernel
theorem dJ6_bitCount_0f7a4_0 : decode cJ6_bitCount_0f7a4 0 = .ok (.iload_n 0, 1) := by decide +kernel
theorem dJ6_bitCount_0f7a4_1 : decode cJ6_bitCount_0f7a4 1 = .ok (.iload_n 0, 1) := by decide +kernel
theorem dJ6_bitCount_0f7a4_2 : decode cJ6_bitCount_0f7a4 2 = .ok (.iconst 1, 1) := by decide +kernel
theorem dJ6_bitCount_0f7a4_3 : decode cJ6_bitCount_0f7a4 3 = .ok (.iushr, 1) := by decide +kernel
theorem dJ6_bitCount_0f7a4_4 : decode cJ6_bitCount_0f7a4 4 = .ok (.ldc_w 265, 3) := by decide +kernel
theorem dJ6_bitCount_0f7a4_7 : decode cJ6_bitCount_0f7a4 7 = .ok (.iand, 1) := by decide +kernel
theorem dJ6_bitCount_0f7a4_8 : decode cJ6_bitCount_0f7a4 8 = .ok (.isub, 1) := by decide +kernel
theorem dJ6_bitCount_0f7a4_9 : decode cJ6_bitCount_0f7a4 9 = .ok (.istore_n 0, 1) := by decide +kernel
theorem dJ6_bitCount_0f7a4_10 : decode cJ6_bitCount_0f7a4 10 = .ok (.iload_n 0, 1) := by decide +kernel
theorem dJ6_bitCount_0f7a4_11 : decode cJ6_bitCount_0f7a4 11 = .ok (.ldc_w 266, 3) := by decide +kernel
theorem dJ6_bitCount_0f7a4_14 : decode cJ6_bitCount_0f7a4 14 = .ok (.iand, 1) := by decide +kernel
theorem dJ6_bitCount_0f7a4_15 : decode cJ6_bitCount_0f7a4 15 = .ok (.iload_n 0, 1) := by decide +kernel
theorem dJ6_bitCount_0f7a4_16 : decode cJ6_bitCount_0f7a4 16 = .ok (.iconst 2, 1) := by decide +kernel
theorem dJ6_bitCount_0f7a4_17 : decode cJ6_bitCount_0f7a4 17 = .ok (.iushr, 1) := by decide +kernel
theorem dJ6_bitCount_0f7a4_18 : decode cJ6_bitCount_0f7a4 18 = .ok (.ldc_w 266, 3) := by decide +kernel
theorem dJ6_bitCount_0f7a4_21 : decode cJ6_bitCount_0f7a4 21 = .ok (.iand, 1) := by decide +kernel
theorem dJ6_bitCount_0f7a4_22 : decode cJ6_bitCount_0f7a4 22 = .ok (.iadd, 1) := by decide +kernel
theorem dJ6_bitCount_0f7a4_23 : decode cJ6_bitCount_0f7a4 23 = .ok (.istore_n 0, 1) := by decide +kernel
theorem dJ6_bitCount_0f7a4_24 : decode cJ6_bitCount_0f7a4 24 = .ok (.iload_n 0, 1) := by decide +kernel
theorem dJ6_bitCount_0f7a4_25 : decode cJ6_bitCount_0f7a4 25 = .ok (.iload_n 0, 1) := by decide +kernel
theorem dJ6_bitCount_0f7a4_26 : decode cJ6_bitCount_0f7a4 26 = .ok (.iconst 4, 1) := by decide +kernel
theorem dJ6_bitCount_0f7a4_27 : decode cJ6_bitCount_0f7a4 27 = .ok (.iushr, 1) := by decide +kernel
theorem dJ6_bitCount_0f7a4_28 : decode cJ6_bitCount_0f7a4 28 = .ok (.iadd, 1) := by decide +kernel
theorem dJ6_bitCount_0f7a4_29 : decode cJ6_bitCount_0f7a4 29 = .ok (.ldc_w 267, 3) := by decide +kernel
theorem dJ6_bitCount_0f7a4_32 : decode cJ6_bitCount_0f7a4 32 = .ok (.iand, 1) := by decide +kernel
theorem dJ6_bitCount_0f7a4_33 : decode cJ6_bitCount_0f7a4 33 = .ok (.istore_n 0, 1) := by decide +kernel
theorem dJ6_bitCount_0f7a4_34 : decode cJ6_bitCount_0f7a4 34 = .ok (.iload_n 0, 1) := by decide +kernel
theorem dJ6_bitCount_0f7a4_35 : decode cJ6_bitCount_0f7a4 35 = .ok (.iload_n 0, 1) := by decide +kernel
theorem dJ6_bitCount_0f7a4_36 : decode cJ6_bitCount_0f7a4 36 = .ok (.bipush 8, 2) := by decide +kernel
theorem dJ6_bitCount_0f7a4_38 : decode cJ6_bitCount_0f7a4 38 = .ok (.iushr, 1) := by decide +kernel
theorem dJ6_bitCount_0f7a4_39 : decode cJ6_bitCount_0f7a4 39 = .ok (.iadd, 1) := by decide +kernel
theorem dJ6_bitCount_0f7a4_40 : decode cJ6_bitCount_0f7a4 40 = .ok (.istore_n 0, 1) := by decide +kernel
theorem dJ6_bitCount_0f7a4_41 : decode cJ6_bitCount_0f7a4 41 = .ok (.iload_n 0, 1) := by decide +kernel
theorem dJ6_bitCount_0f7a4_42 : decode cJ6_bitCount_0f7a4 42 = .ok (.iload_n 0, 1) := by decide +kernel
theorem dJ6_bitCount_0f7a4_43 : decode cJ6_bitCount_0f7a4 43 = .ok (.bipush 16, 2) := by decide +kernel
theorem dJ6_bitCount_0f7a4_45 : decode cJ6_bitCount_0f7a4 45 = .ok (.iushr, 1) := by decide +kernel
theorem dJ6_bitCount_0f7a4_46 : decode cJ6_bitCount_0f7a4 46 = .ok (.iadd, 1) := by decide +kernel
theorem dJ6_bitCount_0f7a4_47 : decode cJ6_bitCount_0f7a4 47 = .ok (.istore_n 0, 1) := by decide +kernel
theorem dJ6_bitCount_0f7a4_48 : decode cJ6_bitCount_0f7a4 48 = .ok (.iload_n 0, 1) := by decide +kernel
theorem dJ6_bitCount_0f7a4_49 : decode cJ6_bitCount_0f7a4 49 = .ok (.bipush 63, 2) := by decide +kernel
theorem dJ6_bitCount_0f7a4_51 : decode cJ6_bitCount_0f7a4 51 = .ok (.iand, 1) := by decide +kernel
theorem dJ6_bitCount_0f7a4_52 : decode cJ6_bitCount_0f7a4 52 = .ok (.ireturn, 1) := by decide +kernel
theorem dJ9_max_7cf53_0 : decode cJ9_max_7cf53 0 = .ok (.iload_n 0, 1) := by decide +kernel
theorem dJ9_max_7cf53_1 : decode cJ9_max_7cf53 1 = .ok (.iload_n 1, 1) := by decide +kernel
theorem dJ9_max_7cf53_2 : decode cJ9_max_7cf53 2 = .ok (.if_icmp .lt 7, 3) := by decide +kernel
theorem dJ9_max_7cf53_5 : decode cJ9_max_7cf53 5 = .ok (.iload_n 0, 1) := by decide +kernel
theorem dJ9_max_7cf53_6 : decode cJ9_max_7cf53 6 = .ok (.goto 4, 3) := by decide +kernel
theorem dJ9_max_7cf53_9 : decode cJ9_max_7cf53 9 = .ok (.iload_n 1, 1) := by decide +kernel
theorem dJ9_max_7cf53_10 : decode cJ9_max_7cf53 10 = .ok (.ireturn, 1) := by decide +kernel
theorem dJ9_min_7cf53_0 : decode cJ9_min_7cf53 0 = .ok (.iload_n 0, 1) := by decide +kernel
theorem dJ9_min_7cf53_1 : decode cJ9_min_7cf53 1 = .ok (.iload_n 1, 1) := by decide +kernel
theorem dJ9_min_7cf53_2 : decode cJ9_min_7cf53 2 = .ok (.if_icmp .gt 7, 3) := by decide +kernel
theorem dJ9_min_7cf53_5 : decode cJ9_min_7cf53 5 = .ok (.iload_n 0, 1) := by decide +kernel
theorem dJ9_min_7cf53_6 : decode cJ9_min_7cf53 6 = .ok (.goto 4, 3) := by decide +kernel
theorem dJ9_min_7cf53_9 : decode cJ9_min_7cf53 9 = .ok (.iload_n 1, 1) := by decide +kernel
theorem dJ9_min_7cf53_10 : decode cJ9_min_7cf53 10 = .ok (.ireturn, 1) := by decide +kernel
theorem dJ0_length_8abf5_0 : decode cJ0_length_8abf5 0 = .ok (.aload_n 0, 1) := by decide +kernel
theorem dJ0_length_8abf5_1 : decode cJ0_length_8abf5 1 = .ok (.getfield 9, 3) := by decide +kernel
theorem dJ0_length_8abf5_4 : decode cJ0_length_8abf5 4 = .ok (.arraylength, 1) := by decide +kernel
theorem dJ0_length_8abf5_5 : decode cJ0_length_8abf5 5 = .ok (.aload_n 0, 1) := by decide +kernel
theorem dJ0_length_8abf5_6 : decode cJ0_length_8abf5 6 = .ok (.invokevirtual 335, 3) := by decide +kernel
theorem dJ0_length_8abf5_9 : decode cJ0_length_8abf5 9 = .ok (.ishr, 1) := by decide +kernel
theorem dJ0_length_8abf5_10 : decode cJ0_length_8abf5 10 = .ok (.ireturn, 1) := by decide +kernel
theorem dJ0_charAt_5068e_0 : decode cJ0_charAt_5068e 0 = .ok (.aload_n 0, 1) := by decide +kernel
theorem dJ0_charAt_5068e_1 : decode cJ0_charAt_5068e 1 = .ok (.invokevirtual 492, 3) := by decide +kernel
theorem dJ0_charAt_5068e_4 : decode cJ0_charAt_5068e 4 = .ok (.ifCond .eq 12, 3) := by decide +kernel
theorem dJ0_charAt_5068e_7 : decode cJ0_charAt_5068e 7 = .ok (.aload_n 0, 1) := by decide +kernel
theorem dJ0_charAt_5068e_8 : decode cJ0_charAt_5068e 8 = .ok (.getfield 9, 3) := by decide +kernel
theorem dJ0_charAt_5068e_11 : decode cJ0_charAt_5068e 11 = .ok (.iload_n 1, 1) := by decide +kernel
theorem dJ0_charAt_5068e_12 : decode cJ0_charAt_5068e 12 = .ok (.invokestatic 495, 3) := by decide +kernel
theorem dJ0_charAt_5068e_15 : decode cJ0_charAt_5068e 15 = .ok (.ireturn, 1) := by decide +kernel
theorem dJ0_charAt_5068e_16 : decode cJ0_charAt_5068e 16 = .ok (.aload_n 0, 1) := by decide +kernel
theorem dJ0_charAt_5068e_17 : decode cJ0_charAt_5068e 17 = .ok (.getfield 9, 3) := by decide +kernel
theorem dJ0_charAt_5068e_20 : decode cJ0_charAt_5068e 20 = .ok (.iload_n 1, 1) := by decide +kernel
theorem dJ0_charAt_5068e_21 : decode cJ0_charAt_5068e 21 = .ok (.invokestatic 498, 3) := by decide +kernel
theorem dJ0_charAt_5068e_24 : decode cJ0_charAt_5068e 24 = .ok (.ireturn, 1) := by decide +kernel
theorem dJ0_coder_7d493_0 : decode cJ0_coder_7d493 0 = .ok (.getstatic 38, 3) := by decide +kernel
theorem dJ0_coder_7d493_3 : decode cJ0_coder_7d493 3 = .ok (.ifCond .eq 10, 3) := by decide +kernel
theorem dJ0_coder_7d493_6 : decode cJ0_coder_7d493 6 = .ok (.aload_n 0, 1) := by decide +kernel
theorem dJ0_coder_7d493_7 : decode cJ0_coder_7d493 7 = .ok (.getfield 15, 3) := by decide +kernel
theorem dJ0_coder_7d493_10 : decode cJ0_coder_7d493 10 = .ok (.goto 4, 3) := by decide +kernel
theorem dJ0_coder_7d493_13 : decode cJ0_coder_7d493 13 = .ok (.iconst 1, 1) := by decide +kernel
theorem dJ0_coder_7d493_14 : decode cJ0_coder_7d493 14 = .ok (.ireturn, 1) := by decide +kernel
theorem dJ0_isLatin1_aae02_0 : decode cJ0_isLatin1_aae02 0 = .ok (.getstatic 38, 3) := by decide +kernel
theorem dJ0_isLatin1_aae02_3 : decode cJ0_isLatin1_aae02 3 = .ok (.ifCond .eq 14, 3) := by decide +kernel
theorem dJ0_isLatin1_aae02_6 : decode cJ0_isLatin1_aae02 6 = .ok (.aload_n 0, 1) := by decide +kernel
theorem dJ0_isLatin1_aae02_7 : decode cJ0_isLatin1_aae02 7 = .ok (.getfield 15, 3) := by decide +kernel
theorem dJ0_isLatin1_aae02_10 : decode cJ0_isLatin1_aae02 10 = .ok (.ifCond .ne 7, 3) := by decide +kernel
theorem dJ0_isLatin1_aae02_13 : decode cJ0_isLatin1_aae02 13 = .ok (.iconst 1, 1) := by decide +kernel
theorem dJ0_isLatin1_aae02_14 : decode cJ0_isLatin1_aae02 14 = .ok (.goto 4, 3) := by decide +kernel
theorem dJ0_isLatin1_aae02_17 : decode cJ0_isLatin1_aae02 17 = .ok (.iconst 0, 1) := by decide +kernel
theorem dJ0_isLatin1_aae02_18 : decode cJ0_isLatin1_aae02 18 = .ok (.ireturn, 1) := by decide +kernel
theorem dJ0_checkIndex_df160_0 : decode cJ0_checkIndex_df160 0 = .ok (.iload_n 0, 1) := by decide +kernel
theorem dJ0_checkIndex_df160_1 : decode cJ0_checkIndex_df160 1 = .ok (.iload_n 1, 1) := by decide +kernel
theorem dJ0_checkIndex_df160_2 : decode cJ0_checkIndex_df160 2 = .ok (.getstatic 1053, 3) := by decide +kernel
theorem dJ0_checkIndex_df160_5 : decode cJ0_checkIndex_df160 5 = .ok (.invokestatic 1059, 3) := by decide +kernel
theorem dJ0_checkIndex_df160_8 : decode cJ0_checkIndex_df160 8 = .ok (.pop, 1) := by decide +kernel
theorem dJ0_checkIndex_df160_9 : decode cJ0_checkIndex_df160 9 = .ok (.return_, 1) := by decide +kernel
theorem dJ1_charAt_3b067_0 : decode cJ1_charAt_3b067 0 = .ok (.iload_n 1, 1) := by decide +kernel
theorem dJ1_charAt_3b067_1 : decode cJ1_charAt_3b067 1 = .ok (.aload_n 0, 1) := by decide +kernel
theorem dJ1_charAt_3b067_2 : decode cJ1_charAt_3b067 2 = .ok (.arraylength, 1) := by decide +kernel
theorem dJ1_charAt_3b067_3 : decode cJ1_charAt_3b067 3 = .ok (.invokestatic 9, 3) := by decide +kernel
theorem dJ1_charAt_3b067_6 : decode cJ1_charAt_3b067 6 = .ok (.aload_n 0, 1) := by decide +kernel
theorem dJ1_charAt_3b067_7 : decode cJ1_charAt_3b067 7 = .ok (.iload_n 1, 1) := by decide +kernel
theorem dJ1_charAt_3b067_8 : decode cJ1_charAt_3b067 8 = .ok (.baload, 1) := by decide +kernel
theorem dJ1_charAt_3b067_9 : decode cJ1_charAt_3b067 9 = .ok (.sipush 255, 3) := by decide +kernel
theorem dJ1_charAt_3b067_12 : decode cJ1_charAt_3b067 12 = .ok (.iand, 1) := by decide +kernel
theorem dJ1_charAt_3b067_13 : decode cJ1_charAt_3b067 13 = .ok (.i2c, 1) := by decide +kernel
theorem dJ1_charAt_3b067_14 : decode cJ1_charAt_3b067 14 = .ok (.ireturn, 1) := by decide +kernel
theorem dJ2_getChar_3b067_0 : decode cJ2_getChar_3b067 0 = .ok (.getstatic 44, 3) := by decide +kernel
theorem dJ2_getChar_3b067_3 : decode cJ2_getChar_3b067 3 = .ok (.ifCond .ne 25, 3) := by decide +kernel
theorem dJ2_getChar_3b067_6 : decode cJ2_getChar_3b067 6 = .ok (.iload_n 1, 1) := by decide +kernel
theorem dJ2_getChar_3b067_7 : decode cJ2_getChar_3b067 7 = .ok (.ifCond .lt 11, 3) := by decide +kernel
theorem dJ2_getChar_3b067_10 : decode cJ2_getChar_3b067 10 = .ok (.iload_n 1, 1) := by decide +kernel
theorem dJ2_getChar_3b067_11 : decode cJ2_getChar_3b067 11 = .ok (.aload_n 0, 1) := by decide +kernel
theorem dJ2_getChar_3b067_12 : decode cJ2_getChar_3b067 12 = .ok (.invokestatic 48, 3) := by decide +kernel
theorem dJ2_getChar_3b067_15 : decode cJ2_getChar_3b067 15 = .ok (.if_icmp .lt 13, 3) := by decide +kernel
theorem dJ2_getChar_3b067_18 : decode cJ2_getChar_3b067 18 = .ok (.new 52, 3) := by decide +kernel
theorem dJ2_getChar_3b067_21 : decode cJ2_getChar_3b067 21 = .ok (.dup, 1) := by decide +kernel
theorem dJ2_getChar_3b067_22 : decode cJ2_getChar_3b067 22 = .ok (.ldc 54, 2) := by decide +kernel
theorem dJ2_getChar_3b067_24 : decode cJ2_getChar_3b067 24 = .ok (.invokespecial 56, 3) := by decide +kernel
theorem dJ2_getChar_3b067_27 : decode cJ2_getChar_3b067 27 = .ok (.athrow, 1) := by decide +kernel
theorem dJ2_getChar_3b067_28 : decode cJ2_getChar_3b067 28 = .ok (.iload_n 1, 1) := by decide +kernel
theorem dJ2_getChar_3b067_29 : decode cJ2_getChar_3b067 29 = .ok (.iconst 1, 1) := by decide +kernel
theorem dJ2_getChar_3b067_30 : decode cJ2_getChar_3b067 30 = .ok (.ishl, 1) := by decide +kernel
theorem dJ2_getChar_3b067_31 : decode cJ2_getChar_3b067 31 = .ok (.istore_n 1, 1) := by decide +kernel
theorem dJ2_getChar_3b067_32 : decode cJ2_getChar_3b067 32 = .ok (.aload_n 0, 1) := by decide +kernel
theorem dJ2_getChar_3b067_33 : decode cJ2_getChar_3b067 33 = .ok (.iload_n 1, 1) := by decide +kernel
theorem dJ2_getChar_3b067_34 : decode cJ2_getChar_3b067 34 = .ok (.iinc 1 1, 3) := by decide +kernel
theorem dJ2_getChar_3b067_37 : decode cJ2_getChar_3b067 37 = .ok (.baload, 1) := by decide +kernel
theorem dJ2_getChar_3b067_38 : decode cJ2_getChar_3b067 38 = .ok (.sipush 255, 3) := by decide +kernel
theorem dJ2_getChar_3b067_41 : decode cJ2_getChar_3b067 41 = .ok (.iand, 1) := by decide +kernel
theorem dJ2_getChar_3b067_42 : decode cJ2_getChar_3b067 42 = .ok (.getstatic 59, 3) := by decide +kernel
theorem dJ2_getChar_3b067_45 : decode cJ2_getChar_3b067 45 = .ok (.ishl, 1) := by decide +kernel
theorem dJ2_getChar_3b067_46 : decode cJ2_getChar_3b067 46 = .ok (.aload_n 0, 1) := by decide +kernel
theorem dJ2_getChar_3b067_47 : decode cJ2_getChar_3b067 47 = .ok (.iload_n 1, 1) := by decide +kernel
theorem dJ2_getChar_3b067_48 : decode cJ2_getChar_3b067 48 = .ok (.baload, 1) := by decide +kernel
theorem dJ2_getChar_3b067_49 : decode cJ2_getChar_3b067 49 = .ok (.sipush 255, 3) := by decide +kernel
theorem dJ2_getChar_3b067_52 : decode cJ2_getChar_3b067 52 = .ok (.iand, 1) := by decide +kernel
theorem dJ2_getChar_3b067_53 : decode cJ2_getChar_3b067 53 = .ok (.getstatic 63, 3) := by decide +kernel
theorem dJ2_getChar_3b067_56 : decode cJ2_getChar_3b067 56 = .ok (.ishl, 1) := by decide +kernel
theorem dJ2_getChar_3b067_57 : decode cJ2_getChar_3b067 57 = .ok (.ior, 1) := by decide +kernel
theorem dJ2_getChar_3b067_58 : decode cJ2_getChar_3b067 58 = .ok (.i2c, 1) := by decide +kernel
theorem dJ2_getChar_3b067_59 : decode cJ2_getChar_3b067 59 = .ok (.ireturn, 1) := by decide +kernel
theorem dJ2_length_9d52b_0 : decode cJ2_length_9d52b 0 = .ok (.aload_n 0, 1) := by decide +kernel
theorem dJ2_length_9d52b_1 : decode cJ2_length_9d52b 1 = .ok (.arraylength, 1) := by decide +kernel
theorem dJ2_length_9d52b_2 : decode cJ2_length_9d52b 2 = .ok (.iconst 1, 1) := by decide +kernel
theorem dJ2_length_9d52b_3 : decode cJ2_length_9d52b 3 = .ok (.ishr, 1) := by decide +kernel
theorem dJ2_length_9d52b_4 : decode cJ2_length_9d52b 4 = .ok (.ireturn, 1) := by decide +kernel
theorem dJ2_charAt_3b067_0 : decode cJ2_charAt_3b067 0 = .ok (.iload_n 1, 1) := by decide +kernel
theorem dJ2_charAt_3b067_1 : decode cJ2_charAt_3b067 1 = .ok (.aload_n 0, 1) := by decide +kernel
theorem dJ2_charAt_3b067_2 : decode cJ2_charAt_3b067 2 = .ok (.invokestatic 67, 3) := by decide +kernel
theorem dJ2_charAt_3b067_5 : decode cJ2_charAt_3b067 5 = .ok (.aload_n 0, 1) := by decide +kernel
theorem dJ2_charAt_3b067_6 : decode cJ2_charAt_3b067 6 = .ok (.iload_n 1, 1) := by decide +kernel
theorem dJ2_charAt_3b067_7 : decode cJ2_charAt_3b067 7 = .ok (.invokestatic 71, 3) := by decide +kernel
theorem dJ2_charAt_3b067_10 : decode cJ2_charAt_3b067 10 = .ok (.ireturn, 1) := by decide +kernel
theorem dJ2_checkIndex_2214a_0 : decode cJ2_checkIndex_2214a 0 = .ok (.iload_n 0, 1) := by decide +kernel
theorem dJ2_checkIndex_2214a_1 : decode cJ2_checkIndex_2214a 1 = .ok (.aload_n 1, 1) := by decide +kernel
theorem dJ2_checkIndex_2214a_2 : decode cJ2_checkIndex_2214a 2 = .ok (.invokestatic 48, 3) := by decide +kernel
theorem dJ2_checkIndex_2214a_5 : decode cJ2_checkIndex_2214a 5 = .ok (.invokestatic 414, 3) := by decide +kernel
theorem dJ2_checkIndex_2214a_8 : decode cJ2_checkIndex_2214a 8 = .ok (.return_, 1) := by decide +kernel
theorem dJ7_fill_d0a16_0 : decode cJ7_fill_d0a16 0 = .ok (.iconst 0, 1) := by decide +kernel
theorem dJ7_fill_d0a16_1 : decode cJ7_fill_d0a16 1 = .ok (.istore_n 3, 1) := by decide +kernel
theorem dJ7_fill_d0a16_2 : decode cJ7_fill_d0a16 2 = .ok (.aload_n 0, 1) := by decide +kernel
theorem dJ7_fill_d0a16_3 : decode cJ7_fill_d0a16 3 = .ok (.arraylength, 1) := by decide +kernel
theorem dJ7_fill_d0a16_4 : decode cJ7_fill_d0a16 4 = .ok (.istore 4, 2) := by decide +kernel
theorem dJ7_fill_d0a16_6 : decode cJ7_fill_d0a16 6 = .ok (.iload_n 3, 1) := by decide +kernel
theorem dJ7_fill_d0a16_7 : decode cJ7_fill_d0a16 7 = .ok (.iload 4, 2) := by decide +kernel
theorem dJ7_fill_d0a16_9 : decode cJ7_fill_d0a16 9 = .ok (.if_icmp .ge 13, 3) := by decide +kernel
theorem dJ7_fill_d0a16_12 : decode cJ7_fill_d0a16 12 = .ok (.aload_n 0, 1) := by decide +kernel
theorem dJ7_fill_d0a16_13 : decode cJ7_fill_d0a16 13 = .ok (.iload_n 3, 1) := by decide +kernel
theorem dJ7_fill_d0a16_14 : decode cJ7_fill_d0a16 14 = .ok (.lload_n 1, 1) := by decide +kernel
theorem dJ7_fill_d0a16_15 : decode cJ7_fill_d0a16 15 = .ok (.lastore, 1) := by decide +kernel
theorem dJ7_fill_d0a16_16 : decode cJ7_fill_d0a16 16 = .ok (.iinc 3 1, 3) := by decide +kernel
theorem dJ7_fill_d0a16_19 : decode cJ7_fill_d0a16 19 = .ok (.goto (-13), 3) := by decide +kernel
theorem dJ7_fill_d0a16_22 : decode cJ7_fill_d0a16 22 = .ok (.return_, 1) := by decide +kernel
theorem dJ7_fill_53178_0 : decode cJ7_fill_53178 0 = .ok (.iconst 0, 1) := by decide +kernel
theorem dJ7_fill_53178_1 : decode cJ7_fill_53178 1 = .ok (.istore_n 2, 1) := by decide +kernel
theorem dJ7_fill_53178_2 : decode cJ7_fill_53178 2 = .ok (.aload_n 0, 1) := by decide +kernel
theorem dJ7_fill_53178_3 : decode cJ7_fill_53178 3 = .ok (.arraylength, 1) := by decide +kernel
theorem dJ7_fill_53178_4 : decode cJ7_fill_53178 4 = .ok (.istore_n 3, 1) := by decide +kernel
theorem dJ7_fill_53178_5 : decode cJ7_fill_53178 5 = .ok (.iload_n 2, 1) := by decide +kernel
theorem dJ7_fill_53178_6 : decode cJ7_fill_53178 6 = .ok (.iload_n 3, 1) := by decide +kernel
theorem dJ7_fill_53178_7 : decode cJ7_fill_53178 7 = .ok (.if_icmp .ge 13, 3) := by decide +kernel
theorem dJ7_fill_53178_10 : decode cJ7_fill_53178 10 = .ok (.aload_n 0, 1) := by decide +kernel
theorem dJ7_fill_53178_11 : decode cJ7_fill_53178 11 = .ok (.iload_n 2, 1) := by decide +kernel
theorem dJ7_fill_53178_12 : decode cJ7_fill_53178 12 = .ok (.iload_n 1, 1) := by decide +kernel
theorem dJ7_fill_53178_13 : decode cJ7_fill_53178 13 = .ok (.iastore, 1) := by decide +kernel
theorem dJ7_fill_53178_14 : decode cJ7_fill_53178 14 = .ok (.iinc 2 1, 3) := by decide +kernel
theorem dJ7_fill_53178_17 : decode cJ7_fill_53178 17 = .ok (.goto (-12), 3) := by decide +kernel
theorem dJ7_fill_53178_20 : decode cJ7_fill_53178 20 = .ok (.return_, 1) := by decide +kernel
theorem dJ3_checkIndex_8e157_0 : decode cJ3_checkIndex_8e157 0 = .ok (.iload_n 0, 1) := by decide +kernel
theorem dJ3_checkIndex_8e157_1 : decode cJ3_checkIndex_8e157 1 = .ok (.ifCond .lt 8, 3) := by decide +kernel
theorem dJ3_checkIndex_8e157_4 : decode cJ3_checkIndex_8e157 4 = .ok (.iload_n 0, 1) := by decide +kernel
theorem dJ3_checkIndex_8e157_5 : decode cJ3_checkIndex_8e157 5 = .ok (.iload_n 1, 1) := by decide +kernel
theorem dJ3_checkIndex_8e157_6 : decode cJ3_checkIndex_8e157 6 = .ok (.if_icmp .lt 10, 3) := by decide +kernel
theorem dJ3_checkIndex_8e157_9 : decode cJ3_checkIndex_8e157 9 = .ok (.aload_n 2, 1) := by decide +kernel
theorem dJ3_checkIndex_8e157_10 : decode cJ3_checkIndex_8e157 10 = .ok (.iload_n 0, 1) := by decide +kernel
theorem dJ3_checkIndex_8e157_11 : decode cJ3_checkIndex_8e157 11 = .ok (.iload_n 1, 1) := by decide +kernel
theorem dJ3_checkIndex_8e157_12 : decode cJ3_checkIndex_8e157 12 = .ok (.invokestatic 95, 3) := by decide +kernel
theorem dJ3_checkIndex_8e157_15 : decode cJ3_checkIndex_8e157 15 = .ok (.athrow, 1) := by decide +kernel
theorem dJ3_checkIndex_8e157_16 : decode cJ3_checkIndex_8e157 16 = .ok (.iload_n 0, 1) := by decide +kernel
theorem dJ3_checkIndex_8e157_17 : decode cJ3_checkIndex_8e157 17 = .ok (.ireturn, 1) := by decide +kernel
