theorem dX7_undo_36 : decode cX7_undo 36 = .ok (.aload_n 0, 1) := by decide +kernel
theorem dX7_undo_37 : decode cX7_undo 37 = .ok (.getfield 79, 3) := by decide +kernel
theorem dX7_undo_40 : decode cX7_undo 40 = .ok (.ireturn, 1) := by decide +kernel
theorem dX7_callsIn_0 : decode cX7_callsIn 0 = .ok (.iconst 1, 1) := by decide +kernel
theorem dX7_callsIn_1 : decode cX7_callsIn 1 = .ok (.istore_n 3, 1) := by decide +kernel
theorem dX7_callsIn_2 : decode cX7_callsIn 2 = .ok (.iload_n 3, 1) := by decide +kernel
theorem dX7_callsIn_3 : decode cX7_callsIn 3 = .ok (.bipush 10, 2) := by decide +kernel
theorem dX7_callsIn_5 : decode cX7_callsIn 5 = .ok (.if_icmp .ge 21, 3) := by decide +kernel
theorem dX7_callsIn_8 : decode cX7_callsIn 8 = .ok (.aload_n 0, 1) := by decide +kernel
theorem dX7_callsIn_9 : decode cX7_callsIn 9 = .ok (.iload_n 1, 1) := by decide +kernel
theorem dX7_callsIn_10 : decode cX7_callsIn 10 = .ok (.iload_n 2, 1) := by decide +kernel
theorem dX7_callsIn_11 : decode cX7_callsIn 11 = .ok (.iload_n 3, 1) := by decide +kernel
theorem dX7_callsIn_12 : decode cX7_callsIn 12 = .ok (.invokevirtual 146, 3) := by decide +kernel
theorem dX7_callsIn_15 : decode cX7_callsIn 15 = .ok (.ifCond .eq 5, 3) := by decide +kernel
theorem dX7_callsIn_18 : decode cX7_callsIn 18 = .ok (.iload_n 3, 1) := by decide +kernel
theorem dX7_callsIn_19 : decode cX7_callsIn 19 = .ok (.ireturn, 1) := by decide +kernel
theorem dX7_callsIn_20 : decode cX7_callsIn 20 = .ok (.iinc 3 1, 3) := by decide +kernel
theorem dX7_callsIn_23 : decode cX7_callsIn 23 = .ok (.goto (-21), 3) := by decide +kernel
theorem dX7_callsIn_26 : decode cX7_callsIn 26 = .ok (.bipush (-4), 2) := by decide +kernel
theorem dX7_callsIn_28 : decode cX7_callsIn 28 = .ok (.ireturn, 1) := by decide +kernel
theorem dX7_calls_0 : decode cX7_calls 0 = .ok (.aload_n 0, 1) := by decide +kernel
theorem dX7_calls_1 : decode cX7_calls 1 = .ok (.iload_n 1, 1) := by decide +kernel
theorem dX7_calls_2 : decode cX7_calls 2 = .ok (.invokevirtual 130, 3) := by decide +kernel
theorem dX7_calls_5 : decode cX7_calls 5 = .ok (.ifCond .ne 7, 3) := by decide +kernel
theorem dX7_calls_8 : decode cX7_calls 8 = .ok (.iconst (-1), 1) := by decide +kernel
theorem dX7_calls_9 : decode cX7_calls 9 = .ok (.goto 23, 3) := by decide +kernel
theorem dX7_calls_12 : decode cX7_calls 12 = .ok (.aload_n 0, 1) := by decide +kernel
theorem dX7_calls_13 : decode cX7_calls 13 = .ok (.iconst 0, 1) := by decide +kernel
theorem dX7_calls_14 : decode cX7_calls 14 = .ok (.iload_n 1, 1) := by decide +kernel
theorem dX7_calls_15 : decode cX7_calls 15 = .ok (.invokevirtual 138, 3) := by decide +kernel
theorem dX7_calls_18 : decode cX7_calls 18 = .ok (.ifCond .ne 8, 3) := by decide +kernel
theorem dX7_calls_21 : decode cX7_calls 21 = .ok (.bipush (-2), 2) := by decide +kernel
theorem dX7_calls_23 : decode cX7_calls 23 = .ok (.goto 9, 3) := by decide +kernel
theorem dX7_calls_26 : decode cX7_calls 26 = .ok (.aload_n 0, 1) := by decide +kernel
theorem dX7_calls_27 : decode cX7_calls 27 = .ok (.iconst 0, 1) := by decide +kernel
theorem dX7_calls_28 : decode cX7_calls 28 = .ok (.iload_n 1, 1) := by decide +kernel
theorem dX7_calls_29 : decode cX7_calls 29 = .ok (.invokevirtual 179, 3) := by decide +kernel
theorem dX7_calls_32 : decode cX7_calls 32 = .ok (.ireturn, 1) := by decide +kernel
theorem dX7_tries_0 : decode cX7_tries 0 = .ok (.aload_n 0, 1) := by decide +kernel
theorem dX7_tries_1 : decode cX7_tries 1 = .ok (.iconst 0, 1) := by decide +kernel
theorem dX7_tries_2 : decode cX7_tries 2 = .ok (.bipush 52, 2) := by decide +kernel
theorem dX7_tries_4 : decode cX7_tries 4 = .ok (.invokevirtual 153, 3) := by decide +kernel
theorem dX7_tries_7 : decode cX7_tries 7 = .ok (.return_, 1) := by decide +kernel
theorem dX7_rounds_0 : decode cX7_rounds 0 = .ok (.aload_n 0, 1) := by decide +kernel
theorem dX7_rounds_1 : decode cX7_rounds 1 = .ok (.iload_n 1, 1) := by decide +kernel
theorem dX7_rounds_2 : decode cX7_rounds 2 = .ok (.invokevirtual 130, 3) := by decide +kernel
theorem dX7_rounds_5 : decode cX7_rounds 5 = .ok (.ifCond .eq 15, 3) := by decide +kernel
theorem dX7_rounds_8 : decode cX7_rounds 8 = .ok (.iload_n 2, 1) := by decide +kernel
theorem dX7_rounds_9 : decode cX7_rounds 9 = .ok (.i2l, 1) := by decide +kernel
theorem dX7_rounds_10 : decode cX7_rounds 10 = .ok (.lconst 1, 1) := by decide +kernel
theorem dX7_rounds_11 : decode cX7_rounds 11 = .ok (.ldc2_w 163, 3) := by decide +kernel
theorem dX7_rounds_14 : decode cX7_rounds 14 = .ok (.invokestatic 72, 3) := by decide +kernel
theorem dX7_rounds_17 : decode cX7_rounds 17 = .ok (.ifCond .ne 5, 3) := by decide +kernel
theorem dX7_rounds_20 : decode cX7_rounds 20 = .ok (.iconst (-1), 1) := by decide +kernel
theorem dX7_rounds_21 : decode cX7_rounds 21 = .ok (.ireturn, 1) := by decide +kernel
theorem dX7_rounds_22 : decode cX7_rounds 22 = .ok (.aload_n 0, 1) := by decide +kernel
theorem dX7_rounds_23 : decode cX7_rounds 23 = .ok (.iconst 0, 1) := by decide +kernel
theorem dX7_rounds_24 : decode cX7_rounds 24 = .ok (.iload_n 1, 1) := by decide +kernel
theorem dX7_rounds_25 : decode cX7_rounds 25 = .ok (.invokevirtual 138, 3) := by decide +kernel
theorem dX7_rounds_28 : decode cX7_rounds 28 = .ok (.ifCond .ne 6, 3) := by decide +kernel
theorem dX7_rounds_31 : decode cX7_rounds 31 = .ok (.bipush (-2), 2) := by decide +kernel
theorem dX7_rounds_33 : decode cX7_rounds 33 = .ok (.ireturn, 1) := by decide +kernel
theorem dX7_rounds_34 : decode cX7_rounds 34 = .ok (.aload_n 0, 1) := by decide +kernel
theorem dX7_rounds_35 : decode cX7_rounds 35 = .ok (.invokevirtual 183, 3) := by decide +kernel
theorem dX7_rounds_38 : decode cX7_rounds 38 = .ok (.iconst 0, 1) := by decide +kernel
theorem dX7_rounds_39 : decode cX7_rounds 39 = .ok (.istore_n 3, 1) := by decide +kernel
theorem dX7_rounds_40 : decode cX7_rounds 40 = .ok (.iload_n 3, 1) := by decide +kernel
theorem dX7_rounds_41 : decode cX7_rounds 41 = .ok (.bipush 8, 2) := by decide +kernel
theorem dX7_rounds_43 : decode cX7_rounds 43 = .ok (.if_icmp .ge 64, 3) := by decide +kernel
theorem dX7_rounds_46 : decode cX7_rounds 46 = .ok (.aload_n 0, 1) := by decide +kernel
theorem dX7_rounds_47 : decode cX7_rounds 47 = .ok (.bipush 52, 2) := by decide +kernel
theorem dX7_rounds_49 : decode cX7_rounds 49 = .ok (.iload_n 1, 1) := by decide +kernel
theorem dX7_rounds_50 : decode cX7_rounds 50 = .ok (.iload_n 2, 1) := by decide +kernel
theorem dX7_rounds_51 : decode cX7_rounds 51 = .ok (.invokevirtual 146, 3) := by decide +kernel
theorem dX7_rounds_54 : decode cX7_rounds 54 = .ok (.ifCond .eq 23, 3) := by decide +kernel
theorem dX7_rounds_57 : decode cX7_rounds 57 = .ok (.aload_n 0, 1) := by decide +kernel
theorem dX7_rounds_58 : decode cX7_rounds 58 = .ok (.getfield 7, 3) := by decide +kernel
theorem dX7_rounds_61 : decode cX7_rounds 61 = .ok (.bipush 64, 2) := by decide +kernel
theorem dX7_rounds_63 : decode cX7_rounds 63 = .ok (.iload_n 1, 1) := by decide +kernel
theorem dX7_rounds_64 : decode cX7_rounds 64 = .ok (.iadd, 1) := by decide +kernel
theorem dX7_rounds_65 : decode cX7_rounds 65 = .ok (.iaload, 1) := by decide +kernel
theorem dX7_rounds_66 : decode cX7_rounds 66 = .ok (.aload_n 0, 1) := by decide +kernel
theorem dX7_rounds_67 : decode cX7_rounds 67 = .ok (.getfield 19, 3) := by decide +kernel
theorem dX7_rounds_70 : decode cX7_rounds 70 = .ok (.iload_n 1, 1) := by decide +kernel
theorem dX7_rounds_71 : decode cX7_rounds 71 = .ok (.iaload, 1) := by decide +kernel
theorem dX7_rounds_72 : decode cX7_rounds 72 = .ok (.if_icmp .lt 5, 3) := by decide +kernel
theorem dX7_rounds_75 : decode cX7_rounds 75 = .ok (.iload_n 3, 1) := by decide +kernel
theorem dX7_rounds_76 : decode cX7_rounds 76 = .ok (.ireturn, 1) := by decide +kernel
theorem dX7_rounds_77 : decode cX7_rounds 77 = .ok (.aload_n 0, 1) := by decide +kernel
theorem dX7_rounds_78 : decode cX7_rounds 78 = .ok (.getfield 7, 3) := by decide +kernel
theorem dX7_rounds_81 : decode cX7_rounds 81 = .ok (.bipush 64, 2) := by decide +kernel
theorem dX7_rounds_83 : decode cX7_rounds 83 = .ok (.iload_n 1, 1) := by decide +kernel
theorem dX7_rounds_84 : decode cX7_rounds 84 = .ok (.iadd, 1) := by decide +kernel
theorem dX7_rounds_85 : decode cX7_rounds 85 = .ok (.iaload, 1) := by decide +kernel
theorem dX7_rounds_86 : decode cX7_rounds 86 = .ok (.bipush 7, 2) := by decide +kernel
theorem dX7_rounds_88 : decode cX7_rounds 88 = .ok (.if_icmp .ne 6, 3) := by decide +kernel
theorem dX7_rounds_91 : decode cX7_rounds 91 = .ok (.bipush (-4), 2) := by decide +kernel
theorem dX7_rounds_93 : decode cX7_rounds 93 = .ok (.ireturn, 1) := by decide +kernel
theorem dX7_rounds_94 : decode cX7_rounds 94 = .ok (.aload_n 0, 1) := by decide +kernel
theorem dX7_rounds_95 : decode cX7_rounds 95 = .ok (.bipush 52, 2) := by decide +kernel
theorem dX7_rounds_97 : decode cX7_rounds 97 = .ok (.iload_n 1, 1) := by decide +kernel
theorem dX7_rounds_98 : decode cX7_rounds 98 = .ok (.invokevirtual 160, 3) := by decide +kernel
theorem dX7_rounds_101 : decode cX7_rounds 101 = .ok (.iinc 3 1, 3) := by decide +kernel
theorem dX7_rounds_104 : decode cX7_rounds 104 = .ok (.goto (-64), 3) := by decide +kernel
theorem dX7_rounds_107 : decode cX7_rounds 107 = .ok (.bipush (-4), 2) := by decide +kernel
theorem dX7_rounds_109 : decode cX7_rounds 109 = .ok (.ireturn, 1) := by decide +kernel
theorem dX7_downOnes_0 : decode cX7_downOnes 0 = .ok (.iconst 0, 1) := by decide +kernel
theorem dX7_downOnes_1 : decode cX7_downOnes 1 = .ok (.istore_n 2, 1) := by decide +kernel
theorem dX7_downOnes_2 : decode cX7_downOnes 2 = .ok (.iconst 0, 1) := by decide +kernel
theorem dX7_downOnes_3 : decode cX7_downOnes 3 = .ok (.istore_n 3, 1) := by decide +kernel
theorem dX7_downOnes_4 : decode cX7_downOnes 4 = .ok (.iload_n 3, 1) := by decide +kernel
theorem dX7_downOnes_5 : decode cX7_downOnes 5 = .ok (.aload_n 0, 1) := by decide +kernel
theorem dX7_downOnes_6 : decode cX7_downOnes 6 = .ok (.getfield 69, 3) := by decide +kernel
theorem dX7_downOnes_9 : decode cX7_downOnes 9 = .ok (.if_icmp .ge 28, 3) := by decide +kernel
theorem dX7_downOnes_12 : decode cX7_downOnes 12 = .ok (.iload_n 2, 1) := by decide +kernel
theorem dX7_downOnes_13 : decode cX7_downOnes 13 = .ok (.aload_n 0, 1) := by decide +kernel
theorem dX7_downOnes_14 : decode cX7_downOnes 14 = .ok (.iload_n 1, 1) := by decide +kernel
theorem dX7_downOnes_15 : decode cX7_downOnes 15 = .ok (.iload_n 3, 1) := by decide +kernel
theorem dX7_downOnes_16 : decode cX7_downOnes 16 = .ok (.invokevirtual 138, 3) := by decide +kernel
theorem dX7_downOnes_19 : decode cX7_downOnes 19 = .ok (.ifCond .eq 7, 3) := by decide +kernel
theorem dX7_downOnes_22 : decode cX7_downOnes 22 = .ok (.iconst 0, 1) := by decide +kernel
theorem dX7_downOnes_23 : decode cX7_downOnes 23 = .ok (.goto 6, 3) := by decide +kernel
theorem dX7_downOnes_26 : decode cX7_downOnes 26 = .ok (.iconst 1, 1) := by decide +kernel
theorem dX7_downOnes_27 : decode cX7_downOnes 27 = .ok (.iload_n 3, 1) := by decide +kernel
theorem dX7_downOnes_28 : decode cX7_downOnes 28 = .ok (.ishl, 1) := by decide +kernel
theorem dX7_downOnes_29 : decode cX7_downOnes 29 = .ok (.ior, 1) := by decide +kernel
theorem dX7_downOnes_30 : decode cX7_downOnes 30 = .ok (.istore_n 2, 1) := by decide +kernel
theorem dX7_downOnes_31 : decode cX7_downOnes 31 = .ok (.iinc 3 1, 3) := by decide +kernel
theorem dX7_downOnes_34 : decode cX7_downOnes 34 = .ok (.goto (-30), 3) := by decide +kernel
theorem dX7_downOnes_37 : decode cX7_downOnes 37 = .ok (.iload_n 2, 1) := by decide +kernel
theorem dX7_downOnes_38 : decode cX7_downOnes 38 = .ok (.ireturn, 1) := by decide +kernel
theorem dX7_key_0 : decode cX7_key 0 = .ok (.iload_n 1, 1) := by decide +kernel
theorem dX7_key_1 : decode cX7_key 1 = .ok (.i2l, 1) := by decide +kernel
theorem dX7_key_2 : decode cX7_key 2 = .ok (.lconst 0, 1) := by decide +kernel
theorem dX7_key_3 : decode cX7_key 3 = .ok (.lconst 1, 1) := by decide +kernel
theorem dX7_key_4 : decode cX7_key 4 = .ok (.invokestatic 72, 3) := by decide +kernel
theorem dX7_key_7 : decode cX7_key 7 = .ok (.ifCond .ne 5, 3) := by decide +kernel
theorem dX7_key_10 : decode cX7_key 10 = .ok (.iconst (-1), 1) := by decide +kernel
theorem dX7_key_11 : decode cX7_key 11 = .ok (.ireturn, 1) := by decide +kernel
theorem dX7_key_12 : decode cX7_key 12 = .ok (.bipush (-4), 2) := by decide +kernel
theorem dX7_key_14 : decode cX7_key 14 = .ok (.istore_n 2, 1) := by decide +kernel
theorem dX7_key_15 : decode cX7_key 15 = .ok (.bipush (-4), 2) := by decide +kernel
theorem dX7_key_17 : decode cX7_key 17 = .ok (.istore_n 3, 1) := by decide +kernel
theorem dX7_key_18 : decode cX7_key 18 = .ok (.iconst 0, 1) := by decide +kernel
theorem dX7_key_19 : decode cX7_key 19 = .ok (.istore 4, 2) := by decide +kernel
theorem dX7_key_21 : decode cX7_key 21 = .ok (.iload 4, 2) := by decide +kernel
theorem dX7_key_23 : decode cX7_key 23 = .ok (.aload_n 0, 1) := by decide +kernel
theorem dX7_key_24 : decode cX7_key 24 = .ok (.getfield 69, 3) := by decide +kernel
theorem dX7_key_27 : decode cX7_key 27 = .ok (.if_icmp .ge 84, 3) := by decide +kernel
theorem dX7_key_30 : decode cX7_key 30 = .ok (.aload_n 0, 1) := by decide +kernel
theorem dX7_key_31 : decode cX7_key 31 = .ok (.iconst 0, 1) := by decide +kernel
theorem dX7_key_32 : decode cX7_key 32 = .ok (.iload 4, 2) := by decide +kernel
theorem dX7_key_34 : decode cX7_key 34 = .ok (.invokevirtual 138, 3) := by decide +kernel
theorem dX7_key_37 : decode cX7_key 37 = .ok (.ifCond .eq 68, 3) := by decide +kernel
theorem dX7_key_40 : decode cX7_key 40 = .ok (.aload_n 0, 1) := by decide +kernel
theorem dX7_key_41 : decode cX7_key 41 = .ok (.invokevirtual 183, 3) := by decide +kernel
theorem dX7_key_44 : decode cX7_key 44 = .ok (.aload_n 0, 1) := by decide +kernel
theorem dX7_key_45 : decode cX7_key 45 = .ok (.bipush 52, 2) := by decide +kernel
theorem dX7_key_47 : decode cX7_key 47 = .ok (.iload 4, 2) := by decide +kernel
theorem dX7_key_49 : decode cX7_key 49 = .ok (.iconst 1, 1) := by decide +kernel
theorem dX7_key_50 : decode cX7_key 50 = .ok (.invokevirtual 149, 3) := by decide +kernel
theorem dX7_key_53 : decode cX7_key 53 = .ok (.aload_n 0, 1) := by decide +kernel
theorem dX7_key_54 : decode cX7_key 54 = .ok (.bipush 52, 2) := by decide +kernel
theorem dX7_key_56 : decode cX7_key 56 = .ok (.invokevirtual 186, 3) := by decide +kernel
theorem dX7_key_59 : decode cX7_key 59 = .ok (.aload_n 0, 1) := by decide +kernel
theorem dX7_key_60 : decode cX7_key 60 = .ok (.iconst 0, 1) := by decide +kernel
theorem dX7_key_61 : decode cX7_key 61 = .ok (.invokevirtual 186, 3) := by decide +kernel
theorem dX7_key_64 : decode cX7_key 64 = .ok (.iconst (-1), 1) := by decide +kernel
theorem dX7_key_65 : decode cX7_key 65 = .ok (.ixor, 1) := by decide +kernel
theorem dX7_key_66 : decode cX7_key 66 = .ok (.iand, 1) := by decide +kernel
theorem dX7_key_67 : decode cX7_key 67 = .ok (.iconst 1, 1) := by decide +kernel
theorem dX7_key_68 : decode cX7_key 68 = .ok (.iload 4, 2) := by decide +kernel
theorem dX7_key_70 : decode cX7_key 70 = .ok (.ishl, 1) := by decide +kernel
theorem dX7_key_71 : decode cX7_key 71 = .ok (.iconst (-1), 1) := by decide +kernel
theorem dX7_key_72 : decode cX7_key 72 = .ok (.ixor, 1) := by decide +kernel
theorem dX7_key_73 : decode cX7_key 73 = .ok (.iand, 1) := by decide +kernel
theorem dX7_key_74 : decode cX7_key 74 = .ok (.invokestatic 189, 3) := by decide +kernel
theorem dX7_key_77 : decode cX7_key 77 = .ok (.istore 5, 2) := by decide +kernel
theorem dX7_key_79 : decode cX7_key 79 = .ok (.iload 5, 2) := by decide +kernel
theorem dX7_key_81 : decode cX7_key 81 = .ok (.iload_n 3, 1) := by decide +kernel
theorem dX7_key_82 : decode cX7_key 82 = .ok (.if_icmp .le 8, 3) := by decide +kernel
theorem dX7_key_85 : decode cX7_key 85 = .ok (.iload 4, 2) := by decide +kernel
theorem dX7_key_87 : decode cX7_key 87 = .ok (.goto 4, 3) := by decide +kernel
theorem dX7_key_90 : decode cX7_key 90 = .ok (.iload_n 2, 1) := by decide +kernel
theorem dX7_key_91 : decode cX7_key 91 = .ok (.istore_n 2, 1) := by decide +kernel
theorem dX7_key_92 : decode cX7_key 92 = .ok (.iload 5, 2) := by decide +kernel
theorem dX7_key_94 : decode cX7_key 94 = .ok (.iload_n 3, 1) := by decide +kernel
theorem dX7_key_95 : decode cX7_key 95 = .ok (.if_icmp .le 8, 3) := by decide +kernel
theorem dX7_key_98 : decode cX7_key 98 = .ok (.iload 5, 2) := by decide +kernel
theorem dX7_key_100 : decode cX7_key 100 = .ok (.goto 4, 3) := by decide +kernel
theorem dX7_key_103 : decode cX7_key 103 = .ok (.iload_n 3, 1) := by decide +kernel
theorem dX7_key_104 : decode cX7_key 104 = .ok (.istore_n 3, 1) := by decide +kernel
theorem dX7_key_105 : decode cX7_key 105 = .ok (.iinc 4 1, 3) := by decide +kernel
theorem dX7_key_108 : decode cX7_key 108 = .ok (.goto (-87), 3) := by decide +kernel
theorem dX7_key_111 : decode cX7_key 111 = .ok (.iload_n 1, 1) := by decide +kernel
theorem dX7_key_112 : decode cX7_key 112 = .ok (.ifCond .ne 7, 3) := by decide +kernel
theorem dX7_key_115 : decode cX7_key 115 = .ok (.iload_n 2, 1) := by decide +kernel
theorem dX7_key_116 : decode cX7_key 116 = .ok (.goto 4, 3) := by decide +kernel
theorem dX7_key_119 : decode cX7_key 119 = .ok (.iload_n 3, 1) := by decide +kernel
theorem dX7_key_120 : decode cX7_key 120 = .ok (.ireturn, 1) := by decide +kernel
theorem dX7_bestOrder_0 : decode cX7_bestOrder 0 = .ok (.ldc 192, 2) := by decide +kernel
theorem dX7_bestOrder_2 : decode cX7_bestOrder 2 = .ok (.istore_n 1, 1) := by decide +kernel
theorem dX7_bestOrder_3 : decode cX7_bestOrder 3 = .ok (.aload_n 0, 1) := by decide +kernel
theorem dX7_bestOrder_4 : decode cX7_bestOrder 4 = .ok (.iconst 0, 1) := by decide +kernel
theorem dX7_bestOrder_5 : decode cX7_bestOrder 5 = .ok (.putfield 193, 3) := by decide +kernel
theorem dX7_bestOrder_8 : decode cX7_bestOrder 8 = .ok (.iconst 0, 1) := by decide +kernel
theorem dX7_bestOrder_9 : decode cX7_bestOrder 9 = .ok (.istore_n 2, 1) := by decide +kernel
theorem dX7_bestOrder_10 : decode cX7_bestOrder 10 = .ok (.aload_n 0, 1) := by decide +kernel
theorem dX7_bestOrder_11 : decode cX7_bestOrder 11 = .ok (.iconst 0, 1) := by decide +kernel
theorem dX7_bestOrder_12 : decode cX7_bestOrder 12 = .ok (.sipush 624, 3) := by decide +kernel
theorem dX7_bestOrder_15 : decode cX7_bestOrder 15 = .ok (.invokevirtual 153, 3) := by decide +kernel
theorem dX7_bestOrder_18 : decode cX7_bestOrder 18 = .ok (.aload_n 0, 1) := by decide +kernel
theorem dX7_bestOrder_19 : decode cX7_bestOrder 19 = .ok (.getfield 46, 3) := by decide +kernel
theorem dX7_bestOrder_22 : decode cX7_bestOrder 22 = .ok (.iconst 0, 1) := by decide +kernel
theorem dX7_bestOrder_23 : decode cX7_bestOrder 23 = .ok (.iconst (-1), 1) := by decide +kernel
theorem dX7_bestOrder_24 : decode cX7_bestOrder 24 = .ok (.iastore, 1) := by decide +kernel
theorem dX7_bestOrder_25 : decode cX7_bestOrder 25 = .ok (.aload_n 0, 1) := by decide +kernel
theorem dX7_bestOrder_26 : decode cX7_bestOrder 26 = .ok (.getfield 49, 3) := by decide +kernel
theorem dX7_bestOrder_29 : decode cX7_bestOrder 29 = .ok (.iconst 0, 1) := by decide +kernel
theorem dX7_bestOrder_30 : decode cX7_bestOrder 30 = .ok (.iconst 0, 1) := by decide +kernel
theorem dX7_bestOrder_31 : decode cX7_bestOrder 31 = .ok (.iastore, 1) := by decide +kernel
theorem dX7_bestOrder_32 : decode cX7_bestOrder 32 = .ok (.iload_n 2, 1) := by decide +kernel
theorem dX7_bestOrder_33 : decode cX7_bestOrder 33 = .ok (.ifCond .lt 253, 3) := by decide +kernel
theorem dX7_bestOrder_36 : decode cX7_bestOrder 36 = .ok (.sipush 624, 3) := by decide +kernel
theorem dX7_bestOrder_39 : decode cX7_bestOrder 39 = .ok (.bipush 52, 2) := by decide +kernel
theorem dX7_bestOrder_41 : decode cX7_bestOrder 41 = .ok (.iload_n 2, 1) := by decide +kernel
theorem dX7_bestOrder_42 : decode cX7_bestOrder 42 = .ok (.imul, 1) := by decide +kernel
theorem dX7_bestOrder_43 : decode cX7_bestOrder 43 = .ok (.iadd, 1) := by decide +kernel
theorem dX7_bestOrder_44 : decode cX7_bestOrder 44 = .ok (.istore_n 3, 1) := by decide +kernel
theorem dX7_bestOrder_45 : decode cX7_bestOrder 45 = .ok (.aload_n 0, 1) := by decide +kernel
theorem dX7_bestOrder_46 : decode cX7_bestOrder 46 = .ok (.getfield 46, 3) := by decide +kernel
theorem dX7_bestOrder_49 : decode cX7_bestOrder 49 = .ok (.iload_n 2, 1) := by decide +kernel
theorem dX7_bestOrder_50 : decode cX7_bestOrder 50 = .ok (.iaload, 1) := by decide +kernel
theorem dX7_bestOrder_51 : decode cX7_bestOrder 51 = .ok (.ifCond .ge 75, 3) := by decide +kernel
theorem dX7_bestOrder_54 : decode cX7_bestOrder 54 = .ok (.aload_n 0, 1) := by decide +kernel
theorem dX7_bestOrder_55 : decode cX7_bestOrder 55 = .ok (.iload_n 3, 1) := by decide +kernel
theorem dX7_bestOrder_56 : decode cX7_bestOrder 56 = .ok (.invokevirtual 186, 3) := by decide +kernel
theorem dX7_bestOrder_59 : decode cX7_bestOrder 59 = .ok (.invokestatic 189, 3) := by decide +kernel
theorem dX7_bestOrder_62 : decode cX7_bestOrder 62 = .ok (.aload_n 0, 1) := by decide +kernel
theorem dX7_bestOrder_63 : decode cX7_bestOrder 63 = .ok (.getfield 69, 3) := by decide +kernel
theorem dX7_bestOrder_66 : decode cX7_bestOrder 66 = .ok (.if_icmp .ne 60, 3) := by decide +kernel
theorem dX7_bestOrder_69 : decode cX7_bestOrder 69 = .ok (.aload_n 0, 1) := by decide +kernel
theorem dX7_bestOrder_70 : decode cX7_bestOrder 70 = .ok (.getfield 49, 3) := by decide +kernel
theorem dX7_bestOrder_73 : decode cX7_bestOrder 73 = .ok (.iload_n 2, 1) := by decide +kernel
theorem dX7_bestOrder_74 : decode cX7_bestOrder 74 = .ok (.iaload, 1) := by decide +kernel
theorem dX7_bestOrder_75 : decode cX7_bestOrder 75 = .ok (.iload_n 1, 1) := by decide +kernel
theorem dX7_bestOrder_76 : decode cX7_bestOrder 76 = .ok (.if_icmp .ge 44, 3) := by decide +kernel
theorem dX7_bestOrder_79 : decode cX7_bestOrder 79 = .ok (.aload_n 0, 1) := by decide +kernel
theorem dX7_bestOrder_80 : decode cX7_bestOrder 80 = .ok (.getfield 49, 3) := by decide +kernel
theorem dX7_bestOrder_83 : decode cX7_bestOrder 83 = .ok (.iload_n 2, 1) := by decide +kernel
theorem dX7_bestOrder_84 : decode cX7_bestOrder 84 = .ok (.iaload, 1) := by decide +kernel
theorem dX7_bestOrder_85 : decode cX7_bestOrder 85 = .ok (.istore_n 1, 1) := by decide +kernel
theorem dX7_bestOrder_86 : decode cX7_bestOrder 86 = .ok (.aload_n 0, 1) := by decide +kernel
theorem dX7_bestOrder_87 : decode cX7_bestOrder 87 = .ok (.iload_n 2, 1) := by decide +kernel
theorem dX7_bestOrder_88 : decode cX7_bestOrder 88 = .ok (.putfield 193, 3) := by decide +kernel
theorem dX7_bestOrder_91 : decode cX7_bestOrder 91 = .ok (.iconst 0, 1) := by decide +kernel
theorem dX7_bestOrder_92 : decode cX7_bestOrder 92 = .ok (.istore 4, 2) := by decide +kernel
theorem dX7_bestOrder_94 : decode cX7_bestOrder 94 = .ok (.iload 4, 2) := by decide +kernel
theorem dX7_bestOrder_96 : decode cX7_bestOrder 96 = .ok (.iload_n 2, 1) := by decide +kernel
theorem dX7_bestOrder_97 : decode cX7_bestOrder 97 = .ok (.if_icmp .ge 23, 3) := by decide +kernel
theorem dX7_bestOrder_100 : decode cX7_bestOrder 100 = .ok (.aload_n 0, 1) := by decide +kernel
theorem dX7_bestOrder_101 : decode cX7_bestOrder 101 = .ok (.getfield 52, 3) := by decide +kernel
theorem dX7_bestOrder_104 : decode cX7_bestOrder 104 = .ok (.iload 4, 2) := by decide +kernel
theorem dX7_bestOrder_106 : decode cX7_bestOrder 106 = .ok (.aload_n 0, 1) := by decide +kernel
theorem dX7_bestOrder_107 : decode cX7_bestOrder 107 = .ok (.getfield 46, 3) := by decide +kernel
theorem dX7_bestOrder_110 : decode cX7_bestOrder 110 = .ok (.iload 4, 2) := by decide +kernel
theorem dX7_bestOrder_112 : decode cX7_bestOrder 112 = .ok (.iaload, 1) := by decide +kernel
theorem dX7_bestOrder_113 : decode cX7_bestOrder 113 = .ok (.iastore, 1) := by decide +kernel
theorem dX7_bestOrder_114 : decode cX7_bestOrder 114 = .ok (.iinc 4 1, 3) := by decide +kernel
theorem dX7_bestOrder_117 : decode cX7_bestOrder 117 = .ok (.goto (-23), 3) := by decide +kernel
theorem dX7_bestOrder_120 : decode cX7_bestOrder 120 = .ok (.iinc 2 (-1), 3) := by decide +kernel
theorem dX7_bestOrder_123 : decode cX7_bestOrder 123 = .ok (.goto 160, 3) := by decide +kernel
theorem dX7_bestOrder_126 : decode cX7_bestOrder 126 = .ok (.aload_n 0, 1) := by decide +kernel
theorem dX7_bestOrder_127 : decode cX7_bestOrder 127 = .ok (.getfield 46, 3) := by decide +kernel
theorem dX7_bestOrder_130 : decode cX7_bestOrder 130 = .ok (.iload_n 2, 1) := by decide +kernel
theorem dX7_bestOrder_131 : decode cX7_bestOrder 131 = .ok (.iaload, 1) := by decide +kernel
theorem dX7_bestOrder_132 : decode cX7_bestOrder 132 = .ok (.iconst 1, 1) := by decide +kernel
theorem dX7_bestOrder_133 : decode cX7_bestOrder 133 = .ok (.iadd, 1) := by decide +kernel
theorem dX7_bestOrder_134 : decode cX7_bestOrder 134 = .ok (.istore 4, 2) := by decide +kernel
theorem dX7_bestOrder_136 : decode cX7_bestOrder 136 = .ok (.iload 4, 2) := by decide +kernel
theorem dX7_bestOrder_138 : decode cX7_bestOrder 138 = .ok (.aload_n 0, 1) := by decide +kernel
theorem dX7_bestOrder_139 : decode cX7_bestOrder 139 = .ok (.getfield 69, 3) := by decide +kernel
theorem dX7_bestOrder_142 : decode cX7_bestOrder 142 = .ok (.if_icmp .ge 49, 3) := by decide +kernel
theorem dX7_bestOrder_145 : decode cX7_bestOrder 145 = .ok (.aload_n 0, 1) := by decide +kernel
theorem dX7_bestOrder_146 : decode cX7_bestOrder 146 = .ok (.iload_n 3, 1) := by decide +kernel
theorem dX7_bestOrder_147 : decode cX7_bestOrder 147 = .ok (.iload 4, 2) := by decide +kernel
theorem dX7_bestOrder_149 : decode cX7_bestOrder 149 = .ok (.invokevirtual 138, 3) := by decide +kernel
theorem dX7_bestOrder_152 : decode cX7_bestOrder 152 = .ok (.ifCond .eq 33, 3) := by decide +kernel
theorem dX7_bestOrder_155 : decode cX7_bestOrder 155 = .ok (.aload_n 0, 1) := by decide +kernel
theorem dX7_bestOrder_156 : decode cX7_bestOrder 156 = .ok (.iload_n 3, 1) := by decide +kernel
theorem dX7_bestOrder_157 : decode cX7_bestOrder 157 = .ok (.iload 4, 2) := by decide +kernel
theorem dX7_bestOrder_159 : decode cX7_bestOrder 159 = .ok (.invokevirtual 179, 3) := by decide +kernel
theorem dX7_bestOrder_162 : decode cX7_bestOrder 162 = .ok (.bipush (-4), 2) := by decide +kernel
theorem dX7_bestOrder_164 : decode cX7_bestOrder 164 = .ok (.if_icmp .eq 21, 3) := by decide +kernel
theorem dX7_bestOrder_167 : decode cX7_bestOrder 167 = .ok (.aload_n 0, 1) := by decide +kernel
theorem dX7_bestOrder_168 : decode cX7_bestOrder 168 = .ok (.getfield 49, 3) := by decide +kernel
theorem dX7_bestOrder_171 : decode cX7_bestOrder 171 = .ok (.iload_n 2, 1) := by decide +kernel
theorem dX7_bestOrder_172 : decode cX7_bestOrder 172 = .ok (.iaload, 1) := by decide +kernel
theorem dX7_bestOrder_173 : decode cX7_bestOrder 173 = .ok (.aload_n 0, 1) := by decide +kernel
theorem dX7_bestOrder_174 : decode cX7_bestOrder 174 = .ok (.iload_n 3, 1) := by decide +kernel
theorem dX7_bestOrder_175 : decode cX7_bestOrder 175 = .ok (.iload 4, 2) := by decide +kernel
theorem dX7_bestOrder_177 : decode cX7_bestOrder 177 = .ok (.invokevirtual 179, 3) := by decide +kernel
theorem dX7_bestOrder_180 : decode cX7_bestOrder 180 = .ok (.iadd, 1) := by decide +kernel
theorem dX7_bestOrder_181 : decode cX7_bestOrder 181 = .ok (.iload_n 1, 1) := by decide +kernel
theorem dX7_bestOrder_182 : decode cX7_bestOrder 182 = .ok (.if_icmp .lt 9, 3) := by decide +kernel
theorem dX7_bestOrder_185 : decode cX7_bestOrder 185 = .ok (.iinc 4 1, 3) := by decide +kernel
theorem dX7_bestOrder_188 : decode cX7_bestOrder 188 = .ok (.goto (-52), 3) := by decide +kernel
theorem dX7_bestOrder_191 : decode cX7_bestOrder 191 = .ok (.aload_n 0, 1) := by decide +kernel
theorem dX7_bestOrder_192 : decode cX7_bestOrder 192 = .ok (.getfield 46, 3) := by decide +kernel
theorem dX7_bestOrder_195 : decode cX7_bestOrder 195 = .ok (.iload_n 2, 1) := by decide +kernel
theorem dX7_bestOrder_196 : decode cX7_bestOrder 196 = .ok (.iload 4, 2) := by decide +kernel
theorem dX7_bestOrder_198 : decode cX7_bestOrder 198 = .ok (.iastore, 1) := by decide +kernel
theorem dX7_bestOrder_199 : decode cX7_bestOrder 199 = .ok (.iload 4, 2) := by decide +kernel
theorem dX7_bestOrder_201 : decode cX7_bestOrder 201 = .ok (.aload_n 0, 1) := by decide +kernel
theorem dX7_bestOrder_202 : decode cX7_bestOrder 202 = .ok (.getfield 69, 3) := by decide +kernel
theorem dX7_bestOrder_205 : decode cX7_bestOrder 205 = .ok (.if_icmp .ne 9, 3) := by decide +kernel
theorem dX7_bestOrder_208 : decode cX7_bestOrder 208 = .ok (.iinc 2 (-1), 3) := by decide +kernel
theorem dX7_bestOrder_211 : decode cX7_bestOrder 211 = .ok (.goto 72, 3) := by decide +kernel
theorem dX7_bestOrder_214 : decode cX7_bestOrder 214 = .ok (.aload_n 0, 1) := by decide +kernel
theorem dX7_bestOrder_215 : decode cX7_bestOrder 215 = .ok (.iload_n 3, 1) := by decide +kernel
theorem dX7_bestOrder_216 : decode cX7_bestOrder 216 = .ok (.iload 4, 2) := by decide +kernel
theorem dX7_bestOrder_218 : decode cX7_bestOrder 218 = .ok (.invokevirtual 179, 3) := by decide +kernel
theorem dX7_bestOrder_221 : decode cX7_bestOrder 221 = .ok (.istore 5, 2) := by decide +kernel
theorem dX7_bestOrder_223 : decode cX7_bestOrder 223 = .ok (.aload_n 0, 1) := by decide +kernel
theorem dX7_bestOrder_224 : decode cX7_bestOrder 224 = .ok (.iload_n 3, 1) := by decide +kernel
theorem dX7_bestOrder_225 : decode cX7_bestOrder 225 = .ok (.iload_n 3, 1) := by decide +kernel
theorem dX7_bestOrder_226 : decode cX7_bestOrder 226 = .ok (.bipush 52, 2) := by decide +kernel
theorem dX7_bestOrder_228 : decode cX7_bestOrder 228 = .ok (.iadd, 1) := by decide +kernel
theorem dX7_bestOrder_229 : decode cX7_bestOrder 229 = .ok (.invokevirtual 153, 3) := by decide +kernel
theorem dX7_bestOrder_232 : decode cX7_bestOrder 232 = .ok (.aload_n 0, 1) := by decide +kernel
theorem dX7_bestOrder_233 : decode cX7_bestOrder 233 = .ok (.iload_n 3, 1) := by decide +kernel
theorem dX7_bestOrder_234 : decode cX7_bestOrder 234 = .ok (.bipush 52, 2) := by decide +kernel
theorem dX7_bestOrder_236 : decode cX7_bestOrder 236 = .ok (.iadd, 1) := by decide +kernel
theorem dX7_bestOrder_237 : decode cX7_bestOrder 237 = .ok (.iload 4, 2) := by decide +kernel
theorem dX7_bestOrder_239 : decode cX7_bestOrder 239 = .ok (.iload 5, 2) := by decide +kernel
theorem dX7_bestOrder_241 : decode cX7_bestOrder 241 = .ok (.invokevirtual 165, 3) := by decide +kernel
theorem dX7_bestOrder_244 : decode cX7_bestOrder 244 = .ok (.istore 6, 2) := by decide +kernel
theorem dX7_bestOrder_246 : decode cX7_bestOrder 246 = .ok (.aload_n 0, 1) := by decide +kernel
theorem dX7_bestOrder_247 : decode cX7_bestOrder 247 = .ok (.getfield 49, 3) := by decide +kernel
theorem dX7_bestOrder_250 : decode cX7_bestOrder 250 = .ok (.iload_n 2, 1) := by decide +kernel
theorem dX7_bestOrder_251 : decode cX7_bestOrder 251 = .ok (.iconst 1, 1) := by decide +kernel
theorem dX7_bestOrder_252 : decode cX7_bestOrder 252 = .ok (.iadd, 1) := by decide +kernel
theorem dX7_bestOrder_253 : decode cX7_bestOrder 253 = .ok (.aload_n 0, 1) := by decide +kernel
theorem dX7_bestOrder_254 : decode cX7_bestOrder 254 = .ok (.getfield 49, 3) := by decide +kernel
theorem dX7_bestOrder_257 : decode cX7_bestOrder 257 = .ok (.iload_n 2, 1) := by decide +kernel
theorem dX7_bestOrder_258 : decode cX7_bestOrder 258 = .ok (.iaload, 1) := by decide +kernel
theorem dX7_bestOrder_259 : decode cX7_bestOrder 259 = .ok (.iload 6, 2) := by decide +kernel
theorem dX7_bestOrder_261 : decode cX7_bestOrder 261 = .ok (.ifCond .le 8, 3) := by decide +kernel
theorem dX7_bestOrder_264 : decode cX7_bestOrder 264 = .ok (.iload 5, 2) := by decide +kernel
theorem dX7_bestOrder_266 : decode cX7_bestOrder 266 = .ok (.goto 5, 3) := by decide +kernel
theorem dX7_bestOrder_269 : decode cX7_bestOrder 269 = .ok (.ldc 192, 2) := by decide +kernel
theorem dX7_bestOrder_271 : decode cX7_bestOrder 271 = .ok (.iadd, 1) := by decide +kernel
theorem dX7_bestOrder_272 : decode cX7_bestOrder 272 = .ok (.iastore, 1) := by decide +kernel
theorem dX7_bestOrder_273 : decode cX7_bestOrder 273 = .ok (.iinc 2 1, 3) := by decide +kernel
theorem dX7_bestOrder_276 : decode cX7_bestOrder 276 = .ok (.aload_n 0, 1) := by decide +kernel
theorem dX7_bestOrder_277 : decode cX7_bestOrder 277 = .ok (.getfield 46, 3) := by decide +kernel
theorem dX7_bestOrder_280 : decode cX7_bestOrder 280 = .ok (.iload_n 2, 1) := by decide +kernel
theorem dX7_bestOrder_281 : decode cX7_bestOrder 281 = .ok (.iconst (-1), 1) := by decide +kernel
theorem dX7_bestOrder_282 : decode cX7_bestOrder 282 = .ok (.iastore, 1) := by decide +kernel
theorem dX7_bestOrder_283 : decode cX7_bestOrder 283 = .ok (.goto (-251), 3) := by decide +kernel
theorem dX7_bestOrder_286 : decode cX7_bestOrder 286 = .ok (.iload_n 1, 1) := by decide +kernel
theorem dX7_bestOrder_287 : decode cX7_bestOrder 287 = .ok (.ireturn, 1) := by decide +kernel
theorem dX7_order_0 : decode cX7_order 0 = .ok (.iload_n 1, 1) := by decide +kernel
theorem dX7_order_1 : decode cX7_order 1 = .ok (.i2l, 1) := by decide +kernel
theorem dX7_order_2 : decode cX7_order 2 = .ok (.ldc2_w 196, 3) := by decide +kernel
theorem dX7_order_5 : decode cX7_order 5 = .ok (.ldc2_w 163, 3) := by decide +kernel
theorem dX7_order_8 : decode cX7_order 8 = .ok (.invokestatic 72, 3) := by decide +kernel
theorem dX7_order_11 : decode cX7_order 11 = .ok (.ifCond .ne 5, 3) := by decide +kernel
theorem dX7_order_14 : decode cX7_order 14 = .ok (.iconst (-1), 1) := by decide +kernel
theorem dX7_order_15 : decode cX7_order 15 = .ok (.ireturn, 1) := by decide +kernel
theorem dX7_order_16 : decode cX7_order 16 = .ok (.aload_n 0, 1) := by decide +kernel
theorem dX7_order_17 : decode cX7_order 17 = .ok (.invokevirtual 198, 3) := by decide +kernel
theorem dX7_order_20 : decode cX7_order 20 = .ok (.istore_n 2, 1) := by decide +kernel
theorem dX7_order_21 : decode cX7_order 21 = .ok (.iload_n 2, 1) := by decide +kernel
theorem dX7_order_22 : decode cX7_order 22 = .ok (.ldc 192, 2) := by decide +kernel
theorem dX7_order_24 : decode cX7_order 24 = .ok (.if_icmp .lt 6, 3) := by decide +kernel
theorem dX7_order_27 : decode cX7_order 27 = .ok (.bipush (-4), 2) := by decide +kernel
theorem dX7_order_29 : decode cX7_order 29 = .ok (.ireturn, 1) := by decide +kernel
theorem dX7_order_30 : decode cX7_order 30 = .ok (.iload_n 1, 1) := by decide +kernel
theorem dX7_order_31 : decode cX7_order 31 = .ok (.ifCond .ge 7, 3) := by decide +kernel
theorem dX7_order_34 : decode cX7_order 34 = .ok (.iload_n 2, 1) := by decide +kernel
theorem dX7_order_35 : decode cX7_order 35 = .ok (.goto 22, 3) := by decide +kernel
theorem dX7_order_38 : decode cX7_order 38 = .ok (.iload_n 1, 1) := by decide +kernel
theorem dX7_order_39 : decode cX7_order 39 = .ok (.aload_n 0, 1) := by decide +kernel
theorem dX7_order_40 : decode cX7_order 40 = .ok (.getfield 193, 3) := by decide +kernel
theorem dX7_order_43 : decode cX7_order 43 = .ok (.if_icmp .ge 12, 3) := by decide +kernel
theorem dX7_order_46 : decode cX7_order 46 = .ok (.aload_n 0, 1) := by decide +kernel
theorem dX7_order_47 : decode cX7_order 47 = .ok (.getfield 52, 3) := by decide +kernel
theorem dX7_order_50 : decode cX7_order 50 = .ok (.iload_n 1, 1) := by decide +kernel
theorem dX7_order_51 : decode cX7_order 51 = .ok (.iaload, 1) := by decide +kernel
theorem dX7_order_52 : decode cX7_order 52 = .ok (.goto 5, 3) := by decide +kernel
theorem dX7_order_55 : decode cX7_order 55 = .ok (.bipush (-4), 2) := by decide +kernel
theorem dX7_order_57 : decode cX7_order 57 = .ok (.ireturn, 1) := by decide +kernel
theorem dX7_save_0 : decode cX7_save 0 = .ok (.aload_n 0, 1) := by decide +kernel
theorem dX7_save_1 : decode cX7_save 1 = .ok (.iload_n 1, 1) := by decide +kernel
theorem dX7_save_2 : decode cX7_save 2 = .ok (.invokevirtual 130, 3) := by decide +kernel
theorem dX7_save_5 : decode cX7_save 5 = .ok (.ifCond .eq 16, 3) := by decide +kernel
theorem dX7_save_8 : decode cX7_save 8 = .ok (.aload_n 0, 1) := by decide +kernel
theorem dX7_save_9 : decode cX7_save 9 = .ok (.iload_n 2, 1) := by decide +kernel
theorem dX7_save_10 : decode cX7_save 10 = .ok (.invokevirtual 130, 3) := by decide +kernel
theorem dX7_save_13 : decode cX7_save 13 = .ok (.ifCond .eq 8, 3) := by decide +kernel
theorem dX7_save_16 : decode cX7_save 16 = .ok (.iload_n 1, 1) := by decide +kernel
theorem dX7_save_17 : decode cX7_save 17 = .ok (.iload_n 2, 1) := by decide +kernel
theorem dX7_save_18 : decode cX7_save 18 = .ok (.if_icmp .ne 5, 3) := by decide +kernel
theorem dX7_save_21 : decode cX7_save 21 = .ok (.iconst (-1), 1) := by decide +kernel
theorem dX7_save_22 : decode cX7_save 22 = .ok (.ireturn, 1) := by decide +kernel
theorem dX7_save_23 : decode cX7_save 23 = .ok (.aload_n 0, 1) := by decide +kernel
theorem dX7_save_24 : decode cX7_save 24 = .ok (.iconst 0, 1) := by decide +kernel
theorem dX7_save_25 : decode cX7_save 25 = .ok (.iload_n 1, 1) := by decide +kernel
theorem dX7_save_26 : decode cX7_save 26 = .ok (.invokevirtual 138, 3) := by decide +kernel
theorem dX7_save_29 : decode cX7_save 29 = .ok (.ifCond .eq 12, 3) := by decide +kernel
theorem dX7_save_32 : decode cX7_save 32 = .ok (.aload_n 0, 1) := by decide +kernel
theorem dX7_save_33 : decode cX7_save 33 = .ok (.iconst 0, 1) := by decide +kernel
theorem dX7_save_34 : decode cX7_save 34 = .ok (.iload_n 2, 1) := by decide +kernel
theorem dX7_save_35 : decode cX7_save 35 = .ok (.invokevirtual 138, 3) := by decide +kernel
theorem dX7_save_38 : decode cX7_save 38 = .ok (.ifCond .ne 6, 3) := by decide +kernel
theorem dX7_save_41 : decode cX7_save 41 = .ok (.bipush (-2), 2) := by decide +kernel
theorem dX7_save_43 : decode cX7_save 43 = .ok (.ireturn, 1) := by decide +kernel
theorem dX7_save_44 : decode cX7_save 44 = .ok (.iconst 0, 1) := by decide +kernel
theorem dX7_save_45 : decode cX7_save 45 = .ok (.istore_n 3, 1) := by decide +kernel
theorem dX7_save_46 : decode cX7_save 46 = .ok (.iconst 0, 1) := by decide +kernel
theorem dX7_save_47 : decode cX7_save 47 = .ok (.istore 4, 2) := by decide +kernel
theorem dX7_save_49 : decode cX7_save 49 = .ok (.iload 4, 2) := by decide +kernel
theorem dX7_save_51 : decode cX7_save 51 = .ok (.aload_n 0, 1) := by decide +kernel
theorem dX7_save_52 : decode cX7_save 52 = .ok (.getfield 69, 3) := by decide +kernel
theorem dX7_save_55 : decode cX7_save 55 = .ok (.if_icmp .ge 37, 3) := by decide +kernel
theorem dX7_save_58 : decode cX7_save 58 = .ok (.iload_n 3, 1) := by decide +kernel
theorem dX7_save_59 : decode cX7_save 59 = .ok (.aload_n 0, 1) := by decide +kernel
theorem dX7_save_60 : decode cX7_save 60 = .ok (.getfield 7, 3) := by decide +kernel
theorem dX7_save_63 : decode cX7_save 63 = .ok (.bipush 27, 2) := by decide +kernel
theorem dX7_save_65 : decode cX7_save 65 = .ok (.iconst 5, 1) := by decide +kernel
theorem dX7_save_66 : decode cX7_save 66 = .ok (.iload 4, 2) := by decide +kernel
theorem dX7_save_68 : decode cX7_save 68 = .ok (.imul, 1) := by decide +kernel
theorem dX7_save_69 : decode cX7_save 69 = .ok (.iadd, 1) := by decide +kernel
theorem dX7_save_70 : decode cX7_save 70 = .ok (.iload_n 1, 1) := by decide +kernel
theorem dX7_save_71 : decode cX7_save 71 = .ok (.iadd, 1) := by decide +kernel
theorem dX7_save_72 : decode cX7_save 72 = .ok (.iaload, 1) := by decide +kernel
theorem dX7_save_73 : decode cX7_save 73 = .ok (.ifCond .le 10, 3) := by decide +kernel
theorem dX7_save_76 : decode cX7_save 76 = .ok (.iconst 1, 1) := by decide +kernel
theorem dX7_save_77 : decode cX7_save 77 = .ok (.iload 4, 2) := by decide +kernel
theorem dX7_save_79 : decode cX7_save 79 = .ok (.ishl, 1) := by decide +kernel
theorem dX7_save_80 : decode cX7_save 80 = .ok (.goto 4, 3) := by decide +kernel
theorem dX7_save_83 : decode cX7_save 83 = .ok (.iconst 0, 1) := by decide +kernel
theorem dX7_save_84 : decode cX7_save 84 = .ok (.ior, 1) := by decide +kernel
theorem dX7_save_85 : decode cX7_save 85 = .ok (.istore_n 3, 1) := by decide +kernel
theorem dX7_save_86 : decode cX7_save 86 = .ok (.iinc 4 1, 3) := by decide +kernel
theorem dX7_save_89 : decode cX7_save 89 = .ok (.goto (-40), 3) := by decide +kernel
theorem dX7_save_92 : decode cX7_save 92 = .ok (.iload_n 3, 1) := by decide +kernel
theorem dX7_save_93 : decode cX7_save 93 = .ok (.istore 4, 2) := by decide +kernel
theorem dX7_save_95 : decode cX7_save 95 = .ok (.ldc 192, 2) := by decide +kernel
theorem dX7_save_97 : decode cX7_save 97 = .ok (.istore 5, 2) := by decide +kernel
theorem dX7_save_99 : decode cX7_save 99 = .ok (.iconst 0, 1) := by decide +kernel
theorem dX7_save_100 : decode cX7_save 100 = .ok (.istore 6, 2) := by decide +kernel
theorem dX7_save_102 : decode cX7_save 102 = .ok (.iload 6, 2) := by decide +kernel
theorem dX7_save_104 : decode cX7_save 104 = .ok (.iconst 1, 1) := by decide +kernel
theorem dX7_save_105 : decode cX7_save 105 = .ok (.aload_n 0, 1) := by decide +kernel
theorem dX7_save_106 : decode cX7_save 106 = .ok (.getfield 69, 3) := by decide +kernel
theorem dX7_save_109 : decode cX7_save 109 = .ok (.ishl, 1) := by decide +kernel
theorem dX7_save_110 : decode cX7_save 110 = .ok (.if_icmp .ge 121, 3) := by decide +kernel
theorem dX7_save_113 : decode cX7_save 113 = .ok (.iload 6, 2) := by decide +kernel
theorem dX7_save_115 : decode cX7_save 115 = .ok (.iload_n 3, 1) := by decide +kernel
theorem dX7_save_116 : decode cX7_save 116 = .ok (.iconst (-1), 1) := by decide +kernel
theorem dX7_save_117 : decode cX7_save 117 = .ok (.ixor, 1) := by decide +kernel
theorem dX7_save_118 : decode cX7_save 118 = .ok (.iand, 1) := by decide +kernel
theorem dX7_save_119 : decode cX7_save 119 = .ok (.ifCond .ne 106, 3) := by decide +kernel
theorem dX7_save_122 : decode cX7_save 122 = .ok (.iload 6, 2) := by decide +kernel
theorem dX7_save_124 : decode cX7_save 124 = .ok (.invokestatic 189, 3) := by decide +kernel
theorem dX7_save_127 : decode cX7_save 127 = .ok (.iload 5, 2) := by decide +kernel
theorem dX7_save_129 : decode cX7_save 129 = .ok (.if_icmp .ge 96, 3) := by decide +kernel
theorem dX7_save_132 : decode cX7_save 132 = .ok (.aload_n 0, 1) := by decide +kernel
theorem dX7_save_133 : decode cX7_save 133 = .ok (.invokevirtual 183, 3) := by decide +kernel
theorem dX7_save_136 : decode cX7_save 136 = .ok (.iconst 0, 1) := by decide +kernel
theorem dX7_save_137 : decode cX7_save 137 = .ok (.istore 7, 2) := by decide +kernel
theorem dX7_save_139 : decode cX7_save 139 = .ok (.iload 7, 2) := by decide +kernel
theorem dX7_save_141 : decode cX7_save 141 = .ok (.aload_n 0, 1) := by decide +kernel
theorem dX7_save_142 : decode cX7_save 142 = .ok (.getfield 69, 3) := by decide +kernel
theorem dX7_save_145 : decode cX7_save 145 = .ok (.if_icmp .ge 51, 3) := by decide +kernel
theorem dX7_save_148 : decode cX7_save 148 = .ok (.aload_n 0, 1) := by decide +kernel
theorem dX7_save_149 : decode cX7_save 149 = .ok (.getfield 7, 3) := by decide +kernel
theorem dX7_save_152 : decode cX7_save 152 = .ok (.bipush 79, 2) := by decide +kernel
theorem dX7_save_154 : decode cX7_save 154 = .ok (.iconst 5, 1) := by decide +kernel
theorem dX7_save_155 : decode cX7_save 155 = .ok (.iload 7, 2) := by decide +kernel
theorem dX7_save_157 : decode cX7_save 157 = .ok (.imul, 1) := by decide +kernel
theorem dX7_save_158 : decode cX7_save 158 = .ok (.iadd, 1) := by decide +kernel
theorem dX7_save_159 : decode cX7_save 159 = .ok (.iload_n 1, 1) := by decide +kernel
theorem dX7_save_160 : decode cX7_save 160 = .ok (.iadd, 1) := by decide +kernel
theorem dX7_save_161 : decode cX7_save 161 = .ok (.iload 6, 2) := by decide +kernel
theorem dX7_save_163 : decode cX7_save 163 = .ok (.iload 7, 2) := by decide +kernel
theorem dX7_save_165 : decode cX7_save 165 = .ok (.invokestatic 201, 3) := by decide +kernel
theorem dX7_save_168 : decode cX7_save 168 = .ok (.ifCond .eq 7, 3) := by decide +kernel
theorem dX7_save_171 : decode cX7_save 171 = .ok (.iconst 0, 1) := by decide +kernel
theorem dX7_save_172 : decode cX7_save 172 = .ok (.goto 17, 3) := by decide +kernel
theorem dX7_save_175 : decode cX7_save 175 = .ok (.aload_n 0, 1) := by decide +kernel
theorem dX7_save_176 : decode cX7_save 176 = .ok (.getfield 7, 3) := by decide +kernel
theorem dX7_save_179 : decode cX7_save 179 = .ok (.bipush 27, 2) := by decide +kernel
theorem dX7_save_181 : decode cX7_save 181 = .ok (.iconst 5, 1) := by decide +kernel
theorem dX7_save_182 : decode cX7_save 182 = .ok (.iload 7, 2) := by decide +kernel
theorem dX7_save_184 : decode cX7_save 184 = .ok (.imul, 1) := by decide +kernel
theorem dX7_save_185 : decode cX7_save 185 = .ok (.iadd, 1) := by decide +kernel
theorem dX7_save_186 : decode cX7_save 186 = .ok (.iload_n 1, 1) := by decide +kernel
theorem dX7_save_187 : decode cX7_save 187 = .ok (.iadd, 1) := by decide +kernel
theorem dX7_save_188 : decode cX7_save 188 = .ok (.iaload, 1) := by decide +kernel
theorem dX7_save_189 : decode cX7_save 189 = .ok (.iastore, 1) := by decide +kernel
theorem dX7_save_190 : decode cX7_save 190 = .ok (.iinc 7 1, 3) := by decide +kernel
theorem dX7_save_193 : decode cX7_save 193 = .ok (.goto (-54), 3) := by decide +kernel
theorem dX7_save_196 : decode cX7_save 196 = .ok (.aload_n 0, 1) := by decide +kernel
theorem dX7_save_197 : decode cX7_save 197 = .ok (.bipush 52, 2) := by decide +kernel
theorem dX7_save_199 : decode cX7_save 199 = .ok (.iload_n 2, 1) := by decide +kernel
theorem dX7_save_200 : decode cX7_save 200 = .ok (.iconst 1, 1) := by decide +kernel
theorem dX7_save_201 : decode cX7_save 201 = .ok (.invokevirtual 149, 3) := by decide +kernel
theorem dX7_save_204 : decode cX7_save 204 = .ok (.aload_n 0, 1) := by decide +kernel
theorem dX7_save_205 : decode cX7_save 205 = .ok (.bipush 52, 2) := by decide +kernel
theorem dX7_save_207 : decode cX7_save 207 = .ok (.iload_n 1, 1) := by decide +kernel
theorem dX7_save_208 : decode cX7_save 208 = .ok (.invokevirtual 138, 3) := by decide +kernel
theorem dX7_save_211 : decode cX7_save 211 = .ok (.ifCond .eq 14, 3) := by decide +kernel
theorem dX7_save_214 : decode cX7_save 214 = .ok (.iload 6, 2) := by decide +kernel
theorem dX7_save_216 : decode cX7_save 216 = .ok (.istore 4, 2) := by decide +kernel
theorem dX7_save_218 : decode cX7_save 218 = .ok (.iload 6, 2) := by decide +kernel
theorem dX7_save_220 : decode cX7_save 220 = .ok (.invokestatic 189, 3) := by decide +kernel
theorem dX7_save_223 : decode cX7_save 223 = .ok (.istore 5, 2) := by decide +kernel
theorem dX7_save_225 : decode cX7_save 225 = .ok (.iinc 6 1, 3) := by decide +kernel
theorem dX7_save_228 : decode cX7_save 228 = .ok (.goto (-126), 3) := by decide +kernel
theorem dX7_save_231 : decode cX7_save 231 = .ok (.iload 4, 2) := by decide +kernel
theorem dX7_save_233 : decode cX7_save 233 = .ok (.ireturn, 1) := by decide +kernel
theorem dX7_built_0 : decode cX7_built 0 = .ok (.iload_n 1, 1) := by decide +kernel
theorem dX7_built_1 : decode cX7_built 1 = .ok (.i2l, 1) := by decide +kernel
theorem dX7_built_2 : decode cX7_built 2 = .ok (.lconst 0, 1) := by decide +kernel
theorem dX7_built_3 : decode cX7_built 3 = .ok (.lconst 1, 1) := by decide +kernel
theorem dX7_built_4 : decode cX7_built 4 = .ok (.invokestatic 72, 3) := by decide +kernel
theorem dX7_built_7 : decode cX7_built 7 = .ok (.ifCond .ne 5, 3) := by decide +kernel
theorem dX7_built_10 : decode cX7_built 10 = .ok (.iconst (-1), 1) := by decide +kernel
theorem dX7_built_11 : decode cX7_built 11 = .ok (.ireturn, 1) := by decide +kernel
theorem dX7_built_12 : decode cX7_built 12 = .ok (.aload_n 0, 1) := by decide +kernel
theorem dX7_built_13 : decode cX7_built 13 = .ok (.getfield 7, 3) := by decide +kernel
theorem dX7_built_16 : decode cX7_built 16 = .ok (.iconst 0, 1) := by decide +kernel
theorem dX7_built_17 : decode cX7_built 17 = .ok (.iaload, 1) := by decide +kernel
theorem dX7_built_18 : decode cX7_built 18 = .ok (.istore_n 2, 1) := by decide +kernel
theorem dX7_built_19 : decode cX7_built 19 = .ok (.iconst 0, 1) := by decide +kernel
theorem dX7_built_20 : decode cX7_built 20 = .ok (.istore_n 3, 1) := by decide +kernel
theorem dX7_built_21 : decode cX7_built 21 = .ok (.ldc 192, 2) := by decide +kernel
theorem dX7_built_23 : decode cX7_built 23 = .ok (.istore 4, 2) := by decide +kernel
theorem dX7_built_25 : decode cX7_built 25 = .ok (.iconst 0, 1) := by decide +kernel
theorem dX7_built_26 : decode cX7_built 26 = .ok (.istore 5, 2) := by decide +kernel
theorem dX7_built_28 : decode cX7_built 28 = .ok (.bipush 8, 2) := by decide +kernel
theorem dX7_built_30 : decode cX7_built 30 = .ok (.iload 5, 2) := by decide +kernel
theorem dX7_built_32 : decode cX7_built 32 = .ok (.imul, 1) := by decide +kernel
theorem dX7_built_33 : decode cX7_built 33 = .ok (.iload_n 2, 1) := by decide +kernel
theorem dX7_built_34 : decode cX7_built 34 = .ok (.if_icmp .gt 84, 3) := by decide +kernel
theorem dX7_built_37 : decode cX7_built 37 = .ok (.iconst 0, 1) := by decide +kernel
theorem dX7_built_38 : decode cX7_built 38 = .ok (.istore 6, 2) := by decide +kernel
theorem dX7_built_40 : decode cX7_built 40 = .ok (.bipush 8, 2) := by decide +kernel
theorem dX7_built_42 : decode cX7_built 42 = .ok (.iload 5, 2) := by decide +kernel
theorem dX7_built_44 : decode cX7_built 44 = .ok (.imul, 1) := by decide +kernel
theorem dX7_built_45 : decode cX7_built 45 = .ok (.iconst 5, 1) := by decide +kernel
theorem dX7_built_46 : decode cX7_built 46 = .ok (.iload 6, 2) := by decide +kernel
theorem dX7_built_48 : decode cX7_built 48 = .ok (.imul, 1) := by decide +kernel
theorem dX7_built_49 : decode cX7_built 49 = .ok (.iadd, 1) := by decide +kernel
theorem dX7_built_50 : decode cX7_built 50 = .ok (.iload_n 2, 1) := by decide +kernel
theorem dX7_built_51 : decode cX7_built 51 = .ok (.if_icmp .gt 61, 3) := by decide +kernel
theorem dX7_built_54 : decode cX7_built 54 = .ok (.iload_n 2, 1) := by decide +kernel
theorem dX7_built_55 : decode cX7_built 55 = .ok (.bipush 8, 2) := by decide +kernel
theorem dX7_built_57 : decode cX7_built 57 = .ok (.iload 5, 2) := by decide +kernel
theorem dX7_built_59 : decode cX7_built 59 = .ok (.imul, 1) := by decide +kernel
theorem dX7_built_60 : decode cX7_built 60 = .ok (.isub, 1) := by decide +kernel
theorem dX7_built_61 : decode cX7_built 61 = .ok (.iconst 5, 1) := by decide +kernel
theorem dX7_built_62 : decode cX7_built 62 = .ok (.iload 6, 2) := by decide +kernel
theorem dX7_built_64 : decode cX7_built 64 = .ok (.imul, 1) := by decide +kernel
theorem dX7_built_65 : decode cX7_built 65 = .ok (.isub, 1) := by decide +kernel
theorem dX7_built_66 : decode cX7_built 66 = .ok (.istore 7, 2) := by decide +kernel
theorem dX7_built_68 : decode cX7_built 68 = .ok (.iload 7, 2) := by decide +kernel
theorem dX7_built_70 : decode cX7_built 70 = .ok (.iconst 3, 1) := by decide +kernel
theorem dX7_built_71 : decode cX7_built 71 = .ok (.irem, 1) := by decide +kernel
theorem dX7_built_72 : decode cX7_built 72 = .ok (.ifCond .ne 34, 3) := by decide +kernel
theorem dX7_built_75 : decode cX7_built 75 = .ok (.iload 5, 2) := by decide +kernel
theorem dX7_built_77 : decode cX7_built 77 = .ok (.iload 6, 2) := by decide +kernel
theorem dX7_built_79 : decode cX7_built 79 = .ok (.iadd, 1) := by decide +kernel
theorem dX7_built_80 : decode cX7_built 80 = .ok (.iload 7, 2) := by decide +kernel
theorem dX7_built_82 : decode cX7_built 82 = .ok (.iconst 3, 1) := by decide +kernel
theorem dX7_built_83 : decode cX7_built 83 = .ok (.idiv, 1) := by decide +kernel
theorem dX7_built_84 : decode cX7_built 84 = .ok (.iadd, 1) := by decide +kernel
theorem dX7_built_85 : decode cX7_built 85 = .ok (.istore 8, 2) := by decide +kernel
theorem dX7_built_87 : decode cX7_built 87 = .ok (.iinc 3 1, 3) := by decide +kernel
theorem dX7_built_90 : decode cX7_built 90 = .ok (.iload 8, 2) := by decide +kernel
theorem dX7_built_92 : decode cX7_built 92 = .ok (.iload 4, 2) := by decide +kernel
theorem dX7_built_94 : decode cX7_built 94 = .ok (.if_icmp .ge 8, 3) := by decide +kernel
theorem dX7_built_97 : decode cX7_built 97 = .ok (.iload 8, 2) := by decide +kernel
theorem dX7_built_99 : decode cX7_built 99 = .ok (.goto 5, 3) := by decide +kernel
theorem dX7_built_102 : decode cX7_built 102 = .ok (.iload 4, 2) := by decide +kernel
theorem dX7_built_104 : decode cX7_built 104 = .ok (.istore 4, 2) := by decide +kernel
theorem dX7_built_106 : decode cX7_built 106 = .ok (.iinc 6 1, 3) := by decide +kernel
theorem dX7_built_109 : decode cX7_built 109 = .ok (.goto (-69), 3) := by decide +kernel
theorem dX7_built_112 : decode cX7_built 112 = .ok (.iinc 5 1, 3) := by decide +kernel
theorem dX7_built_115 : decode cX7_built 115 = .ok (.goto (-87), 3) := by decide +kernel
theorem dX7_built_118 : decode cX7_built 118 = .ok (.iload_n 1, 1) := by decide +kernel
theorem dX7_built_119 : decode cX7_built 119 = .ok (.ifCond .ne 7, 3) := by decide +kernel
theorem dX7_built_122 : decode cX7_built 122 = .ok (.iload_n 3, 1) := by decide +kernel
theorem dX7_built_123 : decode cX7_built 123 = .ok (.goto 14, 3) := by decide +kernel
theorem dX7_built_126 : decode cX7_built 126 = .ok (.iload_n 3, 1) := by decide +kernel
theorem dX7_built_127 : decode cX7_built 127 = .ok (.ifCond .ne 8, 3) := by decide +kernel
theorem dX7_built_130 : decode cX7_built 130 = .ok (.bipush (-4), 2) := by decide +kernel
theorem dX7_built_132 : decode cX7_built 132 = .ok (.goto 5, 3) := by decide +kernel
theorem dX7_built_135 : decode cX7_built 135 = .ok (.iload 4, 2) := by decide +kernel
theorem dX7_built_137 : decode cX7_built 137 = .ok (.ireturn, 1) := by decide +kernel
theorem dX7_note_0 : decode cX7_note 0 = .ok (.iload_n 1, 1) := by decide +kernel
theorem dX7_note_1 : decode cX7_note 1 = .ok (.i2l, 1) := by decide +kernel
theorem dX7_note_2 : decode cX7_note 2 = .ok (.lconst 1, 1) := by decide +kernel
theorem dX7_note_3 : decode cX7_note 3 = .ok (.ldc2_w 163, 3) := by decide +kernel
theorem dX7_note_6 : decode cX7_note 6 = .ok (.invokestatic 72, 3) := by decide +kernel
theorem dX7_note_9 : decode cX7_note 9 = .ok (.ifCond .eq 25, 3) := by decide +kernel
theorem dX7_note_12 : decode cX7_note 12 = .ok (.iload_n 2, 1) := by decide +kernel
theorem dX7_note_13 : decode cX7_note 13 = .ok (.i2l, 1) := by decide +kernel
theorem dX7_note_14 : decode cX7_note 14 = .ok (.lconst 0, 1) := by decide +kernel
theorem dX7_note_15 : decode cX7_note 15 = .ok (.ldc2_w 136, 3) := by decide +kernel
theorem dX7_note_18 : decode cX7_note 18 = .ok (.invokestatic 72, 3) := by decide +kernel
theorem dX7_note_21 : decode cX7_note 21 = .ok (.ifCond .eq 13, 3) := by decide +kernel
theorem dX7_note_24 : decode cX7_note 24 = .ok (.iload_n 3, 1) := by decide +kernel
theorem dX7_note_25 : decode cX7_note 25 = .ok (.i2l, 1) := by decide +kernel
theorem dX7_note_26 : decode cX7_note 26 = .ok (.lconst 0, 1) := by decide +kernel
theorem dX7_note_27 : decode cX7_note 27 = .ok (.lconst 1, 1) := by decide +kernel
theorem dX7_note_28 : decode cX7_note 28 = .ok (.invokestatic 72, 3) := by decide +kernel
theorem dX7_note_31 : decode cX7_note 31 = .ok (.ifCond .ne 5, 3) := by decide +kernel
theorem dX7_note_34 : decode cX7_note 34 = .ok (.iconst (-1), 1) := by decide +kernel
theorem dX7_note_35 : decode cX7_note 35 = .ok (.ireturn, 1) := by decide +kernel
theorem dX7_note_36 : decode cX7_note 36 = .ok (.aload_n 0, 1) := by decide +kernel
theorem dX7_note_37 : decode cX7_note 37 = .ok (.getfield 85, 3) := by decide +kernel
theorem dX7_note_40 : decode cX7_note 40 = .ok (.bipush 6, 2) := by decide +kernel
theorem dX7_note_42 : decode cX7_note 42 = .ok (.if_icmp .ne 6, 3) := by decide +kernel
theorem dX7_note_45 : decode cX7_note 45 = .ok (.bipush (-3), 2) := by decide +kernel
theorem dX7_note_47 : decode cX7_note 47 = .ok (.ireturn, 1) := by decide +kernel
theorem dX7_note_48 : decode cX7_note 48 = .ok (.aload_n 0, 1) := by decide +kernel
theorem dX7_note_49 : decode cX7_note 49 = .ok (.getfield 85, 3) := by decide +kernel
theorem dX7_note_52 : decode cX7_note 52 = .ok (.ifCond .le 21, 3) := by decide +kernel
theorem dX7_note_55 : decode cX7_note 55 = .ok (.aload_n 0, 1) := by decide +kernel
theorem dX7_note_56 : decode cX7_note 56 = .ok (.getfield 28, 3) := by decide +kernel
theorem dX7_note_59 : decode cX7_note 59 = .ok (.aload_n 0, 1) := by decide +kernel
theorem dX7_note_60 : decode cX7_note 60 = .ok (.getfield 85, 3) := by decide +kernel
theorem dX7_note_63 : decode cX7_note 63 = .ok (.iconst 1, 1) := by decide +kernel
theorem dX7_note_64 : decode cX7_note 64 = .ok (.isub, 1) := by decide +kernel
theorem dX7_note_65 : decode cX7_note 65 = .ok (.iaload, 1) := by decide +kernel
theorem dX7_note_66 : decode cX7_note 66 = .ok (.iconst 1, 1) := by decide +kernel
theorem dX7_note_67 : decode cX7_note 67 = .ok (.if_icmp .ne 6, 3) := by decide +kernel
theorem dX7_note_70 : decode cX7_note 70 = .ok (.bipush (-2), 2) := by decide +kernel
theorem dX7_note_72 : decode cX7_note 72 = .ok (.ireturn, 1) := by decide +kernel
theorem dX7_note_73 : decode cX7_note 73 = .ok (.aload_n 0, 1) := by decide +kernel
theorem dX7_note_74 : decode cX7_note 74 = .ok (.getfield 22, 3) := by decide +kernel
theorem dX7_note_77 : decode cX7_note 77 = .ok (.aload_n 0, 1) := by decide +kernel
theorem dX7_note_78 : decode cX7_note 78 = .ok (.getfield 85, 3) := by decide +kernel
theorem dX7_note_81 : decode cX7_note 81 = .ok (.iload_n 1, 1) := by decide +kernel
theorem dX7_note_82 : decode cX7_note 82 = .ok (.iastore, 1) := by decide +kernel
theorem dX7_note_83 : decode cX7_note 83 = .ok (.aload_n 0, 1) := by decide +kernel
theorem dX7_note_84 : decode cX7_note 84 = .ok (.getfield 25, 3) := by decide +kernel
theorem dX7_note_87 : decode cX7_note 87 = .ok (.aload_n 0, 1) := by decide +kernel
theorem dX7_note_88 : decode cX7_note 88 = .ok (.getfield 85, 3) := by decide +kernel
theorem dX7_note_91 : decode cX7_note 91 = .ok (.iload_n 2, 1) := by decide +kernel
theorem dX7_note_92 : decode cX7_note 92 = .ok (.iastore, 1) := by decide +kernel
theorem dX7_note_93 : decode cX7_note 93 = .ok (.aload_n 0, 1) := by decide +kernel
theorem dX7_note_94 : decode cX7_note 94 = .ok (.getfield 28, 3) := by decide +kernel
theorem dX7_note_97 : decode cX7_note 97 = .ok (.aload_n 0, 1) := by decide +kernel
theorem dX7_note_98 : decode cX7_note 98 = .ok (.getfield 85, 3) := by decide +kernel
theorem dX7_note_101 : decode cX7_note 101 = .ok (.iload_n 3, 1) := by decide +kernel
theorem dX7_note_102 : decode cX7_note 102 = .ok (.iastore, 1) := by decide +kernel
theorem dX7_note_103 : decode cX7_note 103 = .ok (.aload_n 0, 1) := by decide +kernel
theorem dX7_note_104 : decode cX7_note 104 = .ok (.dup, 1) := by decide +kernel
theorem dX7_note_105 : decode cX7_note 105 = .ok (.getfield 85, 3) := by decide +kernel
theorem dX7_note_108 : decode cX7_note 108 = .ok (.iconst 1, 1) := by decide +kernel
theorem dX7_note_109 : decode cX7_note 109 = .ok (.iadd, 1) := by decide +kernel
theorem dX7_note_110 : decode cX7_note 110 = .ok (.putfield 85, 3) := by decide +kernel
theorem dX7_note_113 : decode cX7_note 113 = .ok (.aload_n 0, 1) := by decide +kernel
theorem dX7_note_114 : decode cX7_note 114 = .ok (.getfield 85, 3) := by decide +kernel
theorem dX7_note_117 : decode cX7_note 117 = .ok (.ireturn, 1) := by decide +kernel
theorem dX7_forget_0 : decode cX7_forget 0 = .ok (.aload_n 0, 1) := by decide +kernel
theorem dX7_forget_1 : decode cX7_forget 1 = .ok (.getfield 85, 3) := by decide +kernel
theorem dX7_forget_4 : decode cX7_forget 4 = .ok (.istore_n 1, 1) := by decide +kernel
theorem dX7_forget_5 : decode cX7_forget 5 = .ok (.aload_n 0, 1) := by decide +kernel
theorem dX7_forget_6 : decode cX7_forget 6 = .ok (.iconst 0, 1) := by decide +kernel
theorem dX7_forget_7 : decode cX7_forget 7 = .ok (.putfield 85, 3) := by decide +kernel
theorem dX7_forget_10 : decode cX7_forget 10 = .ok (.iload_n 1, 1) := by decide +kernel
theorem dX7_forget_11 : decode cX7_forget 11 = .ok (.ireturn, 1) := by decide +kernel
theorem dX7_isSo_0 : decode cX7_isSo 0 = .ok (.iload_n 1, 1) := by decide +kernel
theorem dX7_isSo_1 : decode cX7_isSo 1 = .ok (.istore_n 2, 1) := by decide +kernel
theorem dX7_isSo_2 : decode cX7_isSo 2 = .ok (.iconst 1, 1) := by decide +kernel
theorem dX7_isSo_3 : decode cX7_isSo 3 = .ok (.istore_n 3, 1) := by decide +kernel
theorem dX7_isSo_4 : decode cX7_isSo 4 = .ok (.iconst 0, 1) := by decide +kernel
theorem dX7_isSo_5 : decode cX7_isSo 5 = .ok (.istore 4, 2) := by decide +kernel
theorem dX7_isSo_7 : decode cX7_isSo 7 = .ok (.iload 4, 2) := by decide +kernel
theorem dX7_isSo_9 : decode cX7_isSo 9 = .ok (.aload_n 0, 1) := by decide +kernel
theorem dX7_isSo_10 : decode cX7_isSo 10 = .ok (.getfield 85, 3) := by decide +kernel
theorem dX7_isSo_13 : decode cX7_isSo 13 = .ok (.if_icmp .ge 95, 3) := by decide +kernel
theorem dX7_isSo_16 : decode cX7_isSo 16 = .ok (.aload_n 0, 1) := by decide +kernel
theorem dX7_isSo_17 : decode cX7_isSo 17 = .ok (.getfield 22, 3) := by decide +kernel
theorem dX7_isSo_20 : decode cX7_isSo 20 = .ok (.iload 4, 2) := by decide +kernel
theorem dX7_isSo_22 : decode cX7_isSo 22 = .ok (.iaload, 1) := by decide +kernel
theorem dX7_isSo_23 : decode cX7_isSo 23 = .ok (.aload_n 0, 1) := by decide +kernel
theorem dX7_isSo_24 : decode cX7_isSo 24 = .ok (.getfield 25, 3) := by decide +kernel
theorem dX7_isSo_27 : decode cX7_isSo 27 = .ok (.iload 4, 2) := by decide +kernel
theorem dX7_isSo_29 : decode cX7_isSo 29 = .ok (.iaload, 1) := by decide +kernel
theorem dX7_isSo_30 : decode cX7_isSo 30 = .ok (.iconst 1, 1) := by decide +kernel
theorem dX7_isSo_31 : decode cX7_isSo 31 = .ok (.iadd, 1) := by decide +kernel
theorem dX7_isSo_32 : decode cX7_isSo 32 = .ok (.imul, 1) := by decide +kernel
theorem dX7_isSo_33 : decode cX7_isSo 33 = .ok (.iload_n 2, 1) := by decide +kernel
