theorem dX6_init_0 : decode cX6_init 0 = .ok (.aload_n 0, 1) := by decide +kernel
theorem dX6_init_1 : decode cX6_init 1 = .ok (.invokespecial 3, 3) := by decide +kernel
theorem dX6_init_4 : decode cX6_init 4 = .ok (.aload_n 0, 1) := by decide +kernel
theorem dX6_init_5 : decode cX6_init 5 = .ok (.new 9, 3) := by decide +kernel
theorem dX6_init_8 : decode cX6_init 8 = .ok (.dup, 1) := by decide +kernel
theorem dX6_init_9 : decode cX6_init 9 = .ok (.invokespecial 11, 3) := by decide +kernel
theorem dX6_init_12 : decode cX6_init 12 = .ok (.putfield 12, 3) := by decide +kernel
theorem dX6_init_15 : decode cX6_init 15 = .ok (.aload_n 0, 1) := by decide +kernel
theorem dX6_init_16 : decode cX6_init 16 = .ok (.new 16, 3) := by decide +kernel
theorem dX6_init_19 : decode cX6_init 19 = .ok (.dup, 1) := by decide +kernel
theorem dX6_init_20 : decode cX6_init 20 = .ok (.invokespecial 18, 3) := by decide +kernel
theorem dX6_init_23 : decode cX6_init 23 = .ok (.putfield 19, 3) := by decide +kernel
theorem dX6_init_26 : decode cX6_init 26 = .ok (.aload_n 0, 1) := by decide +kernel
theorem dX6_init_27 : decode cX6_init 27 = .ok (.new 16, 3) := by decide +kernel
theorem dX6_init_30 : decode cX6_init 30 = .ok (.dup, 1) := by decide +kernel
theorem dX6_init_31 : decode cX6_init 31 = .ok (.invokespecial 18, 3) := by decide +kernel
theorem dX6_init_34 : decode cX6_init 34 = .ok (.putfield 23, 3) := by decide +kernel
theorem dX6_init_37 : decode cX6_init 37 = .ok (.aload_n 0, 1) := by decide +kernel
theorem dX6_init_38 : decode cX6_init 38 = .ok (.new 26, 3) := by decide +kernel
theorem dX6_init_41 : decode cX6_init 41 = .ok (.dup, 1) := by decide +kernel
theorem dX6_init_42 : decode cX6_init 42 = .ok (.aload_n 0, 1) := by decide +kernel
theorem dX6_init_43 : decode cX6_init 43 = .ok (.getfield 23, 3) := by decide +kernel
theorem dX6_init_46 : decode cX6_init 46 = .ok (.invokespecial 28, 3) := by decide +kernel
theorem dX6_init_49 : decode cX6_init 49 = .ok (.putfield 31, 3) := by decide +kernel
theorem dX6_init_52 : decode cX6_init 52 = .ok (.aload_n 0, 1) := by decide +kernel
theorem dX6_init_53 : decode cX6_init 53 = .ok (.new 26, 3) := by decide +kernel
theorem dX6_init_56 : decode cX6_init 56 = .ok (.dup, 1) := by decide +kernel
theorem dX6_init_57 : decode cX6_init 57 = .ok (.aload_n 0, 1) := by decide +kernel
theorem dX6_init_58 : decode cX6_init 58 = .ok (.getfield 23, 3) := by decide +kernel
theorem dX6_init_61 : decode cX6_init 61 = .ok (.invokespecial 28, 3) := by decide +kernel
theorem dX6_init_64 : decode cX6_init 64 = .ok (.putfield 35, 3) := by decide +kernel
theorem dX6_init_67 : decode cX6_init 67 = .ok (.aload_n 0, 1) := by decide +kernel
theorem dX6_init_68 : decode cX6_init 68 = .ok (.new 38, 3) := by decide +kernel
theorem dX6_init_71 : decode cX6_init 71 = .ok (.dup, 1) := by decide +kernel
theorem dX6_init_72 : decode cX6_init 72 = .ok (.aload_n 0, 1) := by decide +kernel
theorem dX6_init_73 : decode cX6_init 73 = .ok (.getfield 23, 3) := by decide +kernel
theorem dX6_init_76 : decode cX6_init 76 = .ok (.invokespecial 40, 3) := by decide +kernel
theorem dX6_init_79 : decode cX6_init 79 = .ok (.putfield 41, 3) := by decide +kernel
theorem dX6_init_82 : decode cX6_init 82 = .ok (.aload_n 0, 1) := by decide +kernel
theorem dX6_init_83 : decode cX6_init 83 = .ok (.iconst 2, 1) := by decide +kernel
theorem dX6_init_84 : decode cX6_init 84 = .ok (.anewarray 26, 3) := by decide +kernel
theorem dX6_init_87 : decode cX6_init 87 = .ok (.putfield 45, 3) := by decide +kernel
theorem dX6_init_90 : decode cX6_init 90 = .ok (.aload_n 0, 1) := by decide +kernel
theorem dX6_init_91 : decode cX6_init 91 = .ok (.iconst 0, 1) := by decide +kernel
theorem dX6_init_92 : decode cX6_init 92 = .ok (.putfield 49, 3) := by decide +kernel
theorem dX6_init_95 : decode cX6_init 95 = .ok (.aload_n 0, 1) := by decide +kernel
theorem dX6_init_96 : decode cX6_init 96 = .ok (.new 53, 3) := by decide +kernel
theorem dX6_init_99 : decode cX6_init 99 = .ok (.dup, 1) := by decide +kernel
theorem dX6_init_100 : decode cX6_init 100 = .ok (.invokespecial 55, 3) := by decide +kernel
theorem dX6_init_103 : decode cX6_init 103 = .ok (.putfield 56, 3) := by decide +kernel
theorem dX6_init_106 : decode cX6_init 106 = .ok (.aload_n 0, 1) := by decide +kernel
theorem dX6_init_107 : decode cX6_init 107 = .ok (.new 60, 3) := by decide +kernel
theorem dX6_init_110 : decode cX6_init 110 = .ok (.dup, 1) := by decide +kernel
theorem dX6_init_111 : decode cX6_init 111 = .ok (.aload_n 0, 1) := by decide +kernel
theorem dX6_init_112 : decode cX6_init 112 = .ok (.getfield 23, 3) := by decide +kernel
theorem dX6_init_115 : decode cX6_init 115 = .ok (.invokespecial 62, 3) := by decide +kernel
theorem dX6_init_118 : decode cX6_init 118 = .ok (.putfield 63, 3) := by decide +kernel
theorem dX6_init_121 : decode cX6_init 121 = .ok (.iconst 0, 1) := by decide +kernel
theorem dX6_init_122 : decode cX6_init 122 = .ok (.istore_n 1, 1) := by decide +kernel
theorem dX6_init_123 : decode cX6_init 123 = .ok (.iload_n 1, 1) := by decide +kernel
theorem dX6_init_124 : decode cX6_init 124 = .ok (.iconst 2, 1) := by decide +kernel
theorem dX6_init_125 : decode cX6_init 125 = .ok (.if_icmp .ge 26, 3) := by decide +kernel
theorem dX6_init_128 : decode cX6_init 128 = .ok (.aload_n 0, 1) := by decide +kernel
theorem dX6_init_129 : decode cX6_init 129 = .ok (.getfield 45, 3) := by decide +kernel
theorem dX6_init_132 : decode cX6_init 132 = .ok (.iload_n 1, 1) := by decide +kernel
theorem dX6_init_133 : decode cX6_init 133 = .ok (.new 26, 3) := by decide +kernel
theorem dX6_init_136 : decode cX6_init 136 = .ok (.dup, 1) := by decide +kernel
theorem dX6_init_137 : decode cX6_init 137 = .ok (.aload_n 0, 1) := by decide +kernel
theorem dX6_init_138 : decode cX6_init 138 = .ok (.getfield 23, 3) := by decide +kernel
theorem dX6_init_141 : decode cX6_init 141 = .ok (.invokespecial 28, 3) := by decide +kernel
theorem dX6_init_144 : decode cX6_init 144 = .ok (.aastore, 1) := by decide +kernel
theorem dX6_init_145 : decode cX6_init 145 = .ok (.iinc 1 1, 3) := by decide +kernel
theorem dX6_init_148 : decode cX6_init 148 = .ok (.goto (-25), 3) := by decide +kernel
theorem dX6_init_151 : decode cX6_init 151 = .ok (.iconst 0, 1) := by decide +kernel
theorem dX6_init_152 : decode cX6_init 152 = .ok (.istore_n 1, 1) := by decide +kernel
theorem dX6_init_153 : decode cX6_init 153 = .ok (.iload_n 1, 1) := by decide +kernel
theorem dX6_init_154 : decode cX6_init 154 = .ok (.ldc 67, 2) := by decide +kernel
theorem dX6_init_156 : decode cX6_init 156 = .ok (.invokevirtual 69, 3) := by decide +kernel
theorem dX6_init_159 : decode cX6_init 159 = .ok (.if_icmp .ge 22, 3) := by decide +kernel
theorem dX6_init_162 : decode cX6_init 162 = .ok (.aload_n 0, 1) := by decide +kernel
theorem dX6_init_163 : decode cX6_init 163 = .ok (.getfield 12, 3) := by decide +kernel
theorem dX6_init_166 : decode cX6_init 166 = .ok (.ldc 67, 2) := by decide +kernel
theorem dX6_init_168 : decode cX6_init 168 = .ok (.iload_n 1, 1) := by decide +kernel
theorem dX6_init_169 : decode cX6_init 169 = .ok (.invokevirtual 75, 3) := by decide +kernel
theorem dX6_init_172 : decode cX6_init 172 = .ok (.invokevirtual 79, 3) := by decide +kernel
theorem dX6_init_175 : decode cX6_init 175 = .ok (.iinc 1 1, 3) := by decide +kernel
theorem dX6_init_178 : decode cX6_init 178 = .ok (.goto (-25), 3) := by decide +kernel
theorem dX6_init_181 : decode cX6_init 181 = .ok (.aload_n 0, 1) := by decide +kernel
theorem dX6_init_182 : decode cX6_init 182 = .ok (.getfield 12, 3) := by decide +kernel
theorem dX6_init_185 : decode cX6_init 185 = .ok (.aload_n 0, 1) := by decide +kernel
theorem dX6_init_186 : decode cX6_init 186 = .ok (.getfield 23, 3) := by decide +kernel
theorem dX6_init_189 : decode cX6_init 189 = .ok (.invokevirtual 83, 3) := by decide +kernel
theorem dX6_init_192 : decode cX6_init 192 = .ok (.pop, 1) := by decide +kernel
theorem dX6_init_193 : decode cX6_init 193 = .ok (.aload_n 0, 1) := by decide +kernel
theorem dX6_init_194 : decode cX6_init 194 = .ok (.getfield 31, 3) := by decide +kernel
theorem dX6_init_197 : decode cX6_init 197 = .ok (.invokevirtual 87, 3) := by decide +kernel
theorem dX6_init_200 : decode cX6_init 200 = .ok (.aload_n 0, 1) := by decide +kernel
theorem dX6_init_201 : decode cX6_init 201 = .ok (.getfield 12, 3) := by decide +kernel
theorem dX6_init_204 : decode cX6_init 204 = .ok (.iconst 0, 1) := by decide +kernel
theorem dX6_init_205 : decode cX6_init 205 = .ok (.putfield 90, 3) := by decide +kernel
theorem dX6_init_208 : decode cX6_init 208 = .ok (.return_, 1) := by decide +kernel
theorem dX6_write_0 : decode cX6_write 0 = .ok (.iload_n 1, 1) := by decide +kernel
theorem dX6_write_1 : decode cX6_write 1 = .ok (.bipush 32, 2) := by decide +kernel
theorem dX6_write_3 : decode cX6_write 3 = .ok (.if_icmp .lt 9, 3) := by decide +kernel
theorem dX6_write_6 : decode cX6_write 6 = .ok (.iload_n 1, 1) := by decide +kernel
theorem dX6_write_7 : decode cX6_write 7 = .ok (.bipush 126, 2) := by decide +kernel
theorem dX6_write_9 : decode cX6_write 9 = .ok (.if_icmp .le 5, 3) := by decide +kernel
theorem dX6_write_12 : decode cX6_write 12 = .ok (.iconst (-1), 1) := by decide +kernel
theorem dX6_write_13 : decode cX6_write 13 = .ok (.ireturn, 1) := by decide +kernel
theorem dX6_write_14 : decode cX6_write 14 = .ok (.aload_n 0, 1) := by decide +kernel
theorem dX6_write_15 : decode cX6_write 15 = .ok (.getfield 12, 3) := by decide +kernel
theorem dX6_write_18 : decode cX6_write 18 = .ok (.getfield 90, 3) := by decide +kernel
theorem dX6_write_21 : decode cX6_write 21 = .ok (.sipush 200, 3) := by decide +kernel
theorem dX6_write_24 : decode cX6_write 24 = .ok (.if_icmp .lt 6, 3) := by decide +kernel
theorem dX6_write_27 : decode cX6_write 27 = .ok (.bipush (-3), 2) := by decide +kernel
theorem dX6_write_29 : decode cX6_write 29 = .ok (.ireturn, 1) := by decide +kernel
theorem dX6_write_30 : decode cX6_write 30 = .ok (.aload_n 0, 1) := by decide +kernel
theorem dX6_write_31 : decode cX6_write 31 = .ok (.getfield 12, 3) := by decide +kernel
theorem dX6_write_34 : decode cX6_write 34 = .ok (.iload_n 1, 1) := by decide +kernel
theorem dX6_write_35 : decode cX6_write 35 = .ok (.i2c, 1) := by decide +kernel
theorem dX6_write_36 : decode cX6_write 36 = .ok (.invokevirtual 79, 3) := by decide +kernel
theorem dX6_write_39 : decode cX6_write 39 = .ok (.aload_n 0, 1) := by decide +kernel
theorem dX6_write_40 : decode cX6_write 40 = .ok (.getfield 12, 3) := by decide +kernel
theorem dX6_write_43 : decode cX6_write 43 = .ok (.getfield 90, 3) := by decide +kernel
theorem dX6_write_46 : decode cX6_write 46 = .ok (.ireturn, 1) := by decide +kernel
theorem dX6_wipe_0 : decode cX6_wipe 0 = .ok (.aload_n 0, 1) := by decide +kernel
theorem dX6_wipe_1 : decode cX6_wipe 1 = .ok (.getfield 12, 3) := by decide +kernel
theorem dX6_wipe_4 : decode cX6_wipe 4 = .ok (.getfield 90, 3) := by decide +kernel
theorem dX6_wipe_7 : decode cX6_wipe 7 = .ok (.istore_n 1, 1) := by decide +kernel
theorem dX6_wipe_8 : decode cX6_wipe 8 = .ok (.aload_n 0, 1) := by decide +kernel
theorem dX6_wipe_9 : decode cX6_wipe 9 = .ok (.getfield 12, 3) := by decide +kernel
theorem dX6_wipe_12 : decode cX6_wipe 12 = .ok (.iconst 0, 1) := by decide +kernel
theorem dX6_wipe_13 : decode cX6_wipe 13 = .ok (.putfield 90, 3) := by decide +kernel
theorem dX6_wipe_16 : decode cX6_wipe 16 = .ok (.iload_n 1, 1) := by decide +kernel
theorem dX6_wipe_17 : decode cX6_wipe 17 = .ok (.ireturn, 1) := by decide +kernel
theorem dX6_fault_0 : decode cX6_fault 0 = .ok (.aload_n 0, 1) := by decide +kernel
theorem dX6_fault_1 : decode cX6_fault 1 = .ok (.getfield 12, 3) := by decide +kernel
theorem dX6_fault_4 : decode cX6_fault 4 = .ok (.aload_n 0, 1) := by decide +kernel
theorem dX6_fault_5 : decode cX6_fault 5 = .ok (.getfield 19, 3) := by decide +kernel
theorem dX6_fault_8 : decode cX6_fault 8 = .ok (.invokevirtual 83, 3) := by decide +kernel
theorem dX6_fault_11 : decode cX6_fault 11 = .ok (.ireturn, 1) := by decide +kernel
theorem dX6_lay_0 : decode cX6_lay 0 = .ok (.aload_n 0, 1) := by decide +kernel
theorem dX6_lay_1 : decode cX6_lay 1 = .ok (.getfield 12, 3) := by decide +kernel
theorem dX6_lay_4 : decode cX6_lay 4 = .ok (.aload_n 0, 1) := by decide +kernel
theorem dX6_lay_5 : decode cX6_lay 5 = .ok (.getfield 19, 3) := by decide +kernel
theorem dX6_lay_8 : decode cX6_lay 8 = .ok (.invokevirtual 83, 3) := by decide +kernel
theorem dX6_lay_11 : decode cX6_lay 11 = .ok (.bipush (-4), 2) := by decide +kernel
theorem dX6_lay_13 : decode cX6_lay 13 = .ok (.if_icmp .ne 13, 3) := by decide +kernel
theorem dX6_lay_16 : decode cX6_lay 16 = .ok (.aload_n 0, 1) := by decide +kernel
theorem dX6_lay_17 : decode cX6_lay 17 = .ok (.getfield 19, 3) := by decide +kernel
theorem dX6_lay_20 : decode cX6_lay 20 = .ok (.getfield 92, 3) := by decide +kernel
theorem dX6_lay_23 : decode cX6_lay 23 = .ok (.ifCond .ne 6, 3) := by decide +kernel
theorem dX6_lay_26 : decode cX6_lay 26 = .ok (.bipush (-2), 2) := by decide +kernel
theorem dX6_lay_28 : decode cX6_lay 28 = .ok (.ireturn, 1) := by decide +kernel
theorem dX6_lay_29 : decode cX6_lay 29 = .ok (.aload_n 0, 1) := by decide +kernel
theorem dX6_lay_30 : decode cX6_lay 30 = .ok (.getfield 12, 3) := by decide +kernel
theorem dX6_lay_33 : decode cX6_lay 33 = .ok (.aload_n 0, 1) := by decide +kernel
theorem dX6_lay_34 : decode cX6_lay 34 = .ok (.getfield 23, 3) := by decide +kernel
theorem dX6_lay_37 : decode cX6_lay 37 = .ok (.invokevirtual 83, 3) := by decide +kernel
theorem dX6_lay_40 : decode cX6_lay 40 = .ok (.pop, 1) := by decide +kernel
theorem dX6_lay_41 : decode cX6_lay 41 = .ok (.aload_n 0, 1) := by decide +kernel
theorem dX6_lay_42 : decode cX6_lay 42 = .ok (.getfield 31, 3) := by decide +kernel
theorem dX6_lay_45 : decode cX6_lay 45 = .ok (.invokevirtual 87, 3) := by decide +kernel
theorem dX6_lay_48 : decode cX6_lay 48 = .ok (.aload_n 0, 1) := by decide +kernel
theorem dX6_lay_49 : decode cX6_lay 49 = .ok (.getfield 41, 3) := by decide +kernel
theorem dX6_lay_52 : decode cX6_lay 52 = .ok (.iconst 0, 1) := by decide +kernel
theorem dX6_lay_53 : decode cX6_lay 53 = .ok (.putfield 95, 3) := by decide +kernel
theorem dX6_lay_56 : decode cX6_lay 56 = .ok (.aload_n 0, 1) := by decide +kernel
theorem dX6_lay_57 : decode cX6_lay 57 = .ok (.iconst 0, 1) := by decide +kernel
theorem dX6_lay_58 : decode cX6_lay 58 = .ok (.putfield 49, 3) := by decide +kernel
theorem dX6_lay_61 : decode cX6_lay 61 = .ok (.aload_n 0, 1) := by decide +kernel
theorem dX6_lay_62 : decode cX6_lay 62 = .ok (.getfield 56, 3) := by decide +kernel
theorem dX6_lay_65 : decode cX6_lay 65 = .ok (.iconst 0, 1) := by decide +kernel
theorem dX6_lay_66 : decode cX6_lay 66 = .ok (.putfield 98, 3) := by decide +kernel
theorem dX6_lay_69 : decode cX6_lay 69 = .ok (.aload_n 0, 1) := by decide +kernel
theorem dX6_lay_70 : decode cX6_lay 70 = .ok (.getfield 23, 3) := by decide +kernel
theorem dX6_lay_73 : decode cX6_lay 73 = .ok (.getfield 92, 3) := by decide +kernel
theorem dX6_lay_76 : decode cX6_lay 76 = .ok (.ireturn, 1) := by decide +kernel
theorem dX6_wall_0 : decode cX6_wall 0 = .ok (.aload_n 0, 1) := by decide +kernel
theorem dX6_wall_1 : decode cX6_wall 1 = .ok (.iload_n 1, 1) := by decide +kernel
theorem dX6_wall_2 : decode cX6_wall 2 = .ok (.invokevirtual 99, 3) := by decide +kernel
theorem dX6_wall_5 : decode cX6_wall 5 = .ok (.ifCond .eq 5, 3) := by decide +kernel
theorem dX6_wall_8 : decode cX6_wall 8 = .ok (.iconst (-1), 1) := by decide +kernel
theorem dX6_wall_9 : decode cX6_wall 9 = .ok (.ireturn, 1) := by decide +kernel
theorem dX6_wall_10 : decode cX6_wall 10 = .ok (.iload_n 2, 1) := by decide +kernel
theorem dX6_wall_11 : decode cX6_wall 11 = .ok (.tableswitch 153 0 7 #[45, 55, 65, 75, 85, 102, 112, 122], 45) := by decide +kernel
theorem dX6_wall_56 : decode cX6_wall 56 = .ok (.aload_n 0, 1) := by decide +kernel
theorem dX6_wall_57 : decode cX6_wall 57 = .ok (.getfield 23, 3) := by decide +kernel
theorem dX6_wall_60 : decode cX6_wall 60 = .ok (.getfield 103, 3) := by decide +kernel
theorem dX6_wall_63 : decode cX6_wall 63 = .ok (.iload_n 1, 1) := by decide +kernel
theorem dX6_wall_64 : decode cX6_wall 64 = .ok (.iaload, 1) := by decide +kernel
theorem dX6_wall_65 : decode cX6_wall 65 = .ok (.ireturn, 1) := by decide +kernel
theorem dX6_wall_66 : decode cX6_wall 66 = .ok (.aload_n 0, 1) := by decide +kernel
theorem dX6_wall_67 : decode cX6_wall 67 = .ok (.getfield 23, 3) := by decide +kernel
theorem dX6_wall_70 : decode cX6_wall 70 = .ok (.getfield 107, 3) := by decide +kernel
theorem dX6_wall_73 : decode cX6_wall 73 = .ok (.iload_n 1, 1) := by decide +kernel
theorem dX6_wall_74 : decode cX6_wall 74 = .ok (.iaload, 1) := by decide +kernel
theorem dX6_wall_75 : decode cX6_wall 75 = .ok (.ireturn, 1) := by decide +kernel
theorem dX6_wall_76 : decode cX6_wall 76 = .ok (.aload_n 0, 1) := by decide +kernel
theorem dX6_wall_77 : decode cX6_wall 77 = .ok (.getfield 23, 3) := by decide +kernel
theorem dX6_wall_80 : decode cX6_wall 80 = .ok (.getfield 110, 3) := by decide +kernel
theorem dX6_wall_83 : decode cX6_wall 83 = .ok (.iload_n 1, 1) := by decide +kernel
theorem dX6_wall_84 : decode cX6_wall 84 = .ok (.iaload, 1) := by decide +kernel
theorem dX6_wall_85 : decode cX6_wall 85 = .ok (.ireturn, 1) := by decide +kernel
theorem dX6_wall_86 : decode cX6_wall 86 = .ok (.aload_n 0, 1) := by decide +kernel
theorem dX6_wall_87 : decode cX6_wall 87 = .ok (.getfield 31, 3) := by decide +kernel
theorem dX6_wall_90 : decode cX6_wall 90 = .ok (.getfield 113, 3) := by decide +kernel
theorem dX6_wall_93 : decode cX6_wall 93 = .ok (.iload_n 1, 1) := by decide +kernel
theorem dX6_wall_94 : decode cX6_wall 94 = .ok (.iaload, 1) := by decide +kernel
theorem dX6_wall_95 : decode cX6_wall 95 = .ok (.ireturn, 1) := by decide +kernel
theorem dX6_wall_96 : decode cX6_wall 96 = .ok (.aload_n 0, 1) := by decide +kernel
theorem dX6_wall_97 : decode cX6_wall 97 = .ok (.getfield 31, 3) := by decide +kernel
theorem dX6_wall_100 : decode cX6_wall 100 = .ok (.iload_n 1, 1) := by decide +kernel
theorem dX6_wall_101 : decode cX6_wall 101 = .ok (.invokevirtual 114, 3) := by decide +kernel
theorem dX6_wall_104 : decode cX6_wall 104 = .ok (.ifCond .eq 7, 3) := by decide +kernel
theorem dX6_wall_107 : decode cX6_wall 107 = .ok (.iconst 0, 1) := by decide +kernel
theorem dX6_wall_108 : decode cX6_wall 108 = .ok (.goto 4, 3) := by decide +kernel
theorem dX6_wall_111 : decode cX6_wall 111 = .ok (.iconst 1, 1) := by decide +kernel
theorem dX6_wall_112 : decode cX6_wall 112 = .ok (.ireturn, 1) := by decide +kernel
theorem dX6_wall_113 : decode cX6_wall 113 = .ok (.aload_n 0, 1) := by decide +kernel
theorem dX6_wall_114 : decode cX6_wall 114 = .ok (.getfield 31, 3) := by decide +kernel
theorem dX6_wall_117 : decode cX6_wall 117 = .ok (.getfield 117, 3) := by decide +kernel
theorem dX6_wall_120 : decode cX6_wall 120 = .ok (.iload_n 1, 1) := by decide +kernel
theorem dX6_wall_121 : decode cX6_wall 121 = .ok (.iaload, 1) := by decide +kernel
theorem dX6_wall_122 : decode cX6_wall 122 = .ok (.ireturn, 1) := by decide +kernel
theorem dX6_wall_123 : decode cX6_wall 123 = .ok (.aload_n 0, 1) := by decide +kernel
theorem dX6_wall_124 : decode cX6_wall 124 = .ok (.getfield 31, 3) := by decide +kernel
theorem dX6_wall_127 : decode cX6_wall 127 = .ok (.getfield 120, 3) := by decide +kernel
theorem dX6_wall_130 : decode cX6_wall 130 = .ok (.iload_n 1, 1) := by decide +kernel
theorem dX6_wall_131 : decode cX6_wall 131 = .ok (.iaload, 1) := by decide +kernel
theorem dX6_wall_132 : decode cX6_wall 132 = .ok (.ireturn, 1) := by decide +kernel
theorem dX6_wall_133 : decode cX6_wall 133 = .ok (.aload_n 0, 1) := by decide +kernel
theorem dX6_wall_134 : decode cX6_wall 134 = .ok (.getfield 23, 3) := by decide +kernel
theorem dX6_wall_137 : decode cX6_wall 137 = .ok (.getfield 103, 3) := by decide +kernel
theorem dX6_wall_140 : decode cX6_wall 140 = .ok (.iload_n 1, 1) := by decide +kernel
theorem dX6_wall_141 : decode cX6_wall 141 = .ok (.iaload, 1) := by decide +kernel
theorem dX6_wall_142 : decode cX6_wall 142 = .ok (.iconst 3, 1) := by decide +kernel
theorem dX6_wall_143 : decode cX6_wall 143 = .ok (.if_icmp .ne 19, 3) := by decide +kernel
theorem dX6_wall_146 : decode cX6_wall 146 = .ok (.aload_n 0, 1) := by decide +kernel
theorem dX6_wall_147 : decode cX6_wall 147 = .ok (.getfield 31, 3) := by decide +kernel
theorem dX6_wall_150 : decode cX6_wall 150 = .ok (.getfield 123, 3) := by decide +kernel
theorem dX6_wall_153 : decode cX6_wall 153 = .ok (.iload_n 1, 1) := by decide +kernel
theorem dX6_wall_154 : decode cX6_wall 154 = .ok (.iaload, 1) := by decide +kernel
theorem dX6_wall_155 : decode cX6_wall 155 = .ok (.ifCond .le 7, 3) := by decide +kernel
theorem dX6_wall_158 : decode cX6_wall 158 = .ok (.iconst 1, 1) := by decide +kernel
theorem dX6_wall_159 : decode cX6_wall 159 = .ok (.goto 4, 3) := by decide +kernel
theorem dX6_wall_162 : decode cX6_wall 162 = .ok (.iconst 0, 1) := by decide +kernel
theorem dX6_wall_163 : decode cX6_wall 163 = .ok (.ireturn, 1) := by decide +kernel
theorem dX6_wall_164 : decode cX6_wall 164 = .ok (.iconst (-1), 1) := by decide +kernel
theorem dX6_wall_165 : decode cX6_wall 165 = .ok (.ireturn, 1) := by decide +kernel
theorem dX6_holds_0 : decode cX6_holds 0 = .ok (.aload_n 0, 1) := by decide +kernel
theorem dX6_holds_1 : decode cX6_holds 1 = .ok (.iload_n 1, 1) := by decide +kernel
theorem dX6_holds_2 : decode cX6_holds 2 = .ok (.iload_n 2, 1) := by decide +kernel
theorem dX6_holds_3 : decode cX6_holds 3 = .ok (.invokevirtual 126, 3) := by decide +kernel
theorem dX6_holds_6 : decode cX6_holds 6 = .ok (.ifCond .eq 7, 3) := by decide +kernel
theorem dX6_holds_9 : decode cX6_holds 9 = .ok (.iconst (-1), 1) := by decide +kernel
theorem dX6_holds_10 : decode cX6_holds 10 = .ok (.goto 12, 3) := by decide +kernel
theorem dX6_holds_13 : decode cX6_holds 13 = .ok (.aload_n 0, 1) := by decide +kernel
theorem dX6_holds_14 : decode cX6_holds 14 = .ok (.getfield 31, 3) := by decide +kernel
theorem dX6_holds_17 : decode cX6_holds 17 = .ok (.iload_n 1, 1) := by decide +kernel
theorem dX6_holds_18 : decode cX6_holds 18 = .ok (.iload_n 2, 1) := by decide +kernel
theorem dX6_holds_19 : decode cX6_holds 19 = .ok (.invokevirtual 130, 3) := by decide +kernel
theorem dX6_holds_22 : decode cX6_holds 22 = .ok (.ireturn, 1) := by decide +kernel
theorem dX6_round_0 : decode cX6_round 0 = .ok (.aload_n 0, 1) := by decide +kernel
theorem dX6_round_1 : decode cX6_round 1 = .ok (.iload_n 1, 1) := by decide +kernel
theorem dX6_round_2 : decode cX6_round 2 = .ok (.invokevirtual 99, 3) := by decide +kernel
theorem dX6_round_5 : decode cX6_round 5 = .ok (.ifCond .eq 5, 3) := by decide +kernel
theorem dX6_round_8 : decode cX6_round 8 = .ok (.iconst (-1), 1) := by decide +kernel
theorem dX6_round_9 : decode cX6_round 9 = .ok (.ireturn, 1) := by decide +kernel
theorem dX6_round_10 : decode cX6_round 10 = .ok (.aload_n 0, 1) := by decide +kernel
theorem dX6_round_11 : decode cX6_round 11 = .ok (.getfield 31, 3) := by decide +kernel
theorem dX6_round_14 : decode cX6_round 14 = .ok (.iload_n 1, 1) := by decide +kernel
theorem dX6_round_15 : decode cX6_round 15 = .ok (.invokevirtual 114, 3) := by decide +kernel
theorem dX6_round_18 : decode cX6_round 18 = .ok (.ifCond .ne 6, 3) := by decide +kernel
theorem dX6_round_21 : decode cX6_round 21 = .ok (.bipush (-2), 2) := by decide +kernel
theorem dX6_round_23 : decode cX6_round 23 = .ok (.ireturn, 1) := by decide +kernel
theorem dX6_round_24 : decode cX6_round 24 = .ok (.aload_n 0, 1) := by decide +kernel
theorem dX6_round_25 : decode cX6_round 25 = .ok (.getfield 31, 3) := by decide +kernel
theorem dX6_round_28 : decode cX6_round 28 = .ok (.getfield 117, 3) := by decide +kernel
theorem dX6_round_31 : decode cX6_round 31 = .ok (.iload_n 1, 1) := by decide +kernel
theorem dX6_round_32 : decode cX6_round 32 = .ok (.iaload, 1) := by decide +kernel
theorem dX6_round_33 : decode cX6_round 33 = .ok (.bipush 7, 2) := by decide +kernel
theorem dX6_round_35 : decode cX6_round 35 = .ok (.if_icmp .lt 6, 3) := by decide +kernel
theorem dX6_round_38 : decode cX6_round 38 = .ok (.bipush (-3), 2) := by decide +kernel
theorem dX6_round_40 : decode cX6_round 40 = .ok (.ireturn, 1) := by decide +kernel
theorem dX6_round_41 : decode cX6_round 41 = .ok (.aload_n 0, 1) := by decide +kernel
theorem dX6_round_42 : decode cX6_round 42 = .ok (.getfield 41, 3) := by decide +kernel
theorem dX6_round_45 : decode cX6_round 45 = .ok (.aload_n 0, 1) := by decide +kernel
theorem dX6_round_46 : decode cX6_round 46 = .ok (.getfield 31, 3) := by decide +kernel
theorem dX6_round_49 : decode cX6_round 49 = .ok (.invokevirtual 134, 3) := by decide +kernel
theorem dX6_round_52 : decode cX6_round 52 = .ok (.aload_n 0, 1) := by decide +kernel
theorem dX6_round_53 : decode cX6_round 53 = .ok (.getfield 31, 3) := by decide +kernel
theorem dX6_round_56 : decode cX6_round 56 = .ok (.iload_n 1, 1) := by decide +kernel
theorem dX6_round_57 : decode cX6_round 57 = .ok (.invokevirtual 138, 3) := by decide +kernel
theorem dX6_round_60 : decode cX6_round 60 = .ok (.aload_n 0, 1) := by decide +kernel
theorem dX6_round_61 : decode cX6_round 61 = .ok (.getfield 31, 3) := by decide +kernel
theorem dX6_round_64 : decode cX6_round 64 = .ok (.getfield 117, 3) := by decide +kernel
theorem dX6_round_67 : decode cX6_round 67 = .ok (.iload_n 1, 1) := by decide +kernel
theorem dX6_round_68 : decode cX6_round 68 = .ok (.iaload, 1) := by decide +kernel
theorem dX6_round_69 : decode cX6_round 69 = .ok (.ireturn, 1) := by decide +kernel
theorem dX6_blast_0 : decode cX6_blast 0 = .ok (.aload_n 0, 1) := by decide +kernel
theorem dX6_blast_1 : decode cX6_blast 1 = .ok (.iload_n 1, 1) := by decide +kernel
theorem dX6_blast_2 : decode cX6_blast 2 = .ok (.invokevirtual 99, 3) := by decide +kernel
theorem dX6_blast_5 : decode cX6_blast 5 = .ok (.ifCond .ne 13, 3) := by decide +kernel
theorem dX6_blast_8 : decode cX6_blast 8 = .ok (.iload_n 2, 1) := by decide +kernel
theorem dX6_blast_9 : decode cX6_blast 9 = .ok (.iconst 1, 1) := by decide +kernel
theorem dX6_blast_10 : decode cX6_blast 10 = .ok (.bipush 9, 2) := by decide +kernel
theorem dX6_blast_12 : decode cX6_blast 12 = .ok (.invokestatic 142, 3) := by decide +kernel
theorem dX6_blast_15 : decode cX6_blast 15 = .ok (.ifCond .eq 5, 3) := by decide +kernel
theorem dX6_blast_18 : decode cX6_blast 18 = .ok (.iconst (-1), 1) := by decide +kernel
theorem dX6_blast_19 : decode cX6_blast 19 = .ok (.ireturn, 1) := by decide +kernel
theorem dX6_blast_20 : decode cX6_blast 20 = .ok (.aload_n 0, 1) := by decide +kernel
theorem dX6_blast_21 : decode cX6_blast 21 = .ok (.getfield 31, 3) := by decide +kernel
theorem dX6_blast_24 : decode cX6_blast 24 = .ok (.iload_n 1, 1) := by decide +kernel
theorem dX6_blast_25 : decode cX6_blast 25 = .ok (.invokevirtual 114, 3) := by decide +kernel
theorem dX6_blast_28 : decode cX6_blast 28 = .ok (.ifCond .ne 6, 3) := by decide +kernel
theorem dX6_blast_31 : decode cX6_blast 31 = .ok (.bipush (-2), 2) := by decide +kernel
theorem dX6_blast_33 : decode cX6_blast 33 = .ok (.ireturn, 1) := by decide +kernel
theorem dX6_blast_34 : decode cX6_blast 34 = .ok (.aload_n 0, 1) := by decide +kernel
theorem dX6_blast_35 : decode cX6_blast 35 = .ok (.getfield 41, 3) := by decide +kernel
theorem dX6_blast_38 : decode cX6_blast 38 = .ok (.aload_n 0, 1) := by decide +kernel
theorem dX6_blast_39 : decode cX6_blast 39 = .ok (.getfield 31, 3) := by decide +kernel
theorem dX6_blast_42 : decode cX6_blast 42 = .ok (.invokevirtual 134, 3) := by decide +kernel
theorem dX6_blast_45 : decode cX6_blast 45 = .ok (.aload_n 0, 1) := by decide +kernel
theorem dX6_blast_46 : decode cX6_blast 46 = .ok (.getfield 31, 3) := by decide +kernel
theorem dX6_blast_49 : decode cX6_blast 49 = .ok (.iload_n 1, 1) := by decide +kernel
theorem dX6_blast_50 : decode cX6_blast 50 = .ok (.iload_n 2, 1) := by decide +kernel
theorem dX6_blast_51 : decode cX6_blast 51 = .ok (.invokevirtual 146, 3) := by decide +kernel
theorem dX6_blast_54 : decode cX6_blast 54 = .ok (.ireturn, 1) := by decide +kernel
theorem dX6_pass_0 : decode cX6_pass 0 = .ok (.iload_n 1, 1) := by decide +kernel
theorem dX6_pass_1 : decode cX6_pass 1 = .ok (.iconst 1, 1) := by decide +kernel
theorem dX6_pass_2 : decode cX6_pass 2 = .ok (.bipush 24, 2) := by decide +kernel
theorem dX6_pass_4 : decode cX6_pass 4 = .ok (.invokestatic 142, 3) := by decide +kernel
theorem dX6_pass_7 : decode cX6_pass 7 = .ok (.ifCond .eq 5, 3) := by decide +kernel
theorem dX6_pass_10 : decode cX6_pass 10 = .ok (.iconst (-1), 1) := by decide +kernel
theorem dX6_pass_11 : decode cX6_pass 11 = .ok (.ireturn, 1) := by decide +kernel
theorem dX6_pass_12 : decode cX6_pass 12 = .ok (.aload_n 0, 1) := by decide +kernel
theorem dX6_pass_13 : decode cX6_pass 13 = .ok (.getfield 41, 3) := by decide +kernel
theorem dX6_pass_16 : decode cX6_pass 16 = .ok (.aload_n 0, 1) := by decide +kernel
theorem dX6_pass_17 : decode cX6_pass 17 = .ok (.getfield 31, 3) := by decide +kernel
theorem dX6_pass_20 : decode cX6_pass 20 = .ok (.invokevirtual 134, 3) := by decide +kernel
theorem dX6_pass_23 : decode cX6_pass 23 = .ok (.iconst 0, 1) := by decide +kernel
theorem dX6_pass_24 : decode cX6_pass 24 = .ok (.istore_n 2, 1) := by decide +kernel
theorem dX6_pass_25 : decode cX6_pass 25 = .ok (.iload_n 2, 1) := by decide +kernel
theorem dX6_pass_26 : decode cX6_pass 26 = .ok (.iload_n 1, 1) := by decide +kernel
theorem dX6_pass_27 : decode cX6_pass 27 = .ok (.if_icmp .ge 16, 3) := by decide +kernel
theorem dX6_pass_30 : decode cX6_pass 30 = .ok (.aload_n 0, 1) := by decide +kernel
theorem dX6_pass_31 : decode cX6_pass 31 = .ok (.getfield 31, 3) := by decide +kernel
theorem dX6_pass_34 : decode cX6_pass 34 = .ok (.invokevirtual 149, 3) := by decide +kernel
theorem dX6_pass_37 : decode cX6_pass 37 = .ok (.iinc 2 1, 3) := by decide +kernel
theorem dX6_pass_40 : decode cX6_pass 40 = .ok (.goto (-15), 3) := by decide +kernel
theorem dX6_pass_43 : decode cX6_pass 43 = .ok (.aload_n 0, 1) := by decide +kernel
theorem dX6_pass_44 : decode cX6_pass 44 = .ok (.getfield 31, 3) := by decide +kernel
theorem dX6_pass_47 : decode cX6_pass 47 = .ok (.getfield 152, 3) := by decide +kernel
theorem dX6_pass_50 : decode cX6_pass 50 = .ok (.ireturn, 1) := by decide +kernel
theorem dX6_prop_0 : decode cX6_prop 0 = .ok (.aload_n 0, 1) := by decide +kernel
theorem dX6_prop_1 : decode cX6_prop 1 = .ok (.iload_n 1, 1) := by decide +kernel
theorem dX6_prop_2 : decode cX6_prop 2 = .ok (.iload_n 2, 1) := by decide +kernel
theorem dX6_prop_3 : decode cX6_prop 3 = .ok (.invokevirtual 126, 3) := by decide +kernel
theorem dX6_prop_6 : decode cX6_prop 6 = .ok (.ifCond .ne 13, 3) := by decide +kernel
theorem dX6_prop_9 : decode cX6_prop 9 = .ok (.iload_n 3, 1) := by decide +kernel
theorem dX6_prop_10 : decode cX6_prop 10 = .ok (.iconst 0, 1) := by decide +kernel
theorem dX6_prop_11 : decode cX6_prop 11 = .ok (.bipush 40, 2) := by decide +kernel
theorem dX6_prop_13 : decode cX6_prop 13 = .ok (.invokestatic 142, 3) := by decide +kernel
theorem dX6_prop_16 : decode cX6_prop 16 = .ok (.ifCond .eq 5, 3) := by decide +kernel
theorem dX6_prop_19 : decode cX6_prop 19 = .ok (.iconst (-1), 1) := by decide +kernel
theorem dX6_prop_20 : decode cX6_prop 20 = .ok (.ireturn, 1) := by decide +kernel
theorem dX6_prop_21 : decode cX6_prop 21 = .ok (.aload_n 0, 1) := by decide +kernel
theorem dX6_prop_22 : decode cX6_prop 22 = .ok (.getfield 31, 3) := by decide +kernel
theorem dX6_prop_25 : decode cX6_prop 25 = .ok (.iload_n 1, 1) := by decide +kernel
theorem dX6_prop_26 : decode cX6_prop 26 = .ok (.iload_n 2, 1) := by decide +kernel
theorem dX6_prop_27 : decode cX6_prop 27 = .ok (.invokevirtual 130, 3) := by decide +kernel
theorem dX6_prop_30 : decode cX6_prop 30 = .ok (.istore 4, 2) := by decide +kernel
theorem dX6_prop_32 : decode cX6_prop 32 = .ok (.iload 4, 2) := by decide +kernel
theorem dX6_prop_34 : decode cX6_prop 34 = .ok (.iload_n 3, 1) := by decide +kernel
theorem dX6_prop_35 : decode cX6_prop 35 = .ok (.if_icmp .ne 6, 3) := by decide +kernel
theorem dX6_prop_38 : decode cX6_prop 38 = .ok (.bipush (-2), 2) := by decide +kernel
theorem dX6_prop_40 : decode cX6_prop 40 = .ok (.ireturn, 1) := by decide +kernel
theorem dX6_prop_41 : decode cX6_prop 41 = .ok (.aload_n 0, 1) := by decide +kernel
theorem dX6_prop_42 : decode cX6_prop 42 = .ok (.getfield 41, 3) := by decide +kernel
theorem dX6_prop_45 : decode cX6_prop 45 = .ok (.aload_n 0, 1) := by decide +kernel
theorem dX6_prop_46 : decode cX6_prop 46 = .ok (.getfield 31, 3) := by decide +kernel
theorem dX6_prop_49 : decode cX6_prop 49 = .ok (.invokevirtual 134, 3) := by decide +kernel
theorem dX6_prop_52 : decode cX6_prop 52 = .ok (.aload_n 0, 1) := by decide +kernel
theorem dX6_prop_53 : decode cX6_prop 53 = .ok (.getfield 31, 3) := by decide +kernel
theorem dX6_prop_56 : decode cX6_prop 56 = .ok (.iload_n 1, 1) := by decide +kernel
theorem dX6_prop_57 : decode cX6_prop 57 = .ok (.iload_n 2, 1) := by decide +kernel
theorem dX6_prop_58 : decode cX6_prop 58 = .ok (.iload_n 3, 1) := by decide +kernel
theorem dX6_prop_59 : decode cX6_prop 59 = .ok (.invokevirtual 155, 3) := by decide +kernel
theorem dX6_prop_62 : decode cX6_prop 62 = .ok (.iload 4, 2) := by decide +kernel
theorem dX6_prop_64 : decode cX6_prop 64 = .ok (.ireturn, 1) := by decide +kernel
theorem dX6_use_0 : decode cX6_use 0 = .ok (.iload_n 1, 1) := by decide +kernel
theorem dX6_use_1 : decode cX6_use 1 = .ok (.iconst 1, 1) := by decide +kernel
theorem dX6_use_2 : decode cX6_use 2 = .ok (.bipush 60, 2) := by decide +kernel
theorem dX6_use_4 : decode cX6_use 4 = .ok (.invokestatic 142, 3) := by decide +kernel
theorem dX6_use_7 : decode cX6_use 7 = .ok (.ifCond .eq 5, 3) := by decide +kernel
theorem dX6_use_10 : decode cX6_use 10 = .ok (.iconst (-1), 1) := by decide +kernel
theorem dX6_use_11 : decode cX6_use 11 = .ok (.ireturn, 1) := by decide +kernel
theorem dX6_use_12 : decode cX6_use 12 = .ok (.aload_n 0, 1) := by decide +kernel
theorem dX6_use_13 : decode cX6_use 13 = .ok (.getfield 31, 3) := by decide +kernel
theorem dX6_use_16 : decode cX6_use 16 = .ok (.getfield 159, 3) := by decide +kernel
theorem dX6_use_19 : decode cX6_use 19 = .ok (.iload_n 1, 1) := by decide +kernel
theorem dX6_use_20 : decode cX6_use 20 = .ok (.if_icmp .ge 6, 3) := by decide +kernel
theorem dX6_use_23 : decode cX6_use 23 = .ok (.bipush (-2), 2) := by decide +kernel
theorem dX6_use_25 : decode cX6_use 25 = .ok (.ireturn, 1) := by decide +kernel
theorem dX6_use_26 : decode cX6_use 26 = .ok (.aload_n 0, 1) := by decide +kernel
theorem dX6_use_27 : decode cX6_use 27 = .ok (.getfield 41, 3) := by decide +kernel
theorem dX6_use_30 : decode cX6_use 30 = .ok (.aload_n 0, 1) := by decide +kernel
theorem dX6_use_31 : decode cX6_use 31 = .ok (.getfield 31, 3) := by decide +kernel
theorem dX6_use_34 : decode cX6_use 34 = .ok (.invokevirtual 134, 3) := by decide +kernel
theorem dX6_use_37 : decode cX6_use 37 = .ok (.aload_n 0, 1) := by decide +kernel
theorem dX6_use_38 : decode cX6_use 38 = .ok (.getfield 31, 3) := by decide +kernel
theorem dX6_use_41 : decode cX6_use 41 = .ok (.dup, 1) := by decide +kernel
theorem dX6_use_42 : decode cX6_use 42 = .ok (.getfield 159, 3) := by decide +kernel
theorem dX6_use_45 : decode cX6_use 45 = .ok (.iload_n 1, 1) := by decide +kernel
theorem dX6_use_46 : decode cX6_use 46 = .ok (.isub, 1) := by decide +kernel
theorem dX6_use_47 : decode cX6_use 47 = .ok (.putfield 159, 3) := by decide +kernel
theorem dX6_use_50 : decode cX6_use 50 = .ok (.aload_n 0, 1) := by decide +kernel
theorem dX6_use_51 : decode cX6_use 51 = .ok (.getfield 31, 3) := by decide +kernel
theorem dX6_use_54 : decode cX6_use 54 = .ok (.getfield 159, 3) := by decide +kernel
theorem dX6_use_57 : decode cX6_use 57 = .ok (.ireturn, 1) := by decide +kernel
theorem dX6_undo_0 : decode cX6_undo 0 = .ok (.aload_n 0, 1) := by decide +kernel
theorem dX6_undo_1 : decode cX6_undo 1 = .ok (.getfield 41, 3) := by decide +kernel
theorem dX6_undo_4 : decode cX6_undo 4 = .ok (.aload_n 0, 1) := by decide +kernel
theorem dX6_undo_5 : decode cX6_undo 5 = .ok (.getfield 31, 3) := by decide +kernel
theorem dX6_undo_8 : decode cX6_undo 8 = .ok (.invokevirtual 162, 3) := by decide +kernel
theorem dX6_undo_11 : decode cX6_undo 11 = .ok (.ifCond .eq 13, 3) := by decide +kernel
theorem dX6_undo_14 : decode cX6_undo 14 = .ok (.aload_n 0, 1) := by decide +kernel
theorem dX6_undo_15 : decode cX6_undo 15 = .ok (.getfield 41, 3) := by decide +kernel
theorem dX6_undo_18 : decode cX6_undo 18 = .ok (.getfield 95, 3) := by decide +kernel
theorem dX6_undo_21 : decode cX6_undo 21 = .ok (.goto 5, 3) := by decide +kernel
theorem dX6_undo_24 : decode cX6_undo 24 = .ok (.bipush (-2), 2) := by decide +kernel
theorem dX6_undo_26 : decode cX6_undo 26 = .ok (.ireturn, 1) := by decide +kernel
theorem dX6_calls_0 : decode cX6_calls 0 = .ok (.aload_n 0, 1) := by decide +kernel
theorem dX6_calls_1 : decode cX6_calls 1 = .ok (.iload_n 1, 1) := by decide +kernel
theorem dX6_calls_2 : decode cX6_calls 2 = .ok (.invokevirtual 99, 3) := by decide +kernel
theorem dX6_calls_5 : decode cX6_calls 5 = .ok (.ifCond .eq 5, 3) := by decide +kernel
theorem dX6_calls_8 : decode cX6_calls 8 = .ok (.iconst (-1), 1) := by decide +kernel
theorem dX6_calls_9 : decode cX6_calls 9 = .ok (.ireturn, 1) := by decide +kernel
theorem dX6_calls_10 : decode cX6_calls 10 = .ok (.aload_n 0, 1) := by decide +kernel
theorem dX6_calls_11 : decode cX6_calls 11 = .ok (.getfield 31, 3) := by decide +kernel
theorem dX6_calls_14 : decode cX6_calls 14 = .ok (.iload_n 1, 1) := by decide +kernel
theorem dX6_calls_15 : decode cX6_calls 15 = .ok (.invokevirtual 114, 3) := by decide +kernel
theorem dX6_calls_18 : decode cX6_calls 18 = .ok (.ifCond .ne 6, 3) := by decide +kernel
theorem dX6_calls_21 : decode cX6_calls 21 = .ok (.bipush (-2), 2) := by decide +kernel
theorem dX6_calls_23 : decode cX6_calls 23 = .ok (.ireturn, 1) := by decide +kernel
theorem dX6_calls_24 : decode cX6_calls 24 = .ok (.aload_n 0, 1) := by decide +kernel
theorem dX6_calls_25 : decode cX6_calls 25 = .ok (.getfield 31, 3) := by decide +kernel
theorem dX6_calls_28 : decode cX6_calls 28 = .ok (.iload_n 1, 1) := by decide +kernel
theorem dX6_calls_29 : decode cX6_calls 29 = .ok (.invokevirtual 166, 3) := by decide +kernel
theorem dX6_calls_32 : decode cX6_calls 32 = .ok (.ireturn, 1) := by decide +kernel
theorem dX6_rounds_0 : decode cX6_rounds 0 = .ok (.aload_n 0, 1) := by decide +kernel
theorem dX6_rounds_1 : decode cX6_rounds 1 = .ok (.iload_n 1, 1) := by decide +kernel
theorem dX6_rounds_2 : decode cX6_rounds 2 = .ok (.invokevirtual 99, 3) := by decide +kernel
theorem dX6_rounds_5 : decode cX6_rounds 5 = .ok (.ifCond .ne 13, 3) := by decide +kernel
theorem dX6_rounds_8 : decode cX6_rounds 8 = .ok (.iload_n 2, 1) := by decide +kernel
theorem dX6_rounds_9 : decode cX6_rounds 9 = .ok (.iconst 1, 1) := by decide +kernel
theorem dX6_rounds_10 : decode cX6_rounds 10 = .ok (.bipush 9, 2) := by decide +kernel
theorem dX6_rounds_12 : decode cX6_rounds 12 = .ok (.invokestatic 142, 3) := by decide +kernel
theorem dX6_rounds_15 : decode cX6_rounds 15 = .ok (.ifCond .eq 5, 3) := by decide +kernel
theorem dX6_rounds_18 : decode cX6_rounds 18 = .ok (.iconst (-1), 1) := by decide +kernel
theorem dX6_rounds_19 : decode cX6_rounds 19 = .ok (.ireturn, 1) := by decide +kernel
theorem dX6_rounds_20 : decode cX6_rounds 20 = .ok (.aload_n 0, 1) := by decide +kernel
theorem dX6_rounds_21 : decode cX6_rounds 21 = .ok (.getfield 31, 3) := by decide +kernel
theorem dX6_rounds_24 : decode cX6_rounds 24 = .ok (.iload_n 1, 1) := by decide +kernel
theorem dX6_rounds_25 : decode cX6_rounds 25 = .ok (.invokevirtual 114, 3) := by decide +kernel
theorem dX6_rounds_28 : decode cX6_rounds 28 = .ok (.ifCond .ne 6, 3) := by decide +kernel
theorem dX6_rounds_31 : decode cX6_rounds 31 = .ok (.bipush (-2), 2) := by decide +kernel
theorem dX6_rounds_33 : decode cX6_rounds 33 = .ok (.ireturn, 1) := by decide +kernel
theorem dX6_rounds_34 : decode cX6_rounds 34 = .ok (.aload_n 0, 1) := by decide +kernel
theorem dX6_rounds_35 : decode cX6_rounds 35 = .ok (.getfield 35, 3) := by decide +kernel
theorem dX6_rounds_38 : decode cX6_rounds 38 = .ok (.aload_n 0, 1) := by decide +kernel
theorem dX6_rounds_39 : decode cX6_rounds 39 = .ok (.getfield 31, 3) := by decide +kernel
theorem dX6_rounds_42 : decode cX6_rounds 42 = .ok (.invokevirtual 170, 3) := by decide +kernel
theorem dX6_rounds_45 : decode cX6_rounds 45 = .ok (.iconst 0, 1) := by decide +kernel
theorem dX6_rounds_46 : decode cX6_rounds 46 = .ok (.istore_n 3, 1) := by decide +kernel
theorem dX6_rounds_47 : decode cX6_rounds 47 = .ok (.iload_n 3, 1) := by decide +kernel
theorem dX6_rounds_48 : decode cX6_rounds 48 = .ok (.bipush 7, 2) := by decide +kernel
theorem dX6_rounds_50 : decode cX6_rounds 50 = .ok (.if_icmp .gt 42, 3) := by decide +kernel
theorem dX6_rounds_53 : decode cX6_rounds 53 = .ok (.aload_n 0, 1) := by decide +kernel
theorem dX6_rounds_54 : decode cX6_rounds 54 = .ok (.getfield 35, 3) := by decide +kernel
theorem dX6_rounds_57 : decode cX6_rounds 57 = .ok (.iload_n 1, 1) := by decide +kernel
theorem dX6_rounds_58 : decode cX6_rounds 58 = .ok (.iload_n 2, 1) := by decide +kernel
theorem dX6_rounds_59 : decode cX6_rounds 59 = .ok (.invokevirtual 173, 3) := by decide +kernel
theorem dX6_rounds_62 : decode cX6_rounds 62 = .ok (.ifCond .eq 16, 3) := by decide +kernel
theorem dX6_rounds_65 : decode cX6_rounds 65 = .ok (.aload_n 0, 1) := by decide +kernel
theorem dX6_rounds_66 : decode cX6_rounds 66 = .ok (.getfield 35, 3) := by decide +kernel
theorem dX6_rounds_69 : decode cX6_rounds 69 = .ok (.iload_n 1, 1) := by decide +kernel
theorem dX6_rounds_70 : decode cX6_rounds 70 = .ok (.invokevirtual 176, 3) := by decide +kernel
theorem dX6_rounds_73 : decode cX6_rounds 73 = .ok (.ifCond .eq 5, 3) := by decide +kernel
theorem dX6_rounds_76 : decode cX6_rounds 76 = .ok (.iload_n 3, 1) := by decide +kernel
theorem dX6_rounds_77 : decode cX6_rounds 77 = .ok (.ireturn, 1) := by decide +kernel
theorem dX6_rounds_78 : decode cX6_rounds 78 = .ok (.aload_n 0, 1) := by decide +kernel
theorem dX6_rounds_79 : decode cX6_rounds 79 = .ok (.getfield 35, 3) := by decide +kernel
theorem dX6_rounds_82 : decode cX6_rounds 82 = .ok (.iload_n 1, 1) := by decide +kernel
theorem dX6_rounds_83 : decode cX6_rounds 83 = .ok (.invokevirtual 138, 3) := by decide +kernel
theorem dX6_rounds_86 : decode cX6_rounds 86 = .ok (.iinc 3 1, 3) := by decide +kernel
theorem dX6_rounds_89 : decode cX6_rounds 89 = .ok (.goto (-42), 3) := by decide +kernel
theorem dX6_rounds_92 : decode cX6_rounds 92 = .ok (.bipush (-4), 2) := by decide +kernel
theorem dX6_rounds_94 : decode cX6_rounds 94 = .ok (.ireturn, 1) := by decide +kernel
theorem dX6_key_0 : decode cX6_key 0 = .ok (.iload_n 1, 1) := by decide +kernel
theorem dX6_key_1 : decode cX6_key 1 = .ok (.iconst 0, 1) := by decide +kernel
theorem dX6_key_2 : decode cX6_key 2 = .ok (.iconst 1, 1) := by decide +kernel
theorem dX6_key_3 : decode cX6_key 3 = .ok (.invokestatic 142, 3) := by decide +kernel
theorem dX6_key_6 : decode cX6_key 6 = .ok (.ifCond .eq 5, 3) := by decide +kernel
theorem dX6_key_9 : decode cX6_key 9 = .ok (.iconst (-1), 1) := by decide +kernel
theorem dX6_key_10 : decode cX6_key 10 = .ok (.ireturn, 1) := by decide +kernel
theorem dX6_key_11 : decode cX6_key 11 = .ok (.bipush (-4), 2) := by decide +kernel
theorem dX6_key_13 : decode cX6_key 13 = .ok (.istore_n 2, 1) := by decide +kernel
theorem dX6_key_14 : decode cX6_key 14 = .ok (.bipush (-4), 2) := by decide +kernel
theorem dX6_key_16 : decode cX6_key 16 = .ok (.istore_n 3, 1) := by decide +kernel
theorem dX6_key_17 : decode cX6_key 17 = .ok (.iconst 0, 1) := by decide +kernel
theorem dX6_key_18 : decode cX6_key 18 = .ok (.istore 4, 2) := by decide +kernel
theorem dX6_key_20 : decode cX6_key 20 = .ok (.iload 4, 2) := by decide +kernel
theorem dX6_key_22 : decode cX6_key 22 = .ok (.aload_n 0, 1) := by decide +kernel
theorem dX6_key_23 : decode cX6_key 23 = .ok (.getfield 23, 3) := by decide +kernel
theorem dX6_key_26 : decode cX6_key 26 = .ok (.getfield 92, 3) := by decide +kernel
theorem dX6_key_29 : decode cX6_key 29 = .ok (.if_icmp .ge 50, 3) := by decide +kernel
theorem dX6_key_32 : decode cX6_key 32 = .ok (.aload_n 0, 1) := by decide +kernel
theorem dX6_key_33 : decode cX6_key 33 = .ok (.getfield 31, 3) := by decide +kernel
theorem dX6_key_36 : decode cX6_key 36 = .ok (.iload 4, 2) := by decide +kernel
theorem dX6_key_38 : decode cX6_key 38 = .ok (.invokevirtual 114, 3) := by decide +kernel
theorem dX6_key_41 : decode cX6_key 41 = .ok (.ifCond .ne 6, 3) := by decide +kernel
theorem dX6_key_44 : decode cX6_key 44 = .ok (.goto 29, 3) := by decide +kernel
theorem dX6_key_47 : decode cX6_key 47 = .ok (.aload_n 0, 1) := by decide +kernel
theorem dX6_key_48 : decode cX6_key 48 = .ok (.iload 4, 2) := by decide +kernel
theorem dX6_key_50 : decode cX6_key 50 = .ok (.invokevirtual 179, 3) := by decide +kernel
theorem dX6_key_53 : decode cX6_key 53 = .ok (.istore 5, 2) := by decide +kernel
theorem dX6_key_55 : decode cX6_key 55 = .ok (.iload_n 2, 1) := by decide +kernel
theorem dX6_key_56 : decode cX6_key 56 = .ok (.bipush (-4), 2) := by decide +kernel
theorem dX6_key_58 : decode cX6_key 58 = .ok (.if_icmp .eq 9, 3) := by decide +kernel
theorem dX6_key_61 : decode cX6_key 61 = .ok (.iload 5, 2) := by decide +kernel
theorem dX6_key_63 : decode cX6_key 63 = .ok (.iload_n 3, 1) := by decide +kernel
theorem dX6_key_64 : decode cX6_key 64 = .ok (.if_icmp .le 9, 3) := by decide +kernel
theorem dX6_key_67 : decode cX6_key 67 = .ok (.iload 4, 2) := by decide +kernel
theorem dX6_key_69 : decode cX6_key 69 = .ok (.istore_n 2, 1) := by decide +kernel
theorem dX6_key_70 : decode cX6_key 70 = .ok (.iload 5, 2) := by decide +kernel
theorem dX6_key_72 : decode cX6_key 72 = .ok (.istore_n 3, 1) := by decide +kernel
theorem dX6_key_73 : decode cX6_key 73 = .ok (.iinc 4 1, 3) := by decide +kernel
theorem dX6_key_76 : decode cX6_key 76 = .ok (.goto (-56), 3) := by decide +kernel
theorem dX6_key_79 : decode cX6_key 79 = .ok (.iload_n 1, 1) := by decide +kernel
theorem dX6_key_80 : decode cX6_key 80 = .ok (.ifCond .ne 7, 3) := by decide +kernel
theorem dX6_key_83 : decode cX6_key 83 = .ok (.iload_n 2, 1) := by decide +kernel
theorem dX6_key_84 : decode cX6_key 84 = .ok (.goto 4, 3) := by decide +kernel
theorem dX6_key_87 : decode cX6_key 87 = .ok (.iload_n 3, 1) := by decide +kernel
theorem dX6_key_88 : decode cX6_key 88 = .ok (.ireturn, 1) := by decide +kernel
theorem dX6_order_0 : decode cX6_order 0 = .ok (.iload_n 1, 1) := by decide +kernel
theorem dX6_order_1 : decode cX6_order 1 = .ok (.iconst (-1), 1) := by decide +kernel
theorem dX6_order_2 : decode cX6_order 2 = .ok (.bipush 9, 2) := by decide +kernel
theorem dX6_order_4 : decode cX6_order 4 = .ok (.invokestatic 142, 3) := by decide +kernel
theorem dX6_order_7 : decode cX6_order 7 = .ok (.ifCond .eq 5, 3) := by decide +kernel
theorem dX6_order_10 : decode cX6_order 10 = .ok (.iconst (-1), 1) := by decide +kernel
theorem dX6_order_11 : decode cX6_order 11 = .ok (.ireturn, 1) := by decide +kernel
theorem dX6_order_12 : decode cX6_order 12 = .ok (.aload_n 0, 1) := by decide +kernel
theorem dX6_order_13 : decode cX6_order 13 = .ok (.getfield 63, 3) := by decide +kernel
theorem dX6_order_16 : decode cX6_order 16 = .ok (.aload_n 0, 1) := by decide +kernel
theorem dX6_order_17 : decode cX6_order 17 = .ok (.getfield 31, 3) := by decide +kernel
theorem dX6_order_20 : decode cX6_order 20 = .ok (.invokevirtual 182, 3) := by decide +kernel
theorem dX6_order_23 : decode cX6_order 23 = .ok (.aload_n 0, 1) := by decide +kernel
theorem dX6_order_24 : decode cX6_order 24 = .ok (.getfield 63, 3) := by decide +kernel
theorem dX6_order_27 : decode cX6_order 27 = .ok (.getfield 185, 3) := by decide +kernel
theorem dX6_order_30 : decode cX6_order 30 = .ok (.sipush 1000, 3) := by decide +kernel
theorem dX6_order_33 : decode cX6_order 33 = .ok (.if_icmp .ne 6, 3) := by decide +kernel
theorem dX6_order_36 : decode cX6_order 36 = .ok (.bipush (-4), 2) := by decide +kernel
theorem dX6_order_38 : decode cX6_order 38 = .ok (.ireturn, 1) := by decide +kernel
theorem dX6_order_39 : decode cX6_order 39 = .ok (.iload_n 1, 1) := by decide +kernel
theorem dX6_order_40 : decode cX6_order 40 = .ok (.iconst (-1), 1) := by decide +kernel
theorem dX6_order_41 : decode cX6_order 41 = .ok (.if_icmp .ne 11, 3) := by decide +kernel
theorem dX6_order_44 : decode cX6_order 44 = .ok (.aload_n 0, 1) := by decide +kernel
theorem dX6_order_45 : decode cX6_order 45 = .ok (.getfield 63, 3) := by decide +kernel
theorem dX6_order_48 : decode cX6_order 48 = .ok (.getfield 185, 3) := by decide +kernel
theorem dX6_order_51 : decode cX6_order 51 = .ok (.ireturn, 1) := by decide +kernel
theorem dX6_order_52 : decode cX6_order 52 = .ok (.iload_n 1, 1) := by decide +kernel
theorem dX6_order_53 : decode cX6_order 53 = .ok (.aload_n 0, 1) := by decide +kernel
theorem dX6_order_54 : decode cX6_order 54 = .ok (.getfield 63, 3) := by decide +kernel
theorem dX6_order_57 : decode cX6_order 57 = .ok (.getfield 188, 3) := by decide +kernel
theorem dX6_order_60 : decode cX6_order 60 = .ok (.if_icmp .ge 15, 3) := by decide +kernel
theorem dX6_order_63 : decode cX6_order 63 = .ok (.aload_n 0, 1) := by decide +kernel
theorem dX6_order_64 : decode cX6_order 64 = .ok (.getfield 63, 3) := by decide +kernel
theorem dX6_order_67 : decode cX6_order 67 = .ok (.getfield 189, 3) := by decide +kernel
theorem dX6_order_70 : decode cX6_order 70 = .ok (.iload_n 1, 1) := by decide +kernel
theorem dX6_order_71 : decode cX6_order 71 = .ok (.iaload, 1) := by decide +kernel
theorem dX6_order_72 : decode cX6_order 72 = .ok (.goto 5, 3) := by decide +kernel
theorem dX6_order_75 : decode cX6_order 75 = .ok (.bipush (-4), 2) := by decide +kernel
theorem dX6_order_77 : decode cX6_order 77 = .ok (.ireturn, 1) := by decide +kernel
theorem dX6_save_0 : decode cX6_save 0 = .ok (.aload_n 0, 1) := by decide +kernel
theorem dX6_save_1 : decode cX6_save 1 = .ok (.iload_n 1, 1) := by decide +kernel
theorem dX6_save_2 : decode cX6_save 2 = .ok (.iload_n 2, 1) := by decide +kernel
theorem dX6_save_3 : decode cX6_save 3 = .ok (.invokevirtual 126, 3) := by decide +kernel
theorem dX6_save_6 : decode cX6_save 6 = .ok (.ifCond .eq 5, 3) := by decide +kernel
theorem dX6_save_9 : decode cX6_save 9 = .ok (.iconst (-1), 1) := by decide +kernel
theorem dX6_save_10 : decode cX6_save 10 = .ok (.ireturn, 1) := by decide +kernel
theorem dX6_save_11 : decode cX6_save 11 = .ok (.aload_n 0, 1) := by decide +kernel
theorem dX6_save_12 : decode cX6_save 12 = .ok (.getfield 31, 3) := by decide +kernel
theorem dX6_save_15 : decode cX6_save 15 = .ok (.iload_n 1, 1) := by decide +kernel
theorem dX6_save_16 : decode cX6_save 16 = .ok (.invokevirtual 114, 3) := by decide +kernel
theorem dX6_save_19 : decode cX6_save 19 = .ok (.ifCond .eq 14, 3) := by decide +kernel
theorem dX6_save_22 : decode cX6_save 22 = .ok (.aload_n 0, 1) := by decide +kernel
theorem dX6_save_23 : decode cX6_save 23 = .ok (.getfield 31, 3) := by decide +kernel
theorem dX6_save_26 : decode cX6_save 26 = .ok (.iload_n 2, 1) := by decide +kernel
theorem dX6_save_27 : decode cX6_save 27 = .ok (.invokevirtual 114, 3) := by decide +kernel
theorem dX6_save_30 : decode cX6_save 30 = .ok (.ifCond .ne 6, 3) := by decide +kernel
theorem dX6_save_33 : decode cX6_save 33 = .ok (.bipush (-2), 2) := by decide +kernel
theorem dX6_save_35 : decode cX6_save 35 = .ok (.ireturn, 1) := by decide +kernel
theorem dX6_save_36 : decode cX6_save 36 = .ok (.aload_n 0, 1) := by decide +kernel
theorem dX6_save_37 : decode cX6_save 37 = .ok (.getfield 31, 3) := by decide +kernel
theorem dX6_save_40 : decode cX6_save 40 = .ok (.iload_n 1, 1) := by decide +kernel
theorem dX6_save_41 : decode cX6_save 41 = .ok (.invokevirtual 192, 3) := by decide +kernel
theorem dX6_save_44 : decode cX6_save 44 = .ok (.istore_n 3, 1) := by decide +kernel
theorem dX6_save_45 : decode cX6_save 45 = .ok (.iload_n 3, 1) := by decide +kernel
theorem dX6_save_46 : decode cX6_save 46 = .ok (.istore 4, 2) := by decide +kernel
theorem dX6_save_48 : decode cX6_save 48 = .ok (.iconst 0, 1) := by decide +kernel
theorem dX6_save_49 : decode cX6_save 49 = .ok (.istore 5, 2) := by decide +kernel
theorem dX6_save_51 : decode cX6_save 51 = .ok (.iload 5, 2) := by decide +kernel
theorem dX6_save_53 : decode cX6_save 53 = .ok (.iload_n 3, 1) := by decide +kernel
theorem dX6_save_54 : decode cX6_save 54 = .ok (.if_icmp .ge 58, 3) := by decide +kernel
theorem dX6_save_57 : decode cX6_save 57 = .ok (.iload 5, 2) := by decide +kernel
theorem dX6_save_59 : decode cX6_save 59 = .ok (.invokestatic 195, 3) := by decide +kernel
theorem dX6_save_62 : decode cX6_save 62 = .ok (.iload 4, 2) := by decide +kernel
theorem dX6_save_64 : decode cX6_save 64 = .ok (.invokestatic 195, 3) := by decide +kernel
theorem dX6_save_67 : decode cX6_save 67 = .ok (.if_icmp .ge 7, 3) := by decide +kernel
theorem dX6_save_70 : decode cX6_save 70 = .ok (.iconst 1, 1) := by decide +kernel
theorem dX6_save_71 : decode cX6_save 71 = .ok (.goto 4, 3) := by decide +kernel
theorem dX6_save_74 : decode cX6_save 74 = .ok (.iconst 0, 1) := by decide +kernel
theorem dX6_save_75 : decode cX6_save 75 = .ok (.istore 6, 2) := by decide +kernel
theorem dX6_save_77 : decode cX6_save 77 = .ok (.iload 6, 2) := by decide +kernel
theorem dX6_save_79 : decode cX6_save 79 = .ok (.ifCond .eq 27, 3) := by decide +kernel
theorem dX6_save_82 : decode cX6_save 82 = .ok (.iload 5, 2) := by decide +kernel
theorem dX6_save_84 : decode cX6_save 84 = .ok (.iload_n 3, 1) := by decide +kernel
theorem dX6_save_85 : decode cX6_save 85 = .ok (.iconst (-1), 1) := by decide +kernel
theorem dX6_save_86 : decode cX6_save 86 = .ok (.ixor, 1) := by decide +kernel
theorem dX6_save_87 : decode cX6_save 87 = .ok (.iand, 1) := by decide +kernel
theorem dX6_save_88 : decode cX6_save 88 = .ok (.ifCond .ne 18, 3) := by decide +kernel
theorem dX6_save_91 : decode cX6_save 91 = .ok (.aload_n 0, 1) := by decide +kernel
theorem dX6_save_92 : decode cX6_save 92 = .ok (.iload 5, 2) := by decide +kernel
theorem dX6_save_94 : decode cX6_save 94 = .ok (.iload_n 1, 1) := by decide +kernel
theorem dX6_save_95 : decode cX6_save 95 = .ok (.iload_n 2, 1) := by decide +kernel
theorem dX6_save_96 : decode cX6_save 96 = .ok (.invokevirtual 200, 3) := by decide +kernel
theorem dX6_save_99 : decode cX6_save 99 = .ok (.ifCond .eq 7, 3) := by decide +kernel
theorem dX6_save_102 : decode cX6_save 102 = .ok (.iload 5, 2) := by decide +kernel
theorem dX6_save_104 : decode cX6_save 104 = .ok (.istore 4, 2) := by decide +kernel
theorem dX6_save_106 : decode cX6_save 106 = .ok (.iinc 5 1, 3) := by decide +kernel
theorem dX6_save_109 : decode cX6_save 109 = .ok (.goto (-58), 3) := by decide +kernel
theorem dX6_save_112 : decode cX6_save 112 = .ok (.iload 4, 2) := by decide +kernel
theorem dX6_save_114 : decode cX6_save 114 = .ok (.ireturn, 1) := by decide +kernel
theorem dX6_built_0 : decode cX6_built 0 = .ok (.iload_n 1, 1) := by decide +kernel
theorem dX6_built_1 : decode cX6_built 1 = .ok (.iconst 0, 1) := by decide +kernel
theorem dX6_built_2 : decode cX6_built 2 = .ok (.iconst 1, 1) := by decide +kernel
theorem dX6_built_3 : decode cX6_built 3 = .ok (.invokestatic 142, 3) := by decide +kernel
theorem dX6_built_6 : decode cX6_built 6 = .ok (.ifCond .eq 5, 3) := by decide +kernel
theorem dX6_built_9 : decode cX6_built 9 = .ok (.iconst (-1), 1) := by decide +kernel
theorem dX6_built_10 : decode cX6_built 10 = .ok (.ireturn, 1) := by decide +kernel
theorem dX6_built_11 : decode cX6_built 11 = .ok (.iconst 0, 1) := by decide +kernel
theorem dX6_built_12 : decode cX6_built 12 = .ok (.istore_n 2, 1) := by decide +kernel
theorem dX6_built_13 : decode cX6_built 13 = .ok (.bipush (-4), 2) := by decide +kernel
theorem dX6_built_15 : decode cX6_built 15 = .ok (.istore_n 3, 1) := by decide +kernel
theorem dX6_built_16 : decode cX6_built 16 = .ok (.iconst 0, 1) := by decide +kernel
theorem dX6_built_17 : decode cX6_built 17 = .ok (.istore 4, 2) := by decide +kernel
theorem dX6_built_19 : decode cX6_built 19 = .ok (.iload 4, 2) := by decide +kernel
theorem dX6_built_21 : decode cX6_built 21 = .ok (.bipush 8, 2) := by decide +kernel
theorem dX6_built_23 : decode cX6_built 23 = .ok (.imul, 1) := by decide +kernel
theorem dX6_built_24 : decode cX6_built 24 = .ok (.aload_n 0, 1) := by decide +kernel
theorem dX6_built_25 : decode cX6_built 25 = .ok (.getfield 31, 3) := by decide +kernel
theorem dX6_built_28 : decode cX6_built 28 = .ok (.getfield 159, 3) := by decide +kernel
theorem dX6_built_31 : decode cX6_built 31 = .ok (.if_icmp .gt 91, 3) := by decide +kernel
theorem dX6_built_34 : decode cX6_built 34 = .ok (.aload_n 0, 1) := by decide +kernel
theorem dX6_built_35 : decode cX6_built 35 = .ok (.getfield 31, 3) := by decide +kernel
theorem dX6_built_38 : decode cX6_built 38 = .ok (.getfield 159, 3) := by decide +kernel
theorem dX6_built_41 : decode cX6_built 41 = .ok (.iload 4, 2) := by decide +kernel
theorem dX6_built_43 : decode cX6_built 43 = .ok (.bipush 8, 2) := by decide +kernel
theorem dX6_built_45 : decode cX6_built 45 = .ok (.imul, 1) := by decide +kernel
theorem dX6_built_46 : decode cX6_built 46 = .ok (.isub, 1) := by decide +kernel
theorem dX6_built_47 : decode cX6_built 47 = .ok (.istore 5, 2) := by decide +kernel
theorem dX6_built_49 : decode cX6_built 49 = .ok (.iconst 0, 1) := by decide +kernel
theorem dX6_built_50 : decode cX6_built 50 = .ok (.istore 6, 2) := by decide +kernel
theorem dX6_built_52 : decode cX6_built 52 = .ok (.iload 6, 2) := by decide +kernel
theorem dX6_built_54 : decode cX6_built 54 = .ok (.iconst 5, 1) := by decide +kernel
theorem dX6_built_55 : decode cX6_built 55 = .ok (.imul, 1) := by decide +kernel
theorem dX6_built_56 : decode cX6_built 56 = .ok (.iload 5, 2) := by decide +kernel
theorem dX6_built_58 : decode cX6_built 58 = .ok (.if_icmp .gt 58, 3) := by decide +kernel
theorem dX6_built_61 : decode cX6_built 61 = .ok (.iload 5, 2) := by decide +kernel
theorem dX6_built_63 : decode cX6_built 63 = .ok (.iload 6, 2) := by decide +kernel
theorem dX6_built_65 : decode cX6_built 65 = .ok (.iconst 5, 1) := by decide +kernel
theorem dX6_built_66 : decode cX6_built 66 = .ok (.imul, 1) := by decide +kernel
theorem dX6_built_67 : decode cX6_built 67 = .ok (.isub, 1) := by decide +kernel
theorem dX6_built_68 : decode cX6_built 68 = .ok (.istore 7, 2) := by decide +kernel
theorem dX6_built_70 : decode cX6_built 70 = .ok (.iload 7, 2) := by decide +kernel
theorem dX6_built_72 : decode cX6_built 72 = .ok (.iconst 3, 1) := by decide +kernel
theorem dX6_built_73 : decode cX6_built 73 = .ok (.irem, 1) := by decide +kernel
theorem dX6_built_74 : decode cX6_built 74 = .ok (.ifCond .eq 6, 3) := by decide +kernel
theorem dX6_built_77 : decode cX6_built 77 = .ok (.goto 33, 3) := by decide +kernel
theorem dX6_built_80 : decode cX6_built 80 = .ok (.iload 4, 2) := by decide +kernel
theorem dX6_built_82 : decode cX6_built 82 = .ok (.iload 6, 2) := by decide +kernel
theorem dX6_built_84 : decode cX6_built 84 = .ok (.iadd, 1) := by decide +kernel
theorem dX6_built_85 : decode cX6_built 85 = .ok (.iload 7, 2) := by decide +kernel
theorem dX6_built_87 : decode cX6_built 87 = .ok (.iconst 3, 1) := by decide +kernel
theorem dX6_built_88 : decode cX6_built 88 = .ok (.idiv, 1) := by decide +kernel
theorem dX6_built_89 : decode cX6_built 89 = .ok (.iadd, 1) := by decide +kernel
theorem dX6_built_90 : decode cX6_built 90 = .ok (.istore 8, 2) := by decide +kernel
theorem dX6_built_92 : decode cX6_built 92 = .ok (.iinc 2 1, 3) := by decide +kernel
