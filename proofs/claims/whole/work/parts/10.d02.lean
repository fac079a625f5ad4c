theorem dX7_init_0 : decode cX7_init 0 = .ok (.aload_n 0, 1) := by decide +kernel
theorem dX7_init_1 : decode cX7_init 1 = .ok (.invokespecial 1, 3) := by decide +kernel
theorem dX7_init_4 : decode cX7_init 4 = .ok (.aload_n 0, 1) := by decide +kernel
theorem dX7_init_5 : decode cX7_init 5 = .ok (.sipush 1196, 3) := by decide +kernel
theorem dX7_init_8 : decode cX7_init 8 = .ok (.newarray .int, 2) := by decide +kernel
theorem dX7_init_10 : decode cX7_init 10 = .ok (.putfield 7, 3) := by decide +kernel
theorem dX7_init_13 : decode cX7_init 13 = .ok (.aload_n 0, 1) := by decide +kernel
theorem dX7_init_14 : decode cX7_init 14 = .ok (.iconst 5, 1) := by decide +kernel
theorem dX7_init_15 : decode cX7_init 15 = .ok (.newarray .int, 2) := by decide +kernel
theorem dX7_init_17 : decode cX7_init 17 = .ok (.putfield 13, 3) := by decide +kernel
theorem dX7_init_20 : decode cX7_init 20 = .ok (.aload_n 0, 1) := by decide +kernel
theorem dX7_init_21 : decode cX7_init 21 = .ok (.iconst 5, 1) := by decide +kernel
theorem dX7_init_22 : decode cX7_init 22 = .ok (.newarray .int, 2) := by decide +kernel
theorem dX7_init_24 : decode cX7_init 24 = .ok (.putfield 16, 3) := by decide +kernel
theorem dX7_init_27 : decode cX7_init 27 = .ok (.aload_n 0, 1) := by decide +kernel
theorem dX7_init_28 : decode cX7_init 28 = .ok (.iconst 5, 1) := by decide +kernel
theorem dX7_init_29 : decode cX7_init 29 = .ok (.newarray .int, 2) := by decide +kernel
theorem dX7_init_31 : decode cX7_init 31 = .ok (.putfield 19, 3) := by decide +kernel
theorem dX7_init_34 : decode cX7_init 34 = .ok (.aload_n 0, 1) := by decide +kernel
theorem dX7_init_35 : decode cX7_init 35 = .ok (.bipush 6, 2) := by decide +kernel
theorem dX7_init_37 : decode cX7_init 37 = .ok (.newarray .int, 2) := by decide +kernel
theorem dX7_init_39 : decode cX7_init 39 = .ok (.putfield 22, 3) := by decide +kernel
theorem dX7_init_42 : decode cX7_init 42 = .ok (.aload_n 0, 1) := by decide +kernel
theorem dX7_init_43 : decode cX7_init 43 = .ok (.bipush 6, 2) := by decide +kernel
theorem dX7_init_45 : decode cX7_init 45 = .ok (.newarray .int, 2) := by decide +kernel
theorem dX7_init_47 : decode cX7_init 47 = .ok (.putfield 25, 3) := by decide +kernel
theorem dX7_init_50 : decode cX7_init 50 = .ok (.aload_n 0, 1) := by decide +kernel
theorem dX7_init_51 : decode cX7_init 51 = .ok (.bipush 6, 2) := by decide +kernel
theorem dX7_init_53 : decode cX7_init 53 = .ok (.newarray .int, 2) := by decide +kernel
theorem dX7_init_55 : decode cX7_init 55 = .ok (.putfield 28, 3) := by decide +kernel
theorem dX7_init_58 : decode cX7_init 58 = .ok (.aload_n 0, 1) := by decide +kernel
theorem dX7_init_59 : decode cX7_init 59 = .ok (.sipush 200, 3) := by decide +kernel
theorem dX7_init_62 : decode cX7_init 62 = .ok (.newarray .int, 2) := by decide +kernel
theorem dX7_init_64 : decode cX7_init 64 = .ok (.putfield 31, 3) := by decide +kernel
theorem dX7_init_67 : decode cX7_init 67 = .ok (.aload_n 0, 1) := by decide +kernel
theorem dX7_init_68 : decode cX7_init 68 = .ok (.bipush 15, 2) := by decide +kernel
theorem dX7_init_70 : decode cX7_init 70 = .ok (.newarray .int, 2) := by decide +kernel
theorem dX7_init_72 : decode cX7_init 72 = .ok (.putfield 34, 3) := by decide +kernel
theorem dX7_init_75 : decode cX7_init 75 = .ok (.aload_n 0, 1) := by decide +kernel
theorem dX7_init_76 : decode cX7_init 76 = .ok (.bipush 25, 2) := by decide +kernel
theorem dX7_init_78 : decode cX7_init 78 = .ok (.newarray .int, 2) := by decide +kernel
theorem dX7_init_80 : decode cX7_init 80 = .ok (.putfield 37, 3) := by decide +kernel
theorem dX7_init_83 : decode cX7_init 83 = .ok (.aload_n 0, 1) := by decide +kernel
theorem dX7_init_84 : decode cX7_init 84 = .ok (.bipush 16, 2) := by decide +kernel
theorem dX7_init_86 : decode cX7_init 86 = .ok (.newarray .int, 2) := by decide +kernel
theorem dX7_init_88 : decode cX7_init 88 = .ok (.putfield 40, 3) := by decide +kernel
theorem dX7_init_91 : decode cX7_init 91 = .ok (.aload_n 0, 1) := by decide +kernel
theorem dX7_init_92 : decode cX7_init 92 = .ok (.bipush 16, 2) := by decide +kernel
theorem dX7_init_94 : decode cX7_init 94 = .ok (.newarray .int, 2) := by decide +kernel
theorem dX7_init_96 : decode cX7_init 96 = .ok (.putfield 43, 3) := by decide +kernel
theorem dX7_init_99 : decode cX7_init 99 = .ok (.aload_n 0, 1) := by decide +kernel
theorem dX7_init_100 : decode cX7_init 100 = .ok (.bipush 11, 2) := by decide +kernel
theorem dX7_init_102 : decode cX7_init 102 = .ok (.newarray .int, 2) := by decide +kernel
theorem dX7_init_104 : decode cX7_init 104 = .ok (.putfield 46, 3) := by decide +kernel
theorem dX7_init_107 : decode cX7_init 107 = .ok (.aload_n 0, 1) := by decide +kernel
theorem dX7_init_108 : decode cX7_init 108 = .ok (.bipush 11, 2) := by decide +kernel
theorem dX7_init_110 : decode cX7_init 110 = .ok (.newarray .int, 2) := by decide +kernel
theorem dX7_init_112 : decode cX7_init 112 = .ok (.putfield 49, 3) := by decide +kernel
theorem dX7_init_115 : decode cX7_init 115 = .ok (.aload_n 0, 1) := by decide +kernel
theorem dX7_init_116 : decode cX7_init 116 = .ok (.bipush 10, 2) := by decide +kernel
theorem dX7_init_118 : decode cX7_init 118 = .ok (.newarray .int, 2) := by decide +kernel
theorem dX7_init_120 : decode cX7_init 120 = .ok (.putfield 52, 3) := by decide +kernel
theorem dX7_init_123 : decode cX7_init 123 = .ok (.aload_n 0, 1) := by decide +kernel
theorem dX7_init_124 : decode cX7_init 124 = .ok (.invokevirtual 55, 3) := by decide +kernel
theorem dX7_init_127 : decode cX7_init 127 = .ok (.aload_n 0, 1) := by decide +kernel
theorem dX7_init_128 : decode cX7_init 128 = .ok (.iconst 0, 1) := by decide +kernel
theorem dX7_init_129 : decode cX7_init 129 = .ok (.bipush 12, 2) := by decide +kernel
theorem dX7_init_131 : decode cX7_init 131 = .ok (.iconst 1, 1) := by decide +kernel
theorem dX7_init_132 : decode cX7_init 132 = .ok (.invokevirtual 58, 3) := by decide +kernel
theorem dX7_init_135 : decode cX7_init 135 = .ok (.aload_n 0, 1) := by decide +kernel
theorem dX7_init_136 : decode cX7_init 136 = .ok (.iconst 1, 1) := by decide +kernel
theorem dX7_init_137 : decode cX7_init 137 = .ok (.bipush 20, 2) := by decide +kernel
theorem dX7_init_139 : decode cX7_init 139 = .ok (.iconst 0, 1) := by decide +kernel
theorem dX7_init_140 : decode cX7_init 140 = .ok (.invokevirtual 58, 3) := by decide +kernel
theorem dX7_init_143 : decode cX7_init 143 = .ok (.aload_n 0, 1) := by decide +kernel
theorem dX7_init_144 : decode cX7_init 144 = .ok (.iconst 2, 1) := by decide +kernel
theorem dX7_init_145 : decode cX7_init 145 = .ok (.bipush 8, 2) := by decide +kernel
theorem dX7_init_147 : decode cX7_init 147 = .ok (.iconst 3, 1) := by decide +kernel
theorem dX7_init_148 : decode cX7_init 148 = .ok (.invokevirtual 58, 3) := by decide +kernel
theorem dX7_init_151 : decode cX7_init 151 = .ok (.aload_n 0, 1) := by decide +kernel
theorem dX7_init_152 : decode cX7_init 152 = .ok (.iconst 3, 1) := by decide +kernel
theorem dX7_init_153 : decode cX7_init 153 = .ok (.bipush 15, 2) := by decide +kernel
theorem dX7_init_155 : decode cX7_init 155 = .ok (.iconst 2, 1) := by decide +kernel
theorem dX7_init_156 : decode cX7_init 156 = .ok (.invokevirtual 58, 3) := by decide +kernel
theorem dX7_init_159 : decode cX7_init 159 = .ok (.aload_n 0, 1) := by decide +kernel
theorem dX7_init_160 : decode cX7_init 160 = .ok (.iconst 0, 1) := by decide +kernel
theorem dX7_init_161 : decode cX7_init 161 = .ok (.bipush 30, 2) := by decide +kernel
theorem dX7_init_163 : decode cX7_init 163 = .ok (.iconst 4, 1) := by decide +kernel
theorem dX7_init_164 : decode cX7_init 164 = .ok (.invokevirtual 58, 3) := by decide +kernel
theorem dX7_init_167 : decode cX7_init 167 = .ok (.aload_n 0, 1) := by decide +kernel
theorem dX7_init_168 : decode cX7_init 168 = .ok (.getfield 37, 3) := by decide +kernel
theorem dX7_init_171 : decode cX7_init 171 = .ok (.iconst 1, 1) := by decide +kernel
theorem dX7_init_172 : decode cX7_init 172 = .ok (.bipush 9, 2) := by decide +kernel
theorem dX7_init_174 : decode cX7_init 174 = .ok (.iastore, 1) := by decide +kernel
theorem dX7_init_175 : decode cX7_init 175 = .ok (.aload_n 0, 1) := by decide +kernel
theorem dX7_init_176 : decode cX7_init 176 = .ok (.getfield 37, 3) := by decide +kernel
theorem dX7_init_179 : decode cX7_init 179 = .ok (.bipush 9, 2) := by decide +kernel
theorem dX7_init_181 : decode cX7_init 181 = .ok (.bipush 12, 2) := by decide +kernel
theorem dX7_init_183 : decode cX7_init 183 = .ok (.iastore, 1) := by decide +kernel
theorem dX7_init_184 : decode cX7_init 184 = .ok (.aload_n 0, 1) := by decide +kernel
theorem dX7_init_185 : decode cX7_init 185 = .ok (.getfield 37, 3) := by decide +kernel
theorem dX7_init_188 : decode cX7_init 188 = .ok (.bipush 22, 2) := by decide +kernel
theorem dX7_init_190 : decode cX7_init 190 = .ok (.iconst 5, 1) := by decide +kernel
theorem dX7_init_191 : decode cX7_init 191 = .ok (.iastore, 1) := by decide +kernel
theorem dX7_init_192 : decode cX7_init 192 = .ok (.aload_n 0, 1) := by decide +kernel
theorem dX7_init_193 : decode cX7_init 193 = .ok (.getfield 37, 3) := by decide +kernel
theorem dX7_init_196 : decode cX7_init 196 = .ok (.bipush 19, 2) := by decide +kernel
theorem dX7_init_198 : decode cX7_init 198 = .ok (.bipush 10, 2) := by decide +kernel
theorem dX7_init_200 : decode cX7_init 200 = .ok (.iastore, 1) := by decide +kernel
theorem dX7_init_201 : decode cX7_init 201 = .ok (.aload_n 0, 1) := by decide +kernel
theorem dX7_init_202 : decode cX7_init 202 = .ok (.getfield 37, 3) := by decide +kernel
theorem dX7_init_205 : decode cX7_init 205 = .ok (.bipush 10, 2) := by decide +kernel
theorem dX7_init_207 : decode cX7_init 207 = .ok (.bipush 6, 2) := by decide +kernel
theorem dX7_init_209 : decode cX7_init 209 = .ok (.iastore, 1) := by decide +kernel
theorem dX7_init_210 : decode cX7_init 210 = .ok (.aload_n 0, 1) := by decide +kernel
theorem dX7_init_211 : decode cX7_init 211 = .ok (.iconst 4, 1) := by decide +kernel
theorem dX7_init_212 : decode cX7_init 212 = .ok (.putfield 62, 3) := by decide +kernel
theorem dX7_init_215 : decode cX7_init 215 = .ok (.aload_n 0, 1) := by decide +kernel
theorem dX7_init_216 : decode cX7_init 216 = .ok (.invokevirtual 66, 3) := by decide +kernel
theorem dX7_init_219 : decode cX7_init 219 = .ok (.return_, 1) := by decide +kernel
theorem dX7_in_0 : decode cX7_in 0 = .ok (.lload_n 0, 1) := by decide +kernel
theorem dX7_in_1 : decode cX7_in 1 = .ok (.lload_n 2, 1) := by decide +kernel
theorem dX7_in_2 : decode cX7_in 2 = .ok (.lcmp, 1) := by decide +kernel
theorem dX7_in_3 : decode cX7_in 3 = .ok (.ifCond .lt 14, 3) := by decide +kernel
theorem dX7_in_6 : decode cX7_in 6 = .ok (.lload_n 0, 1) := by decide +kernel
theorem dX7_in_7 : decode cX7_in 7 = .ok (.lload 4, 2) := by decide +kernel
theorem dX7_in_9 : decode cX7_in 9 = .ok (.lcmp, 1) := by decide +kernel
theorem dX7_in_10 : decode cX7_in 10 = .ok (.ifCond .gt 7, 3) := by decide +kernel
theorem dX7_in_13 : decode cX7_in 13 = .ok (.iconst 1, 1) := by decide +kernel
theorem dX7_in_14 : decode cX7_in 14 = .ok (.goto 4, 3) := by decide +kernel
theorem dX7_in_17 : decode cX7_in 17 = .ok (.iconst 0, 1) := by decide +kernel
theorem dX7_in_18 : decode cX7_in 18 = .ok (.ireturn, 1) := by decide +kernel
theorem dX7_has_0 : decode cX7_has 0 = .ok (.iload_n 0, 1) := by decide +kernel
theorem dX7_has_1 : decode cX7_has 1 = .ok (.iload_n 1, 1) := by decide +kernel
theorem dX7_has_2 : decode cX7_has 2 = .ok (.ishr, 1) := by decide +kernel
theorem dX7_has_3 : decode cX7_has 3 = .ok (.iconst 1, 1) := by decide +kernel
theorem dX7_has_4 : decode cX7_has 4 = .ok (.iand, 1) := by decide +kernel
theorem dX7_has_5 : decode cX7_has 5 = .ok (.iconst 1, 1) := by decide +kernel
theorem dX7_has_6 : decode cX7_has 6 = .ok (.if_icmp .ne 7, 3) := by decide +kernel
theorem dX7_has_9 : decode cX7_has 9 = .ok (.iconst 1, 1) := by decide +kernel
theorem dX7_has_10 : decode cX7_has 10 = .ok (.goto 4, 3) := by decide +kernel
theorem dX7_has_13 : decode cX7_has 13 = .ok (.iconst 0, 1) := by decide +kernel
theorem dX7_has_14 : decode cX7_has 14 = .ok (.ireturn, 1) := by decide +kernel
theorem dX7_ones_0 : decode cX7_ones 0 = .ok (.iconst 0, 1) := by decide +kernel
theorem dX7_ones_1 : decode cX7_ones 1 = .ok (.istore_n 1, 1) := by decide +kernel
theorem dX7_ones_2 : decode cX7_ones 2 = .ok (.iconst 0, 1) := by decide +kernel
theorem dX7_ones_3 : decode cX7_ones 3 = .ok (.istore_n 2, 1) := by decide +kernel
theorem dX7_ones_4 : decode cX7_ones 4 = .ok (.iload_n 2, 1) := by decide +kernel
theorem dX7_ones_5 : decode cX7_ones 5 = .ok (.iconst 5, 1) := by decide +kernel
theorem dX7_ones_6 : decode cX7_ones 6 = .ok (.if_icmp .ge 17, 3) := by decide +kernel
theorem dX7_ones_9 : decode cX7_ones 9 = .ok (.iload_n 1, 1) := by decide +kernel
theorem dX7_ones_10 : decode cX7_ones 10 = .ok (.iload_n 0, 1) := by decide +kernel
theorem dX7_ones_11 : decode cX7_ones 11 = .ok (.iload_n 2, 1) := by decide +kernel
theorem dX7_ones_12 : decode cX7_ones 12 = .ok (.ishr, 1) := by decide +kernel
theorem dX7_ones_13 : decode cX7_ones 13 = .ok (.iconst 1, 1) := by decide +kernel
theorem dX7_ones_14 : decode cX7_ones 14 = .ok (.iand, 1) := by decide +kernel
theorem dX7_ones_15 : decode cX7_ones 15 = .ok (.iadd, 1) := by decide +kernel
theorem dX7_ones_16 : decode cX7_ones 16 = .ok (.istore_n 1, 1) := by decide +kernel
theorem dX7_ones_17 : decode cX7_ones 17 = .ok (.iinc 2 1, 3) := by decide +kernel
theorem dX7_ones_20 : decode cX7_ones 20 = .ok (.goto (-16), 3) := by decide +kernel
theorem dX7_ones_23 : decode cX7_ones 23 = .ok (.iload_n 1, 1) := by decide +kernel
theorem dX7_ones_24 : decode cX7_ones 24 = .ok (.ireturn, 1) := by decide +kernel
theorem dX7_copy_0 : decode cX7_copy 0 = .ok (.iconst 0, 1) := by decide +kernel
theorem dX7_copy_1 : decode cX7_copy 1 = .ok (.istore_n 3, 1) := by decide +kernel
theorem dX7_copy_2 : decode cX7_copy 2 = .ok (.iload_n 3, 1) := by decide +kernel
theorem dX7_copy_3 : decode cX7_copy 3 = .ok (.bipush 52, 2) := by decide +kernel
theorem dX7_copy_5 : decode cX7_copy 5 = .ok (.if_icmp .ge 25, 3) := by decide +kernel
theorem dX7_copy_8 : decode cX7_copy 8 = .ok (.aload_n 0, 1) := by decide +kernel
theorem dX7_copy_9 : decode cX7_copy 9 = .ok (.getfield 7, 3) := by decide +kernel
theorem dX7_copy_12 : decode cX7_copy 12 = .ok (.iload_n 2, 1) := by decide +kernel
theorem dX7_copy_13 : decode cX7_copy 13 = .ok (.iload_n 3, 1) := by decide +kernel
theorem dX7_copy_14 : decode cX7_copy 14 = .ok (.iadd, 1) := by decide +kernel
theorem dX7_copy_15 : decode cX7_copy 15 = .ok (.aload_n 0, 1) := by decide +kernel
theorem dX7_copy_16 : decode cX7_copy 16 = .ok (.getfield 7, 3) := by decide +kernel
theorem dX7_copy_19 : decode cX7_copy 19 = .ok (.iload_n 1, 1) := by decide +kernel
theorem dX7_copy_20 : decode cX7_copy 20 = .ok (.iload_n 3, 1) := by decide +kernel
theorem dX7_copy_21 : decode cX7_copy 21 = .ok (.iadd, 1) := by decide +kernel
theorem dX7_copy_22 : decode cX7_copy 22 = .ok (.iaload, 1) := by decide +kernel
theorem dX7_copy_23 : decode cX7_copy 23 = .ok (.iastore, 1) := by decide +kernel
theorem dX7_copy_24 : decode cX7_copy 24 = .ok (.iinc 3 1, 3) := by decide +kernel
theorem dX7_copy_27 : decode cX7_copy 27 = .ok (.goto (-25), 3) := by decide +kernel
theorem dX7_copy_30 : decode cX7_copy 30 = .ok (.return_, 1) := by decide +kernel
theorem dX7_isWall_0 : decode cX7_isWall 0 = .ok (.iload_n 1, 1) := by decide +kernel
theorem dX7_isWall_1 : decode cX7_isWall 1 = .ok (.i2l, 1) := by decide +kernel
theorem dX7_isWall_2 : decode cX7_isWall 2 = .ok (.lconst 0, 1) := by decide +kernel
theorem dX7_isWall_3 : decode cX7_isWall 3 = .ok (.aload_n 0, 1) := by decide +kernel
theorem dX7_isWall_4 : decode cX7_isWall 4 = .ok (.getfield 69, 3) := by decide +kernel
theorem dX7_isWall_7 : decode cX7_isWall 7 = .ok (.iconst 1, 1) := by decide +kernel
theorem dX7_isWall_8 : decode cX7_isWall 8 = .ok (.isub, 1) := by decide +kernel
theorem dX7_isWall_9 : decode cX7_isWall 9 = .ok (.i2l, 1) := by decide +kernel
theorem dX7_isWall_10 : decode cX7_isWall 10 = .ok (.invokestatic 72, 3) := by decide +kernel
theorem dX7_isWall_13 : decode cX7_isWall 13 = .ok (.ireturn, 1) := by decide +kernel
theorem dX7_starts_0 : decode cX7_starts 0 = .ok (.aload_n 0, 1) := by decide +kernel
theorem dX7_starts_1 : decode cX7_starts 1 = .ok (.iconst 0, 1) := by decide +kernel
theorem dX7_starts_2 : decode cX7_starts 2 = .ok (.putfield 76, 3) := by decide +kernel
theorem dX7_starts_5 : decode cX7_starts 5 = .ok (.aload_n 0, 1) := by decide +kernel
theorem dX7_starts_6 : decode cX7_starts 6 = .ok (.iconst 0, 1) := by decide +kernel
theorem dX7_starts_7 : decode cX7_starts 7 = .ok (.putfield 62, 3) := by decide +kernel
theorem dX7_starts_10 : decode cX7_starts 10 = .ok (.iconst 0, 1) := by decide +kernel
theorem dX7_starts_11 : decode cX7_starts 11 = .ok (.istore_n 1, 1) := by decide +kernel
theorem dX7_starts_12 : decode cX7_starts 12 = .ok (.iload_n 1, 1) := by decide +kernel
theorem dX7_starts_13 : decode cX7_starts 13 = .ok (.bipush 25, 2) := by decide +kernel
theorem dX7_starts_15 : decode cX7_starts 15 = .ok (.if_icmp .ge 16, 3) := by decide +kernel
theorem dX7_starts_18 : decode cX7_starts 18 = .ok (.aload_n 0, 1) := by decide +kernel
theorem dX7_starts_19 : decode cX7_starts 19 = .ok (.getfield 37, 3) := by decide +kernel
theorem dX7_starts_22 : decode cX7_starts 22 = .ok (.iload_n 1, 1) := by decide +kernel
theorem dX7_starts_23 : decode cX7_starts 23 = .ok (.iconst 0, 1) := by decide +kernel
theorem dX7_starts_24 : decode cX7_starts 24 = .ok (.iastore, 1) := by decide +kernel
theorem dX7_starts_25 : decode cX7_starts 25 = .ok (.iinc 1 1, 3) := by decide +kernel
theorem dX7_starts_28 : decode cX7_starts 28 = .ok (.goto (-16), 3) := by decide +kernel
theorem dX7_starts_31 : decode cX7_starts 31 = .ok (.return_, 1) := by decide +kernel
theorem dX7_addsWall_0 : decode cX7_addsWall 0 = .ok (.aload_n 0, 1) := by decide +kernel
theorem dX7_addsWall_1 : decode cX7_addsWall 1 = .ok (.getfield 34, 3) := by decide +kernel
theorem dX7_addsWall_4 : decode cX7_addsWall 4 = .ok (.iconst 3, 1) := by decide +kernel
theorem dX7_addsWall_5 : decode cX7_addsWall 5 = .ok (.aload_n 0, 1) := by decide +kernel
theorem dX7_addsWall_6 : decode cX7_addsWall 6 = .ok (.getfield 76, 3) := by decide +kernel
theorem dX7_addsWall_9 : decode cX7_addsWall 9 = .ok (.imul, 1) := by decide +kernel
theorem dX7_addsWall_10 : decode cX7_addsWall 10 = .ok (.iload_n 1, 1) := by decide +kernel
theorem dX7_addsWall_11 : decode cX7_addsWall 11 = .ok (.iastore, 1) := by decide +kernel
theorem dX7_addsWall_12 : decode cX7_addsWall 12 = .ok (.aload_n 0, 1) := by decide +kernel
theorem dX7_addsWall_13 : decode cX7_addsWall 13 = .ok (.getfield 34, 3) := by decide +kernel
theorem dX7_addsWall_16 : decode cX7_addsWall 16 = .ok (.iconst 3, 1) := by decide +kernel
theorem dX7_addsWall_17 : decode cX7_addsWall 17 = .ok (.aload_n 0, 1) := by decide +kernel
theorem dX7_addsWall_18 : decode cX7_addsWall 18 = .ok (.getfield 76, 3) := by decide +kernel
theorem dX7_addsWall_21 : decode cX7_addsWall 21 = .ok (.imul, 1) := by decide +kernel
theorem dX7_addsWall_22 : decode cX7_addsWall 22 = .ok (.iconst 1, 1) := by decide +kernel
theorem dX7_addsWall_23 : decode cX7_addsWall 23 = .ok (.iadd, 1) := by decide +kernel
theorem dX7_addsWall_24 : decode cX7_addsWall 24 = .ok (.iload_n 2, 1) := by decide +kernel
theorem dX7_addsWall_25 : decode cX7_addsWall 25 = .ok (.iastore, 1) := by decide +kernel
theorem dX7_addsWall_26 : decode cX7_addsWall 26 = .ok (.aload_n 0, 1) := by decide +kernel
theorem dX7_addsWall_27 : decode cX7_addsWall 27 = .ok (.getfield 34, 3) := by decide +kernel
theorem dX7_addsWall_30 : decode cX7_addsWall 30 = .ok (.iconst 3, 1) := by decide +kernel
theorem dX7_addsWall_31 : decode cX7_addsWall 31 = .ok (.aload_n 0, 1) := by decide +kernel
theorem dX7_addsWall_32 : decode cX7_addsWall 32 = .ok (.getfield 76, 3) := by decide +kernel
theorem dX7_addsWall_35 : decode cX7_addsWall 35 = .ok (.imul, 1) := by decide +kernel
theorem dX7_addsWall_36 : decode cX7_addsWall 36 = .ok (.iconst 2, 1) := by decide +kernel
theorem dX7_addsWall_37 : decode cX7_addsWall 37 = .ok (.iadd, 1) := by decide +kernel
theorem dX7_addsWall_38 : decode cX7_addsWall 38 = .ok (.iload_n 3, 1) := by decide +kernel
theorem dX7_addsWall_39 : decode cX7_addsWall 39 = .ok (.iastore, 1) := by decide +kernel
theorem dX7_addsWall_40 : decode cX7_addsWall 40 = .ok (.aload_n 0, 1) := by decide +kernel
theorem dX7_addsWall_41 : decode cX7_addsWall 41 = .ok (.dup, 1) := by decide +kernel
theorem dX7_addsWall_42 : decode cX7_addsWall 42 = .ok (.getfield 76, 3) := by decide +kernel
theorem dX7_addsWall_45 : decode cX7_addsWall 45 = .ok (.iconst 1, 1) := by decide +kernel
theorem dX7_addsWall_46 : decode cX7_addsWall 46 = .ok (.iadd, 1) := by decide +kernel
theorem dX7_addsWall_47 : decode cX7_addsWall 47 = .ok (.putfield 76, 3) := by decide +kernel
theorem dX7_addsWall_50 : decode cX7_addsWall 50 = .ok (.return_, 1) := by decide +kernel
theorem dX7_begins_0 : decode cX7_begins 0 = .ok (.aload_n 0, 1) := by decide +kernel
theorem dX7_begins_1 : decode cX7_begins 1 = .ok (.aload_n 0, 1) := by decide +kernel
theorem dX7_begins_2 : decode cX7_begins 2 = .ok (.getfield 76, 3) := by decide +kernel
theorem dX7_begins_5 : decode cX7_begins 5 = .ok (.putfield 69, 3) := by decide +kernel
theorem dX7_begins_8 : decode cX7_begins 8 = .ok (.iconst 0, 1) := by decide +kernel
theorem dX7_begins_9 : decode cX7_begins 9 = .ok (.istore_n 1, 1) := by decide +kernel
theorem dX7_begins_10 : decode cX7_begins 10 = .ok (.iload_n 1, 1) := by decide +kernel
theorem dX7_begins_11 : decode cX7_begins 11 = .ok (.bipush 52, 2) := by decide +kernel
theorem dX7_begins_13 : decode cX7_begins 13 = .ok (.if_icmp .ge 16, 3) := by decide +kernel
theorem dX7_begins_16 : decode cX7_begins 16 = .ok (.aload_n 0, 1) := by decide +kernel
theorem dX7_begins_17 : decode cX7_begins 17 = .ok (.getfield 7, 3) := by decide +kernel
theorem dX7_begins_20 : decode cX7_begins 20 = .ok (.iload_n 1, 1) := by decide +kernel
theorem dX7_begins_21 : decode cX7_begins 21 = .ok (.iconst 0, 1) := by decide +kernel
theorem dX7_begins_22 : decode cX7_begins 22 = .ok (.iastore, 1) := by decide +kernel
theorem dX7_begins_23 : decode cX7_begins 23 = .ok (.iinc 1 1, 3) := by decide +kernel
theorem dX7_begins_26 : decode cX7_begins 26 = .ok (.goto (-16), 3) := by decide +kernel
theorem dX7_begins_29 : decode cX7_begins 29 = .ok (.iconst 0, 1) := by decide +kernel
theorem dX7_begins_30 : decode cX7_begins 30 = .ok (.istore_n 1, 1) := by decide +kernel
theorem dX7_begins_31 : decode cX7_begins 31 = .ok (.iload_n 1, 1) := by decide +kernel
theorem dX7_begins_32 : decode cX7_begins 32 = .ok (.aload_n 0, 1) := by decide +kernel
theorem dX7_begins_33 : decode cX7_begins 33 = .ok (.getfield 69, 3) := by decide +kernel
theorem dX7_begins_36 : decode cX7_begins 36 = .ok (.if_icmp .ge 69, 3) := by decide +kernel
theorem dX7_begins_39 : decode cX7_begins 39 = .ok (.aload_n 0, 1) := by decide +kernel
theorem dX7_begins_40 : decode cX7_begins 40 = .ok (.getfield 13, 3) := by decide +kernel
theorem dX7_begins_43 : decode cX7_begins 43 = .ok (.iload_n 1, 1) := by decide +kernel
theorem dX7_begins_44 : decode cX7_begins 44 = .ok (.aload_n 0, 1) := by decide +kernel
theorem dX7_begins_45 : decode cX7_begins 45 = .ok (.getfield 34, 3) := by decide +kernel
theorem dX7_begins_48 : decode cX7_begins 48 = .ok (.iconst 3, 1) := by decide +kernel
theorem dX7_begins_49 : decode cX7_begins 49 = .ok (.iload_n 1, 1) := by decide +kernel
theorem dX7_begins_50 : decode cX7_begins 50 = .ok (.imul, 1) := by decide +kernel
theorem dX7_begins_51 : decode cX7_begins 51 = .ok (.iaload, 1) := by decide +kernel
theorem dX7_begins_52 : decode cX7_begins 52 = .ok (.iastore, 1) := by decide +kernel
theorem dX7_begins_53 : decode cX7_begins 53 = .ok (.aload_n 0, 1) := by decide +kernel
theorem dX7_begins_54 : decode cX7_begins 54 = .ok (.getfield 16, 3) := by decide +kernel
theorem dX7_begins_57 : decode cX7_begins 57 = .ok (.iload_n 1, 1) := by decide +kernel
theorem dX7_begins_58 : decode cX7_begins 58 = .ok (.aload_n 0, 1) := by decide +kernel
theorem dX7_begins_59 : decode cX7_begins 59 = .ok (.getfield 34, 3) := by decide +kernel
theorem dX7_begins_62 : decode cX7_begins 62 = .ok (.iconst 3, 1) := by decide +kernel
theorem dX7_begins_63 : decode cX7_begins 63 = .ok (.iload_n 1, 1) := by decide +kernel
theorem dX7_begins_64 : decode cX7_begins 64 = .ok (.imul, 1) := by decide +kernel
theorem dX7_begins_65 : decode cX7_begins 65 = .ok (.iconst 1, 1) := by decide +kernel
theorem dX7_begins_66 : decode cX7_begins 66 = .ok (.iadd, 1) := by decide +kernel
theorem dX7_begins_67 : decode cX7_begins 67 = .ok (.iaload, 1) := by decide +kernel
theorem dX7_begins_68 : decode cX7_begins 68 = .ok (.iastore, 1) := by decide +kernel
theorem dX7_begins_69 : decode cX7_begins 69 = .ok (.aload_n 0, 1) := by decide +kernel
theorem dX7_begins_70 : decode cX7_begins 70 = .ok (.getfield 19, 3) := by decide +kernel
theorem dX7_begins_73 : decode cX7_begins 73 = .ok (.iload_n 1, 1) := by decide +kernel
theorem dX7_begins_74 : decode cX7_begins 74 = .ok (.aload_n 0, 1) := by decide +kernel
theorem dX7_begins_75 : decode cX7_begins 75 = .ok (.getfield 34, 3) := by decide +kernel
theorem dX7_begins_78 : decode cX7_begins 78 = .ok (.iconst 3, 1) := by decide +kernel
theorem dX7_begins_79 : decode cX7_begins 79 = .ok (.iload_n 1, 1) := by decide +kernel
theorem dX7_begins_80 : decode cX7_begins 80 = .ok (.imul, 1) := by decide +kernel
theorem dX7_begins_81 : decode cX7_begins 81 = .ok (.iconst 2, 1) := by decide +kernel
theorem dX7_begins_82 : decode cX7_begins 82 = .ok (.iadd, 1) := by decide +kernel
theorem dX7_begins_83 : decode cX7_begins 83 = .ok (.iaload, 1) := by decide +kernel
theorem dX7_begins_84 : decode cX7_begins 84 = .ok (.iastore, 1) := by decide +kernel
theorem dX7_begins_85 : decode cX7_begins 85 = .ok (.aload_n 0, 1) := by decide +kernel
theorem dX7_begins_86 : decode cX7_begins 86 = .ok (.getfield 7, 3) := by decide +kernel
theorem dX7_begins_89 : decode cX7_begins 89 = .ok (.iconst 2, 1) := by decide +kernel
theorem dX7_begins_90 : decode cX7_begins 90 = .ok (.iload_n 1, 1) := by decide +kernel
theorem dX7_begins_91 : decode cX7_begins 91 = .ok (.iadd, 1) := by decide +kernel
theorem dX7_begins_92 : decode cX7_begins 92 = .ok (.aload_n 0, 1) := by decide +kernel
theorem dX7_begins_93 : decode cX7_begins 93 = .ok (.getfield 16, 3) := by decide +kernel
theorem dX7_begins_96 : decode cX7_begins 96 = .ok (.iload_n 1, 1) := by decide +kernel
theorem dX7_begins_97 : decode cX7_begins 97 = .ok (.iaload, 1) := by decide +kernel
theorem dX7_begins_98 : decode cX7_begins 98 = .ok (.iastore, 1) := by decide +kernel
theorem dX7_begins_99 : decode cX7_begins 99 = .ok (.iinc 1 1, 3) := by decide +kernel
theorem dX7_begins_102 : decode cX7_begins 102 = .ok (.goto (-71), 3) := by decide +kernel
theorem dX7_begins_105 : decode cX7_begins 105 = .ok (.iconst 0, 1) := by decide +kernel
theorem dX7_begins_106 : decode cX7_begins 106 = .ok (.istore_n 1, 1) := by decide +kernel
theorem dX7_begins_107 : decode cX7_begins 107 = .ok (.iload_n 1, 1) := by decide +kernel
theorem dX7_begins_108 : decode cX7_begins 108 = .ok (.bipush 25, 2) := by decide +kernel
theorem dX7_begins_110 : decode cX7_begins 110 = .ok (.if_icmp .ge 24, 3) := by decide +kernel
theorem dX7_begins_113 : decode cX7_begins 113 = .ok (.aload_n 0, 1) := by decide +kernel
theorem dX7_begins_114 : decode cX7_begins 114 = .ok (.getfield 7, 3) := by decide +kernel
theorem dX7_begins_117 : decode cX7_begins 117 = .ok (.bipush 27, 2) := by decide +kernel
theorem dX7_begins_119 : decode cX7_begins 119 = .ok (.iload_n 1, 1) := by decide +kernel
theorem dX7_begins_120 : decode cX7_begins 120 = .ok (.iadd, 1) := by decide +kernel
theorem dX7_begins_121 : decode cX7_begins 121 = .ok (.aload_n 0, 1) := by decide +kernel
theorem dX7_begins_122 : decode cX7_begins 122 = .ok (.getfield 37, 3) := by decide +kernel
theorem dX7_begins_125 : decode cX7_begins 125 = .ok (.iload_n 1, 1) := by decide +kernel
theorem dX7_begins_126 : decode cX7_begins 126 = .ok (.iaload, 1) := by decide +kernel
theorem dX7_begins_127 : decode cX7_begins 127 = .ok (.iastore, 1) := by decide +kernel
theorem dX7_begins_128 : decode cX7_begins 128 = .ok (.iinc 1 1, 3) := by decide +kernel
theorem dX7_begins_131 : decode cX7_begins 131 = .ok (.goto (-24), 3) := by decide +kernel
theorem dX7_begins_134 : decode cX7_begins 134 = .ok (.aload_n 0, 1) := by decide +kernel
theorem dX7_begins_135 : decode cX7_begins 135 = .ok (.getfield 7, 3) := by decide +kernel
theorem dX7_begins_138 : decode cX7_begins 138 = .ok (.iconst 0, 1) := by decide +kernel
theorem dX7_begins_139 : decode cX7_begins 139 = .ok (.aload_n 0, 1) := by decide +kernel
theorem dX7_begins_140 : decode cX7_begins 140 = .ok (.getfield 62, 3) := by decide +kernel
theorem dX7_begins_143 : decode cX7_begins 143 = .ok (.iastore, 1) := by decide +kernel
theorem dX7_begins_144 : decode cX7_begins 144 = .ok (.aload_n 0, 1) := by decide +kernel
theorem dX7_begins_145 : decode cX7_begins 145 = .ok (.iconst 0, 1) := by decide +kernel
theorem dX7_begins_146 : decode cX7_begins 146 = .ok (.putfield 79, 3) := by decide +kernel
theorem dX7_begins_149 : decode cX7_begins 149 = .ok (.aload_n 0, 1) := by decide +kernel
theorem dX7_begins_150 : decode cX7_begins 150 = .ok (.iconst 0, 1) := by decide +kernel
theorem dX7_begins_151 : decode cX7_begins 151 = .ok (.putfield 82, 3) := by decide +kernel
theorem dX7_begins_154 : decode cX7_begins 154 = .ok (.aload_n 0, 1) := by decide +kernel
theorem dX7_begins_155 : decode cX7_begins 155 = .ok (.iconst 0, 1) := by decide +kernel
theorem dX7_begins_156 : decode cX7_begins 156 = .ok (.putfield 85, 3) := by decide +kernel
theorem dX7_begins_159 : decode cX7_begins 159 = .ok (.return_, 1) := by decide +kernel
theorem dX7_write_0 : decode cX7_write 0 = .ok (.iload_n 1, 1) := by decide +kernel
theorem dX7_write_1 : decode cX7_write 1 = .ok (.i2l, 1) := by decide +kernel
theorem dX7_write_2 : decode cX7_write 2 = .ok (.ldc2_w 88, 3) := by decide +kernel
theorem dX7_write_5 : decode cX7_write 5 = .ok (.ldc2_w 90, 3) := by decide +kernel
theorem dX7_write_8 : decode cX7_write 8 = .ok (.invokestatic 72, 3) := by decide +kernel
theorem dX7_write_11 : decode cX7_write 11 = .ok (.ifCond .ne 5, 3) := by decide +kernel
theorem dX7_write_14 : decode cX7_write 14 = .ok (.iconst (-1), 1) := by decide +kernel
theorem dX7_write_15 : decode cX7_write 15 = .ok (.ireturn, 1) := by decide +kernel
theorem dX7_write_16 : decode cX7_write 16 = .ok (.aload_n 0, 1) := by decide +kernel
theorem dX7_write_17 : decode cX7_write 17 = .ok (.getfield 92, 3) := by decide +kernel
theorem dX7_write_20 : decode cX7_write 20 = .ok (.sipush 200, 3) := by decide +kernel
theorem dX7_write_23 : decode cX7_write 23 = .ok (.if_icmp .ne 6, 3) := by decide +kernel
theorem dX7_write_26 : decode cX7_write 26 = .ok (.bipush (-3), 2) := by decide +kernel
theorem dX7_write_28 : decode cX7_write 28 = .ok (.ireturn, 1) := by decide +kernel
theorem dX7_write_29 : decode cX7_write 29 = .ok (.aload_n 0, 1) := by decide +kernel
theorem dX7_write_30 : decode cX7_write 30 = .ok (.getfield 31, 3) := by decide +kernel
theorem dX7_write_33 : decode cX7_write 33 = .ok (.aload_n 0, 1) := by decide +kernel
theorem dX7_write_34 : decode cX7_write 34 = .ok (.getfield 92, 3) := by decide +kernel
theorem dX7_write_37 : decode cX7_write 37 = .ok (.iload_n 1, 1) := by decide +kernel
theorem dX7_write_38 : decode cX7_write 38 = .ok (.iastore, 1) := by decide +kernel
theorem dX7_write_39 : decode cX7_write 39 = .ok (.aload_n 0, 1) := by decide +kernel
theorem dX7_write_40 : decode cX7_write 40 = .ok (.dup, 1) := by decide +kernel
theorem dX7_write_41 : decode cX7_write 41 = .ok (.getfield 92, 3) := by decide +kernel
theorem dX7_write_44 : decode cX7_write 44 = .ok (.iconst 1, 1) := by decide +kernel
theorem dX7_write_45 : decode cX7_write 45 = .ok (.iadd, 1) := by decide +kernel
theorem dX7_write_46 : decode cX7_write 46 = .ok (.putfield 92, 3) := by decide +kernel
theorem dX7_write_49 : decode cX7_write 49 = .ok (.aload_n 0, 1) := by decide +kernel
theorem dX7_write_50 : decode cX7_write 50 = .ok (.getfield 92, 3) := by decide +kernel
theorem dX7_write_53 : decode cX7_write 53 = .ok (.ireturn, 1) := by decide +kernel
theorem dX7_wipe_0 : decode cX7_wipe 0 = .ok (.aload_n 0, 1) := by decide +kernel
theorem dX7_wipe_1 : decode cX7_wipe 1 = .ok (.getfield 92, 3) := by decide +kernel
theorem dX7_wipe_4 : decode cX7_wipe 4 = .ok (.istore_n 1, 1) := by decide +kernel
theorem dX7_wipe_5 : decode cX7_wipe 5 = .ok (.aload_n 0, 1) := by decide +kernel
theorem dX7_wipe_6 : decode cX7_wipe 6 = .ok (.iconst 0, 1) := by decide +kernel
theorem dX7_wipe_7 : decode cX7_wipe 7 = .ok (.putfield 92, 3) := by decide +kernel
theorem dX7_wipe_10 : decode cX7_wipe 10 = .ok (.iload_n 1, 1) := by decide +kernel
theorem dX7_wipe_11 : decode cX7_wipe 11 = .ok (.ireturn, 1) := by decide +kernel
theorem dX7_letterAt_0 : decode cX7_letterAt 0 = .ok (.iload_n 1, 1) := by decide +kernel
theorem dX7_letterAt_1 : decode cX7_letterAt 1 = .ok (.aload_n 0, 1) := by decide +kernel
theorem dX7_letterAt_2 : decode cX7_letterAt 2 = .ok (.getfield 92, 3) := by decide +kernel
theorem dX7_letterAt_5 : decode cX7_letterAt 5 = .ok (.if_icmp .ge 12, 3) := by decide +kernel
theorem dX7_letterAt_8 : decode cX7_letterAt 8 = .ok (.aload_n 0, 1) := by decide +kernel
theorem dX7_letterAt_9 : decode cX7_letterAt 9 = .ok (.getfield 31, 3) := by decide +kernel
theorem dX7_letterAt_12 : decode cX7_letterAt 12 = .ok (.iload_n 1, 1) := by decide +kernel
theorem dX7_letterAt_13 : decode cX7_letterAt 13 = .ok (.iaload, 1) := by decide +kernel
theorem dX7_letterAt_14 : decode cX7_letterAt 14 = .ok (.goto 4, 3) := by decide +kernel
theorem dX7_letterAt_17 : decode cX7_letterAt 17 = .ok (.iconst (-1), 1) := by decide +kernel
theorem dX7_letterAt_18 : decode cX7_letterAt 18 = .ok (.ireturn, 1) := by decide +kernel
theorem dX7_takesNumber_0 : decode cX7_takesNumber 0 = .ok (.aload_n 0, 1) := by decide +kernel
theorem dX7_takesNumber_1 : decode cX7_takesNumber 1 = .ok (.getfield 95, 3) := by decide +kernel
theorem dX7_takesNumber_4 : decode cX7_takesNumber 4 = .ok (.istore 4, 2) := by decide +kernel
theorem dX7_takesNumber_6 : decode cX7_takesNumber 6 = .ok (.aload_n 0, 1) := by decide +kernel
theorem dX7_takesNumber_7 : decode cX7_takesNumber 7 = .ok (.iconst 0, 1) := by decide +kernel
theorem dX7_takesNumber_8 : decode cX7_takesNumber 8 = .ok (.putfield 98, 3) := by decide +kernel
theorem dX7_takesNumber_11 : decode cX7_takesNumber 11 = .ok (.aload_n 0, 1) := by decide +kernel
theorem dX7_takesNumber_12 : decode cX7_takesNumber 12 = .ok (.getfield 95, 3) := by decide +kernel
theorem dX7_takesNumber_15 : decode cX7_takesNumber 15 = .ok (.iload 4, 2) := by decide +kernel
theorem dX7_takesNumber_17 : decode cX7_takesNumber 17 = .ok (.isub, 1) := by decide +kernel
theorem dX7_takesNumber_18 : decode cX7_takesNumber 18 = .ok (.iconst 2, 1) := by decide +kernel
theorem dX7_takesNumber_19 : decode cX7_takesNumber 19 = .ok (.if_icmp .ge 60, 3) := by decide +kernel
theorem dX7_takesNumber_22 : decode cX7_takesNumber 22 = .ok (.aload_n 0, 1) := by decide +kernel
theorem dX7_takesNumber_23 : decode cX7_takesNumber 23 = .ok (.aload_n 0, 1) := by decide +kernel
theorem dX7_takesNumber_24 : decode cX7_takesNumber 24 = .ok (.getfield 95, 3) := by decide +kernel
theorem dX7_takesNumber_27 : decode cX7_takesNumber 27 = .ok (.invokevirtual 101, 3) := by decide +kernel
theorem dX7_takesNumber_30 : decode cX7_takesNumber 30 = .ok (.i2l, 1) := by decide +kernel
theorem dX7_takesNumber_31 : decode cX7_takesNumber 31 = .ok (.ldc2_w 105, 3) := by decide +kernel
theorem dX7_takesNumber_34 : decode cX7_takesNumber 34 = .ok (.ldc2_w 107, 3) := by decide +kernel
theorem dX7_takesNumber_37 : decode cX7_takesNumber 37 = .ok (.invokestatic 72, 3) := by decide +kernel
theorem dX7_takesNumber_40 : decode cX7_takesNumber 40 = .ok (.ifCond .eq 39, 3) := by decide +kernel
theorem dX7_takesNumber_43 : decode cX7_takesNumber 43 = .ok (.aload_n 0, 1) := by decide +kernel
theorem dX7_takesNumber_44 : decode cX7_takesNumber 44 = .ok (.bipush 10, 2) := by decide +kernel
theorem dX7_takesNumber_46 : decode cX7_takesNumber 46 = .ok (.aload_n 0, 1) := by decide +kernel
theorem dX7_takesNumber_47 : decode cX7_takesNumber 47 = .ok (.getfield 98, 3) := by decide +kernel
theorem dX7_takesNumber_50 : decode cX7_takesNumber 50 = .ok (.imul, 1) := by decide +kernel
theorem dX7_takesNumber_51 : decode cX7_takesNumber 51 = .ok (.aload_n 0, 1) := by decide +kernel
theorem dX7_takesNumber_52 : decode cX7_takesNumber 52 = .ok (.aload_n 0, 1) := by decide +kernel
theorem dX7_takesNumber_53 : decode cX7_takesNumber 53 = .ok (.getfield 95, 3) := by decide +kernel
theorem dX7_takesNumber_56 : decode cX7_takesNumber 56 = .ok (.invokevirtual 101, 3) := by decide +kernel
theorem dX7_takesNumber_59 : decode cX7_takesNumber 59 = .ok (.iadd, 1) := by decide +kernel
theorem dX7_takesNumber_60 : decode cX7_takesNumber 60 = .ok (.bipush 48, 2) := by decide +kernel
theorem dX7_takesNumber_62 : decode cX7_takesNumber 62 = .ok (.isub, 1) := by decide +kernel
theorem dX7_takesNumber_63 : decode cX7_takesNumber 63 = .ok (.putfield 98, 3) := by decide +kernel
theorem dX7_takesNumber_66 : decode cX7_takesNumber 66 = .ok (.aload_n 0, 1) := by decide +kernel
theorem dX7_takesNumber_67 : decode cX7_takesNumber 67 = .ok (.dup, 1) := by decide +kernel
theorem dX7_takesNumber_68 : decode cX7_takesNumber 68 = .ok (.getfield 95, 3) := by decide +kernel
theorem dX7_takesNumber_71 : decode cX7_takesNumber 71 = .ok (.iconst 1, 1) := by decide +kernel
theorem dX7_takesNumber_72 : decode cX7_takesNumber 72 = .ok (.iadd, 1) := by decide +kernel
theorem dX7_takesNumber_73 : decode cX7_takesNumber 73 = .ok (.putfield 95, 3) := by decide +kernel
theorem dX7_takesNumber_76 : decode cX7_takesNumber 76 = .ok (.goto (-65), 3) := by decide +kernel
theorem dX7_takesNumber_79 : decode cX7_takesNumber 79 = .ok (.aload_n 0, 1) := by decide +kernel
theorem dX7_takesNumber_80 : decode cX7_takesNumber 80 = .ok (.getfield 95, 3) := by decide +kernel
theorem dX7_takesNumber_83 : decode cX7_takesNumber 83 = .ok (.iload 4, 2) := by decide +kernel
theorem dX7_takesNumber_85 : decode cX7_takesNumber 85 = .ok (.if_icmp .eq 30, 3) := by decide +kernel
theorem dX7_takesNumber_88 : decode cX7_takesNumber 88 = .ok (.aload_n 0, 1) := by decide +kernel
theorem dX7_takesNumber_89 : decode cX7_takesNumber 89 = .ok (.getfield 98, 3) := by decide +kernel
theorem dX7_takesNumber_92 : decode cX7_takesNumber 92 = .ok (.i2l, 1) := by decide +kernel
theorem dX7_takesNumber_93 : decode cX7_takesNumber 93 = .ok (.iload_n 1, 1) := by decide +kernel
theorem dX7_takesNumber_94 : decode cX7_takesNumber 94 = .ok (.i2l, 1) := by decide +kernel
theorem dX7_takesNumber_95 : decode cX7_takesNumber 95 = .ok (.iload_n 2, 1) := by decide +kernel
theorem dX7_takesNumber_96 : decode cX7_takesNumber 96 = .ok (.i2l, 1) := by decide +kernel
theorem dX7_takesNumber_97 : decode cX7_takesNumber 97 = .ok (.invokestatic 72, 3) := by decide +kernel
theorem dX7_takesNumber_100 : decode cX7_takesNumber 100 = .ok (.ifCond .eq 15, 3) := by decide +kernel
theorem dX7_takesNumber_103 : decode cX7_takesNumber 103 = .ok (.aload_n 0, 1) := by decide +kernel
theorem dX7_takesNumber_104 : decode cX7_takesNumber 104 = .ok (.aload_n 0, 1) := by decide +kernel
theorem dX7_takesNumber_105 : decode cX7_takesNumber 105 = .ok (.getfield 95, 3) := by decide +kernel
theorem dX7_takesNumber_108 : decode cX7_takesNumber 108 = .ok (.invokevirtual 101, 3) := by decide +kernel
theorem dX7_takesNumber_111 : decode cX7_takesNumber 111 = .ok (.iload_n 3, 1) := by decide +kernel
theorem dX7_takesNumber_112 : decode cX7_takesNumber 112 = .ok (.if_icmp .eq 5, 3) := by decide +kernel
theorem dX7_takesNumber_115 : decode cX7_takesNumber 115 = .ok (.iconst 0, 1) := by decide +kernel
theorem dX7_takesNumber_116 : decode cX7_takesNumber 116 = .ok (.ireturn, 1) := by decide +kernel
theorem dX7_takesNumber_117 : decode cX7_takesNumber 117 = .ok (.aload_n 0, 1) := by decide +kernel
theorem dX7_takesNumber_118 : decode cX7_takesNumber 118 = .ok (.dup, 1) := by decide +kernel
theorem dX7_takesNumber_119 : decode cX7_takesNumber 119 = .ok (.getfield 95, 3) := by decide +kernel
theorem dX7_takesNumber_122 : decode cX7_takesNumber 122 = .ok (.iconst 1, 1) := by decide +kernel
theorem dX7_takesNumber_123 : decode cX7_takesNumber 123 = .ok (.iadd, 1) := by decide +kernel
theorem dX7_takesNumber_124 : decode cX7_takesNumber 124 = .ok (.putfield 95, 3) := by decide +kernel
theorem dX7_takesNumber_127 : decode cX7_takesNumber 127 = .ok (.iconst 1, 1) := by decide +kernel
theorem dX7_takesNumber_128 : decode cX7_takesNumber 128 = .ok (.ireturn, 1) := by decide +kernel
theorem dX7_takesWall_0 : decode cX7_takesWall 0 = .ok (.aload_n 0, 1) := by decide +kernel
theorem dX7_takesWall_1 : decode cX7_takesWall 1 = .ok (.getfield 76, 3) := by decide +kernel
theorem dX7_takesWall_4 : decode cX7_takesWall 4 = .ok (.iconst 5, 1) := by decide +kernel
theorem dX7_takesWall_5 : decode cX7_takesWall 5 = .ok (.if_icmp .eq 14, 3) := by decide +kernel
theorem dX7_takesWall_8 : decode cX7_takesWall 8 = .ok (.aload_n 0, 1) := by decide +kernel
theorem dX7_takesWall_9 : decode cX7_takesWall 9 = .ok (.iconst 0, 1) := by decide +kernel
theorem dX7_takesWall_10 : decode cX7_takesWall 10 = .ok (.iconst 3, 1) := by decide +kernel
theorem dX7_takesWall_11 : decode cX7_takesWall 11 = .ok (.bipush 44, 2) := by decide +kernel
theorem dX7_takesWall_13 : decode cX7_takesWall 13 = .ok (.invokevirtual 109, 3) := by decide +kernel
theorem dX7_takesWall_16 : decode cX7_takesWall 16 = .ok (.ifCond .ne 5, 3) := by decide +kernel
theorem dX7_takesWall_19 : decode cX7_takesWall 19 = .ok (.iconst 0, 1) := by decide +kernel
theorem dX7_takesWall_20 : decode cX7_takesWall 20 = .ok (.ireturn, 1) := by decide +kernel
theorem dX7_takesWall_21 : decode cX7_takesWall 21 = .ok (.aload_n 0, 1) := by decide +kernel
theorem dX7_takesWall_22 : decode cX7_takesWall 22 = .ok (.getfield 98, 3) := by decide +kernel
theorem dX7_takesWall_25 : decode cX7_takesWall 25 = .ok (.istore_n 1, 1) := by decide +kernel
theorem dX7_takesWall_26 : decode cX7_takesWall 26 = .ok (.aload_n 0, 1) := by decide +kernel
theorem dX7_takesWall_27 : decode cX7_takesWall 27 = .ok (.iconst 1, 1) := by decide +kernel
theorem dX7_takesWall_28 : decode cX7_takesWall 28 = .ok (.bipush 60, 2) := by decide +kernel
theorem dX7_takesWall_30 : decode cX7_takesWall 30 = .ok (.bipush 44, 2) := by decide +kernel
theorem dX7_takesWall_32 : decode cX7_takesWall 32 = .ok (.invokevirtual 109, 3) := by decide +kernel
theorem dX7_takesWall_35 : decode cX7_takesWall 35 = .ok (.ifCond .ne 5, 3) := by decide +kernel
theorem dX7_takesWall_38 : decode cX7_takesWall 38 = .ok (.iconst 0, 1) := by decide +kernel
theorem dX7_takesWall_39 : decode cX7_takesWall 39 = .ok (.ireturn, 1) := by decide +kernel
theorem dX7_takesWall_40 : decode cX7_takesWall 40 = .ok (.aload_n 0, 1) := by decide +kernel
theorem dX7_takesWall_41 : decode cX7_takesWall 41 = .ok (.getfield 98, 3) := by decide +kernel
theorem dX7_takesWall_44 : decode cX7_takesWall 44 = .ok (.istore_n 2, 1) := by decide +kernel
theorem dX7_takesWall_45 : decode cX7_takesWall 45 = .ok (.aload_n 0, 1) := by decide +kernel
theorem dX7_takesWall_46 : decode cX7_takesWall 46 = .ok (.iconst 0, 1) := by decide +kernel
theorem dX7_takesWall_47 : decode cX7_takesWall 47 = .ok (.bipush 7, 2) := by decide +kernel
theorem dX7_takesWall_49 : decode cX7_takesWall 49 = .ok (.bipush 59, 2) := by decide +kernel
theorem dX7_takesWall_51 : decode cX7_takesWall 51 = .ok (.invokevirtual 109, 3) := by decide +kernel
theorem dX7_takesWall_54 : decode cX7_takesWall 54 = .ok (.ifCond .ne 5, 3) := by decide +kernel
theorem dX7_takesWall_57 : decode cX7_takesWall 57 = .ok (.iconst 0, 1) := by decide +kernel
theorem dX7_takesWall_58 : decode cX7_takesWall 58 = .ok (.ireturn, 1) := by decide +kernel
theorem dX7_takesWall_59 : decode cX7_takesWall 59 = .ok (.aload_n 0, 1) := by decide +kernel
theorem dX7_takesWall_60 : decode cX7_takesWall 60 = .ok (.iload_n 1, 1) := by decide +kernel
theorem dX7_takesWall_61 : decode cX7_takesWall 61 = .ok (.iload_n 2, 1) := by decide +kernel
theorem dX7_takesWall_62 : decode cX7_takesWall 62 = .ok (.aload_n 0, 1) := by decide +kernel
theorem dX7_takesWall_63 : decode cX7_takesWall 63 = .ok (.getfield 98, 3) := by decide +kernel
theorem dX7_takesWall_66 : decode cX7_takesWall 66 = .ok (.invokevirtual 58, 3) := by decide +kernel
theorem dX7_takesWall_69 : decode cX7_takesWall 69 = .ok (.iconst 1, 1) := by decide +kernel
theorem dX7_takesWall_70 : decode cX7_takesWall 70 = .ok (.ireturn, 1) := by decide +kernel
theorem dX7_takesProp_0 : decode cX7_takesProp 0 = .ok (.aload_n 0, 1) := by decide +kernel
theorem dX7_takesProp_1 : decode cX7_takesProp 1 = .ok (.iconst 0, 1) := by decide +kernel
theorem dX7_takesProp_2 : decode cX7_takesProp 2 = .ok (.aload_n 0, 1) := by decide +kernel
theorem dX7_takesProp_3 : decode cX7_takesProp 3 = .ok (.getfield 76, 3) := by decide +kernel
theorem dX7_takesProp_6 : decode cX7_takesProp 6 = .ok (.iconst 1, 1) := by decide +kernel
theorem dX7_takesProp_7 : decode cX7_takesProp 7 = .ok (.isub, 1) := by decide +kernel
theorem dX7_takesProp_8 : decode cX7_takesProp 8 = .ok (.bipush 44, 2) := by decide +kernel
theorem dX7_takesProp_10 : decode cX7_takesProp 10 = .ok (.invokevirtual 109, 3) := by decide +kernel
theorem dX7_takesProp_13 : decode cX7_takesProp 13 = .ok (.ifCond .ne 5, 3) := by decide +kernel
theorem dX7_takesProp_16 : decode cX7_takesProp 16 = .ok (.iconst 0, 1) := by decide +kernel
theorem dX7_takesProp_17 : decode cX7_takesProp 17 = .ok (.ireturn, 1) := by decide +kernel
theorem dX7_takesProp_18 : decode cX7_takesProp 18 = .ok (.aload_n 0, 1) := by decide +kernel
theorem dX7_takesProp_19 : decode cX7_takesProp 19 = .ok (.getfield 98, 3) := by decide +kernel
theorem dX7_takesProp_22 : decode cX7_takesProp 22 = .ok (.istore_n 1, 1) := by decide +kernel
theorem dX7_takesProp_23 : decode cX7_takesProp 23 = .ok (.aload_n 0, 1) := by decide +kernel
theorem dX7_takesProp_24 : decode cX7_takesProp 24 = .ok (.iconst 0, 1) := by decide +kernel
theorem dX7_takesProp_25 : decode cX7_takesProp 25 = .ok (.aload_n 0, 1) := by decide +kernel
theorem dX7_takesProp_26 : decode cX7_takesProp 26 = .ok (.getfield 76, 3) := by decide +kernel
theorem dX7_takesProp_29 : decode cX7_takesProp 29 = .ok (.iconst 1, 1) := by decide +kernel
theorem dX7_takesProp_30 : decode cX7_takesProp 30 = .ok (.isub, 1) := by decide +kernel
theorem dX7_takesProp_31 : decode cX7_takesProp 31 = .ok (.bipush 44, 2) := by decide +kernel
theorem dX7_takesProp_33 : decode cX7_takesProp 33 = .ok (.invokevirtual 109, 3) := by decide +kernel
theorem dX7_takesProp_36 : decode cX7_takesProp 36 = .ok (.ifCond .eq 11, 3) := by decide +kernel
theorem dX7_takesProp_39 : decode cX7_takesProp 39 = .ok (.aload_n 0, 1) := by decide +kernel
theorem dX7_takesProp_40 : decode cX7_takesProp 40 = .ok (.getfield 98, 3) := by decide +kernel
theorem dX7_takesProp_43 : decode cX7_takesProp 43 = .ok (.iload_n 1, 1) := by decide +kernel
theorem dX7_takesProp_44 : decode cX7_takesProp 44 = .ok (.if_icmp .ne 5, 3) := by decide +kernel
theorem dX7_takesProp_47 : decode cX7_takesProp 47 = .ok (.iconst 0, 1) := by decide +kernel
theorem dX7_takesProp_48 : decode cX7_takesProp 48 = .ok (.ireturn, 1) := by decide +kernel
theorem dX7_takesProp_49 : decode cX7_takesProp 49 = .ok (.aload_n 0, 1) := by decide +kernel
theorem dX7_takesProp_50 : decode cX7_takesProp 50 = .ok (.getfield 98, 3) := by decide +kernel
theorem dX7_takesProp_53 : decode cX7_takesProp 53 = .ok (.istore_n 2, 1) := by decide +kernel
theorem dX7_takesProp_54 : decode cX7_takesProp 54 = .ok (.aload_n 0, 1) := by decide +kernel
theorem dX7_takesProp_55 : decode cX7_takesProp 55 = .ok (.iconst 1, 1) := by decide +kernel
theorem dX7_takesProp_56 : decode cX7_takesProp 56 = .ok (.bipush 40, 2) := by decide +kernel
theorem dX7_takesProp_58 : decode cX7_takesProp 58 = .ok (.bipush 59, 2) := by decide +kernel
theorem dX7_takesProp_60 : decode cX7_takesProp 60 = .ok (.invokevirtual 109, 3) := by decide +kernel
theorem dX7_takesProp_63 : decode cX7_takesProp 63 = .ok (.ifCond .ne 5, 3) := by decide +kernel
theorem dX7_takesProp_66 : decode cX7_takesProp 66 = .ok (.iconst 0, 1) := by decide +kernel
theorem dX7_takesProp_67 : decode cX7_takesProp 67 = .ok (.ireturn, 1) := by decide +kernel
theorem dX7_takesProp_68 : decode cX7_takesProp 68 = .ok (.aload_n 0, 1) := by decide +kernel
theorem dX7_takesProp_69 : decode cX7_takesProp 69 = .ok (.getfield 37, 3) := by decide +kernel
theorem dX7_takesProp_72 : decode cX7_takesProp 72 = .ok (.iconst 5, 1) := by decide +kernel
theorem dX7_takesProp_73 : decode cX7_takesProp 73 = .ok (.iload_n 1, 1) := by decide +kernel
theorem dX7_takesProp_74 : decode cX7_takesProp 74 = .ok (.imul, 1) := by decide +kernel
theorem dX7_takesProp_75 : decode cX7_takesProp 75 = .ok (.iload_n 2, 1) := by decide +kernel
theorem dX7_takesProp_76 : decode cX7_takesProp 76 = .ok (.iadd, 1) := by decide +kernel
theorem dX7_takesProp_77 : decode cX7_takesProp 77 = .ok (.aload_n 0, 1) := by decide +kernel
theorem dX7_takesProp_78 : decode cX7_takesProp 78 = .ok (.getfield 98, 3) := by decide +kernel
theorem dX7_takesProp_81 : decode cX7_takesProp 81 = .ok (.iastore, 1) := by decide +kernel
theorem dX7_takesProp_82 : decode cX7_takesProp 82 = .ok (.iconst 1, 1) := by decide +kernel
theorem dX7_takesProp_83 : decode cX7_takesProp 83 = .ok (.ireturn, 1) := by decide +kernel
theorem dX7_takesStones_0 : decode cX7_takesStones 0 = .ok (.aload_n 0, 1) := by decide +kernel
theorem dX7_takesStones_1 : decode cX7_takesStones 1 = .ok (.iconst 0, 1) := by decide +kernel
theorem dX7_takesStones_2 : decode cX7_takesStones 2 = .ok (.bipush 60, 2) := by decide +kernel
theorem dX7_takesStones_4 : decode cX7_takesStones 4 = .ok (.bipush 59, 2) := by decide +kernel
theorem dX7_takesStones_6 : decode cX7_takesStones 6 = .ok (.invokevirtual 109, 3) := by decide +kernel
theorem dX7_takesStones_9 : decode cX7_takesStones 9 = .ok (.ifCond .ne 5, 3) := by decide +kernel
theorem dX7_takesStones_12 : decode cX7_takesStones 12 = .ok (.iconst 0, 1) := by decide +kernel
theorem dX7_takesStones_13 : decode cX7_takesStones 13 = .ok (.ireturn, 1) := by decide +kernel
theorem dX7_takesStones_14 : decode cX7_takesStones 14 = .ok (.aload_n 0, 1) := by decide +kernel
theorem dX7_takesStones_15 : decode cX7_takesStones 15 = .ok (.aload_n 0, 1) := by decide +kernel
theorem dX7_takesStones_16 : decode cX7_takesStones 16 = .ok (.getfield 98, 3) := by decide +kernel
theorem dX7_takesStones_19 : decode cX7_takesStones 19 = .ok (.putfield 62, 3) := by decide +kernel
theorem dX7_takesStones_22 : decode cX7_takesStones 22 = .ok (.iconst 1, 1) := by decide +kernel
theorem dX7_takesStones_23 : decode cX7_takesStones 23 = .ok (.ireturn, 1) := by decide +kernel
theorem dX7_takesItem_0 : decode cX7_takesItem 0 = .ok (.aload_n 0, 1) := by decide +kernel
theorem dX7_takesItem_1 : decode cX7_takesItem 1 = .ok (.aload_n 0, 1) := by decide +kernel
theorem dX7_takesItem_2 : decode cX7_takesItem 2 = .ok (.getfield 95, 3) := by decide +kernel
theorem dX7_takesItem_5 : decode cX7_takesItem 5 = .ok (.invokevirtual 101, 3) := by decide +kernel
theorem dX7_takesItem_8 : decode cX7_takesItem 8 = .ok (.istore_n 1, 1) := by decide +kernel
theorem dX7_takesItem_9 : decode cX7_takesItem 9 = .ok (.aload_n 0, 1) := by decide +kernel
theorem dX7_takesItem_10 : decode cX7_takesItem 10 = .ok (.dup, 1) := by decide +kernel
theorem dX7_takesItem_11 : decode cX7_takesItem 11 = .ok (.getfield 95, 3) := by decide +kernel
theorem dX7_takesItem_14 : decode cX7_takesItem 14 = .ok (.iconst 1, 1) := by decide +kernel
theorem dX7_takesItem_15 : decode cX7_takesItem 15 = .ok (.iadd, 1) := by decide +kernel
theorem dX7_takesItem_16 : decode cX7_takesItem 16 = .ok (.putfield 95, 3) := by decide +kernel
theorem dX7_takesItem_19 : decode cX7_takesItem 19 = .ok (.iload_n 1, 1) := by decide +kernel
theorem dX7_takesItem_20 : decode cX7_takesItem 20 = .ok (.bipush 119, 2) := by decide +kernel
theorem dX7_takesItem_22 : decode cX7_takesItem 22 = .ok (.if_icmp .ne 10, 3) := by decide +kernel
theorem dX7_takesItem_25 : decode cX7_takesItem 25 = .ok (.aload_n 0, 1) := by decide +kernel
theorem dX7_takesItem_26 : decode cX7_takesItem 26 = .ok (.invokevirtual 113, 3) := by decide +kernel
theorem dX7_takesItem_29 : decode cX7_takesItem 29 = .ok (.goto 34, 3) := by decide +kernel
theorem dX7_takesItem_32 : decode cX7_takesItem 32 = .ok (.iload_n 1, 1) := by decide +kernel
theorem dX7_takesItem_33 : decode cX7_takesItem 33 = .ok (.bipush 104, 2) := by decide +kernel
theorem dX7_takesItem_35 : decode cX7_takesItem 35 = .ok (.if_icmp .ne 10, 3) := by decide +kernel
theorem dX7_takesItem_38 : decode cX7_takesItem 38 = .ok (.aload_n 0, 1) := by decide +kernel
theorem dX7_takesItem_39 : decode cX7_takesItem 39 = .ok (.invokevirtual 117, 3) := by decide +kernel
theorem dX7_takesItem_42 : decode cX7_takesItem 42 = .ok (.goto 21, 3) := by decide +kernel
theorem dX7_takesItem_45 : decode cX7_takesItem 45 = .ok (.iload_n 1, 1) := by decide +kernel
theorem dX7_takesItem_46 : decode cX7_takesItem 46 = .ok (.bipush 115, 2) := by decide +kernel
theorem dX7_takesItem_48 : decode cX7_takesItem 48 = .ok (.if_icmp .ne 14, 3) := by decide +kernel
theorem dX7_takesItem_51 : decode cX7_takesItem 51 = .ok (.aload_n 0, 1) := by decide +kernel
theorem dX7_takesItem_52 : decode cX7_takesItem 52 = .ok (.invokevirtual 120, 3) := by decide +kernel
theorem dX7_takesItem_55 : decode cX7_takesItem 55 = .ok (.ifCond .eq 7, 3) := by decide +kernel
theorem dX7_takesItem_58 : decode cX7_takesItem 58 = .ok (.iconst 1, 1) := by decide +kernel
theorem dX7_takesItem_59 : decode cX7_takesItem 59 = .ok (.goto 4, 3) := by decide +kernel
theorem dX7_takesItem_62 : decode cX7_takesItem 62 = .ok (.iconst 0, 1) := by decide +kernel
theorem dX7_takesItem_63 : decode cX7_takesItem 63 = .ok (.ireturn, 1) := by decide +kernel
theorem dX7_faultOf_0 : decode cX7_faultOf 0 = .ok (.aload_n 0, 1) := by decide +kernel
theorem dX7_faultOf_1 : decode cX7_faultOf 1 = .ok (.invokevirtual 55, 3) := by decide +kernel
theorem dX7_faultOf_4 : decode cX7_faultOf 4 = .ok (.aload_n 0, 1) := by decide +kernel
theorem dX7_faultOf_5 : decode cX7_faultOf 5 = .ok (.iconst 0, 1) := by decide +kernel
theorem dX7_faultOf_6 : decode cX7_faultOf 6 = .ok (.putfield 95, 3) := by decide +kernel
theorem dX7_faultOf_9 : decode cX7_faultOf 9 = .ok (.aload_n 0, 1) := by decide +kernel
theorem dX7_faultOf_10 : decode cX7_faultOf 10 = .ok (.getfield 95, 3) := by decide +kernel
theorem dX7_faultOf_13 : decode cX7_faultOf 13 = .ok (.aload_n 0, 1) := by decide +kernel
theorem dX7_faultOf_14 : decode cX7_faultOf 14 = .ok (.getfield 92, 3) := by decide +kernel
theorem dX7_faultOf_17 : decode cX7_faultOf 17 = .ok (.if_icmp .ge 20, 3) := by decide +kernel
theorem dX7_faultOf_20 : decode cX7_faultOf 20 = .ok (.aload_n 0, 1) := by decide +kernel
theorem dX7_faultOf_21 : decode cX7_faultOf 21 = .ok (.getfield 95, 3) := by decide +kernel
theorem dX7_faultOf_24 : decode cX7_faultOf 24 = .ok (.istore_n 1, 1) := by decide +kernel
theorem dX7_faultOf_25 : decode cX7_faultOf 25 = .ok (.aload_n 0, 1) := by decide +kernel
theorem dX7_faultOf_26 : decode cX7_faultOf 26 = .ok (.invokevirtual 123, 3) := by decide +kernel
theorem dX7_faultOf_29 : decode cX7_faultOf 29 = .ok (.ifCond .ne 5, 3) := by decide +kernel
theorem dX7_faultOf_32 : decode cX7_faultOf 32 = .ok (.iload_n 1, 1) := by decide +kernel
theorem dX7_faultOf_33 : decode cX7_faultOf 33 = .ok (.ireturn, 1) := by decide +kernel
theorem dX7_faultOf_34 : decode cX7_faultOf 34 = .ok (.goto (-25), 3) := by decide +kernel
theorem dX7_faultOf_37 : decode cX7_faultOf 37 = .ok (.bipush (-4), 2) := by decide +kernel
theorem dX7_faultOf_39 : decode cX7_faultOf 39 = .ok (.ireturn, 1) := by decide +kernel
theorem dX7_fault_0 : decode cX7_fault 0 = .ok (.aload_n 0, 1) := by decide +kernel
theorem dX7_fault_1 : decode cX7_fault 1 = .ok (.invokevirtual 126, 3) := by decide +kernel
theorem dX7_fault_4 : decode cX7_fault 4 = .ok (.ireturn, 1) := by decide +kernel
theorem dX7_lay_0 : decode cX7_lay 0 = .ok (.aload_n 0, 1) := by decide +kernel
theorem dX7_lay_1 : decode cX7_lay 1 = .ok (.invokevirtual 126, 3) := by decide +kernel
theorem dX7_lay_4 : decode cX7_lay 4 = .ok (.bipush (-4), 2) := by decide +kernel
theorem dX7_lay_6 : decode cX7_lay 6 = .ok (.if_icmp .ne 10, 3) := by decide +kernel
theorem dX7_lay_9 : decode cX7_lay 9 = .ok (.aload_n 0, 1) := by decide +kernel
theorem dX7_lay_10 : decode cX7_lay 10 = .ok (.getfield 76, 3) := by decide +kernel
theorem dX7_lay_13 : decode cX7_lay 13 = .ok (.ifCond .ne 6, 3) := by decide +kernel
theorem dX7_lay_16 : decode cX7_lay 16 = .ok (.bipush (-2), 2) := by decide +kernel
theorem dX7_lay_18 : decode cX7_lay 18 = .ok (.ireturn, 1) := by decide +kernel
theorem dX7_lay_19 : decode cX7_lay 19 = .ok (.aload_n 0, 1) := by decide +kernel
theorem dX7_lay_20 : decode cX7_lay 20 = .ok (.invokevirtual 66, 3) := by decide +kernel
theorem dX7_lay_23 : decode cX7_lay 23 = .ok (.aload_n 0, 1) := by decide +kernel
theorem dX7_lay_24 : decode cX7_lay 24 = .ok (.getfield 69, 3) := by decide +kernel
theorem dX7_lay_27 : decode cX7_lay 27 = .ok (.ireturn, 1) := by decide +kernel
theorem dX7_wall_0 : decode cX7_wall 0 = .ok (.aload_n 0, 1) := by decide +kernel
theorem dX7_wall_1 : decode cX7_wall 1 = .ok (.iload_n 1, 1) := by decide +kernel
theorem dX7_wall_2 : decode cX7_wall 2 = .ok (.invokevirtual 130, 3) := by decide +kernel
theorem dX7_wall_5 : decode cX7_wall 5 = .ok (.ifCond .ne 5, 3) := by decide +kernel
theorem dX7_wall_8 : decode cX7_wall 8 = .ok (.iconst (-1), 1) := by decide +kernel
theorem dX7_wall_9 : decode cX7_wall 9 = .ok (.ireturn, 1) := by decide +kernel
theorem dX7_wall_10 : decode cX7_wall 10 = .ok (.iload_n 2, 1) := by decide +kernel
theorem dX7_wall_11 : decode cX7_wall 11 = .ok (.ifCond .ne 12, 3) := by decide +kernel
theorem dX7_wall_14 : decode cX7_wall 14 = .ok (.aload_n 0, 1) := by decide +kernel
theorem dX7_wall_15 : decode cX7_wall 15 = .ok (.getfield 13, 3) := by decide +kernel
theorem dX7_wall_18 : decode cX7_wall 18 = .ok (.iload_n 1, 1) := by decide +kernel
theorem dX7_wall_19 : decode cX7_wall 19 = .ok (.iaload, 1) := by decide +kernel
theorem dX7_wall_20 : decode cX7_wall 20 = .ok (.goto 63, 3) := by decide +kernel
theorem dX7_wall_23 : decode cX7_wall 23 = .ok (.iload_n 2, 1) := by decide +kernel
theorem dX7_wall_24 : decode cX7_wall 24 = .ok (.iconst 1, 1) := by decide +kernel
theorem dX7_wall_25 : decode cX7_wall 25 = .ok (.if_icmp .ne 12, 3) := by decide +kernel
theorem dX7_wall_28 : decode cX7_wall 28 = .ok (.aload_n 0, 1) := by decide +kernel
theorem dX7_wall_29 : decode cX7_wall 29 = .ok (.getfield 16, 3) := by decide +kernel
theorem dX7_wall_32 : decode cX7_wall 32 = .ok (.iload_n 1, 1) := by decide +kernel
theorem dX7_wall_33 : decode cX7_wall 33 = .ok (.iaload, 1) := by decide +kernel
theorem dX7_wall_34 : decode cX7_wall 34 = .ok (.goto 49, 3) := by decide +kernel
theorem dX7_wall_37 : decode cX7_wall 37 = .ok (.iload_n 2, 1) := by decide +kernel
theorem dX7_wall_38 : decode cX7_wall 38 = .ok (.iconst 2, 1) := by decide +kernel
theorem dX7_wall_39 : decode cX7_wall 39 = .ok (.if_icmp .ne 12, 3) := by decide +kernel
theorem dX7_wall_42 : decode cX7_wall 42 = .ok (.aload_n 0, 1) := by decide +kernel
theorem dX7_wall_43 : decode cX7_wall 43 = .ok (.getfield 19, 3) := by decide +kernel
theorem dX7_wall_46 : decode cX7_wall 46 = .ok (.iload_n 1, 1) := by decide +kernel
theorem dX7_wall_47 : decode cX7_wall 47 = .ok (.iaload, 1) := by decide +kernel
theorem dX7_wall_48 : decode cX7_wall 48 = .ok (.goto 35, 3) := by decide +kernel
theorem dX7_wall_51 : decode cX7_wall 51 = .ok (.iload_n 2, 1) := by decide +kernel
theorem dX7_wall_52 : decode cX7_wall 52 = .ok (.i2l, 1) := by decide +kernel
theorem dX7_wall_53 : decode cX7_wall 53 = .ok (.ldc2_w 134, 3) := by decide +kernel
theorem dX7_wall_56 : decode cX7_wall 56 = .ok (.ldc2_w 136, 3) := by decide +kernel
theorem dX7_wall_59 : decode cX7_wall 59 = .ok (.invokestatic 72, 3) := by decide +kernel
theorem dX7_wall_62 : decode cX7_wall 62 = .ok (.ifCond .eq 20, 3) := by decide +kernel
theorem dX7_wall_65 : decode cX7_wall 65 = .ok (.aload_n 0, 1) := by decide +kernel
theorem dX7_wall_66 : decode cX7_wall 66 = .ok (.getfield 7, 3) := by decide +kernel
theorem dX7_wall_69 : decode cX7_wall 69 = .ok (.iconst 2, 1) := by decide +kernel
theorem dX7_wall_70 : decode cX7_wall 70 = .ok (.iconst 5, 1) := by decide +kernel
theorem dX7_wall_71 : decode cX7_wall 71 = .ok (.iload_n 2, 1) := by decide +kernel
theorem dX7_wall_72 : decode cX7_wall 72 = .ok (.iconst 3, 1) := by decide +kernel
theorem dX7_wall_73 : decode cX7_wall 73 = .ok (.isub, 1) := by decide +kernel
theorem dX7_wall_74 : decode cX7_wall 74 = .ok (.imul, 1) := by decide +kernel
theorem dX7_wall_75 : decode cX7_wall 75 = .ok (.iadd, 1) := by decide +kernel
theorem dX7_wall_76 : decode cX7_wall 76 = .ok (.iload_n 1, 1) := by decide +kernel
theorem dX7_wall_77 : decode cX7_wall 77 = .ok (.iadd, 1) := by decide +kernel
theorem dX7_wall_78 : decode cX7_wall 78 = .ok (.iaload, 1) := by decide +kernel
theorem dX7_wall_79 : decode cX7_wall 79 = .ok (.goto 4, 3) := by decide +kernel
theorem dX7_wall_82 : decode cX7_wall 82 = .ok (.iconst (-1), 1) := by decide +kernel
theorem dX7_wall_83 : decode cX7_wall 83 = .ok (.ireturn, 1) := by decide +kernel
theorem dX7_holds_0 : decode cX7_holds 0 = .ok (.aload_n 0, 1) := by decide +kernel
theorem dX7_holds_1 : decode cX7_holds 1 = .ok (.iload_n 1, 1) := by decide +kernel
theorem dX7_holds_2 : decode cX7_holds 2 = .ok (.invokevirtual 130, 3) := by decide +kernel
theorem dX7_holds_5 : decode cX7_holds 5 = .ok (.ifCond .eq 32, 3) := by decide +kernel
theorem dX7_holds_8 : decode cX7_holds 8 = .ok (.aload_n 0, 1) := by decide +kernel
theorem dX7_holds_9 : decode cX7_holds 9 = .ok (.iload_n 2, 1) := by decide +kernel
