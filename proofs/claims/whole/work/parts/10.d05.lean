theorem dX7_isSo_34 : decode cX7_isSo 34 = .ok (.if_icmp .lt 7, 3) := by decide +kernel
theorem dX7_isSo_37 : decode cX7_isSo 37 = .ok (.iconst 1, 1) := by decide +kernel
theorem dX7_isSo_38 : decode cX7_isSo 38 = .ok (.goto 4, 3) := by decide +kernel
theorem dX7_isSo_41 : decode cX7_isSo 41 = .ok (.iconst 0, 1) := by decide +kernel
theorem dX7_isSo_42 : decode cX7_isSo 42 = .ok (.istore 5, 2) := by decide +kernel
theorem dX7_isSo_44 : decode cX7_isSo 44 = .ok (.iload_n 3, 1) := by decide +kernel
theorem dX7_isSo_45 : decode cX7_isSo 45 = .ok (.ifCond .eq 28, 3) := by decide +kernel
theorem dX7_isSo_48 : decode cX7_isSo 48 = .ok (.iload 5, 2) := by decide +kernel
theorem dX7_isSo_50 : decode cX7_isSo 50 = .ok (.aload_n 0, 1) := by decide +kernel
theorem dX7_isSo_51 : decode cX7_isSo 51 = .ok (.getfield 28, 3) := by decide +kernel
theorem dX7_isSo_54 : decode cX7_isSo 54 = .ok (.iload 4, 2) := by decide +kernel
theorem dX7_isSo_56 : decode cX7_isSo 56 = .ok (.iaload, 1) := by decide +kernel
theorem dX7_isSo_57 : decode cX7_isSo 57 = .ok (.iconst 1, 1) := by decide +kernel
theorem dX7_isSo_58 : decode cX7_isSo 58 = .ok (.if_icmp .ne 7, 3) := by decide +kernel
theorem dX7_isSo_61 : decode cX7_isSo 61 = .ok (.iconst 1, 1) := by decide +kernel
theorem dX7_isSo_62 : decode cX7_isSo 62 = .ok (.goto 4, 3) := by decide +kernel
theorem dX7_isSo_65 : decode cX7_isSo 65 = .ok (.iconst 0, 1) := by decide +kernel
theorem dX7_isSo_66 : decode cX7_isSo 66 = .ok (.if_icmp .ne 7, 3) := by decide +kernel
theorem dX7_isSo_69 : decode cX7_isSo 69 = .ok (.iconst 1, 1) := by decide +kernel
theorem dX7_isSo_70 : decode cX7_isSo 70 = .ok (.goto 4, 3) := by decide +kernel
theorem dX7_isSo_73 : decode cX7_isSo 73 = .ok (.iconst 0, 1) := by decide +kernel
theorem dX7_isSo_74 : decode cX7_isSo 74 = .ok (.istore_n 3, 1) := by decide +kernel
theorem dX7_isSo_75 : decode cX7_isSo 75 = .ok (.iload_n 2, 1) := by decide +kernel
theorem dX7_isSo_76 : decode cX7_isSo 76 = .ok (.aload_n 0, 1) := by decide +kernel
theorem dX7_isSo_77 : decode cX7_isSo 77 = .ok (.getfield 22, 3) := by decide +kernel
theorem dX7_isSo_80 : decode cX7_isSo 80 = .ok (.iload 4, 2) := by decide +kernel
theorem dX7_isSo_82 : decode cX7_isSo 82 = .ok (.iaload, 1) := by decide +kernel
theorem dX7_isSo_83 : decode cX7_isSo 83 = .ok (.isub, 1) := by decide +kernel
theorem dX7_isSo_84 : decode cX7_isSo 84 = .ok (.iconst 1, 1) := by decide +kernel
theorem dX7_isSo_85 : decode cX7_isSo 85 = .ok (.if_icmp .ge 7, 3) := by decide +kernel
theorem dX7_isSo_88 : decode cX7_isSo 88 = .ok (.iconst 1, 1) := by decide +kernel
theorem dX7_isSo_89 : decode cX7_isSo 89 = .ok (.goto 12, 3) := by decide +kernel
theorem dX7_isSo_92 : decode cX7_isSo 92 = .ok (.iload_n 2, 1) := by decide +kernel
theorem dX7_isSo_93 : decode cX7_isSo 93 = .ok (.aload_n 0, 1) := by decide +kernel
theorem dX7_isSo_94 : decode cX7_isSo 94 = .ok (.getfield 22, 3) := by decide +kernel
theorem dX7_isSo_97 : decode cX7_isSo 97 = .ok (.iload 4, 2) := by decide +kernel
theorem dX7_isSo_99 : decode cX7_isSo 99 = .ok (.iaload, 1) := by decide +kernel
theorem dX7_isSo_100 : decode cX7_isSo 100 = .ok (.isub, 1) := by decide +kernel
theorem dX7_isSo_101 : decode cX7_isSo 101 = .ok (.istore_n 2, 1) := by decide +kernel
theorem dX7_isSo_102 : decode cX7_isSo 102 = .ok (.iinc 4 1, 3) := by decide +kernel
theorem dX7_isSo_105 : decode cX7_isSo 105 = .ok (.goto (-98), 3) := by decide +kernel
theorem dX7_isSo_108 : decode cX7_isSo 108 = .ok (.iload_n 3, 1) := by decide +kernel
theorem dX7_isSo_109 : decode cX7_isSo 109 = .ok (.ireturn, 1) := by decide +kernel
theorem dX7_thick_0 : decode cX7_thick 0 = .ok (.iload_n 1, 1) := by decide +kernel
theorem dX7_thick_1 : decode cX7_thick 1 = .ok (.i2l, 1) := by decide +kernel
theorem dX7_thick_2 : decode cX7_thick 2 = .ok (.lconst 0, 1) := by decide +kernel
theorem dX7_thick_3 : decode cX7_thick 3 = .ok (.lconst 1, 1) := by decide +kernel
theorem dX7_thick_4 : decode cX7_thick 4 = .ok (.invokestatic 72, 3) := by decide +kernel
theorem dX7_thick_7 : decode cX7_thick 7 = .ok (.ifCond .ne 5, 3) := by decide +kernel
theorem dX7_thick_10 : decode cX7_thick 10 = .ok (.iconst (-1), 1) := by decide +kernel
theorem dX7_thick_11 : decode cX7_thick 11 = .ok (.ireturn, 1) := by decide +kernel
theorem dX7_thick_12 : decode cX7_thick 12 = .ok (.iconst 0, 1) := by decide +kernel
theorem dX7_thick_13 : decode cX7_thick 13 = .ok (.istore_n 2, 1) := by decide +kernel
theorem dX7_thick_14 : decode cX7_thick 14 = .ok (.bipush (-4), 2) := by decide +kernel
theorem dX7_thick_16 : decode cX7_thick 16 = .ok (.istore_n 3, 1) := by decide +kernel
theorem dX7_thick_17 : decode cX7_thick 17 = .ok (.bipush 60, 2) := by decide +kernel
theorem dX7_thick_19 : decode cX7_thick 19 = .ok (.istore 4, 2) := by decide +kernel
theorem dX7_thick_21 : decode cX7_thick 21 = .ok (.iload 4, 2) := by decide +kernel
theorem dX7_thick_23 : decode cX7_thick 23 = .ok (.ifCond .le 42, 3) := by decide +kernel
theorem dX7_thick_26 : decode cX7_thick 26 = .ok (.aload_n 0, 1) := by decide +kernel
theorem dX7_thick_27 : decode cX7_thick 27 = .ok (.iload 4, 2) := by decide +kernel
theorem dX7_thick_29 : decode cX7_thick 29 = .ok (.invokevirtual 204, 3) := by decide +kernel
theorem dX7_thick_32 : decode cX7_thick 32 = .ok (.istore 5, 2) := by decide +kernel
theorem dX7_thick_34 : decode cX7_thick 34 = .ok (.iload_n 2, 1) := by decide +kernel
theorem dX7_thick_35 : decode cX7_thick 35 = .ok (.iload 5, 2) := by decide +kernel
theorem dX7_thick_37 : decode cX7_thick 37 = .ok (.ifCond .eq 7, 3) := by decide +kernel
theorem dX7_thick_40 : decode cX7_thick 40 = .ok (.iconst 1, 1) := by decide +kernel
theorem dX7_thick_41 : decode cX7_thick 41 = .ok (.goto 4, 3) := by decide +kernel
theorem dX7_thick_44 : decode cX7_thick 44 = .ok (.iconst 0, 1) := by decide +kernel
theorem dX7_thick_45 : decode cX7_thick 45 = .ok (.iadd, 1) := by decide +kernel
theorem dX7_thick_46 : decode cX7_thick 46 = .ok (.istore_n 2, 1) := by decide +kernel
theorem dX7_thick_47 : decode cX7_thick 47 = .ok (.iload 5, 2) := by decide +kernel
theorem dX7_thick_49 : decode cX7_thick 49 = .ok (.ifCond .eq 8, 3) := by decide +kernel
theorem dX7_thick_52 : decode cX7_thick 52 = .ok (.iload 4, 2) := by decide +kernel
theorem dX7_thick_54 : decode cX7_thick 54 = .ok (.goto 4, 3) := by decide +kernel
theorem dX7_thick_57 : decode cX7_thick 57 = .ok (.iload_n 3, 1) := by decide +kernel
theorem dX7_thick_58 : decode cX7_thick 58 = .ok (.istore_n 3, 1) := by decide +kernel
theorem dX7_thick_59 : decode cX7_thick 59 = .ok (.iinc 4 (-1), 3) := by decide +kernel
theorem dX7_thick_62 : decode cX7_thick 62 = .ok (.goto (-41), 3) := by decide +kernel
theorem dX7_thick_65 : decode cX7_thick 65 = .ok (.iload_n 1, 1) := by decide +kernel
theorem dX7_thick_66 : decode cX7_thick 66 = .ok (.ifCond .ne 7, 3) := by decide +kernel
theorem dX7_thick_69 : decode cX7_thick 69 = .ok (.iload_n 2, 1) := by decide +kernel
theorem dX7_thick_70 : decode cX7_thick 70 = .ok (.goto 4, 3) := by decide +kernel
theorem dX7_thick_73 : decode cX7_thick 73 = .ok (.iload_n 3, 1) := by decide +kernel
theorem dX7_thick_74 : decode cX7_thick 74 = .ok (.ireturn, 1) := by decide +kernel
theorem dX7_fail_0 : decode cX7_fail 0 = .ok (.aload_n 0, 1) := by decide +kernel
theorem dX7_fail_1 : decode cX7_fail 1 = .ok (.iload_n 1, 1) := by decide +kernel
theorem dX7_fail_2 : decode cX7_fail 2 = .ok (.invokevirtual 130, 3) := by decide +kernel
theorem dX7_fail_5 : decode cX7_fail 5 = .ok (.ifCond .eq 38, 3) := by decide +kernel
theorem dX7_fail_8 : decode cX7_fail 8 = .ok (.iload_n 2, 1) := by decide +kernel
theorem dX7_fail_9 : decode cX7_fail 9 = .ok (.i2l, 1) := by decide +kernel
theorem dX7_fail_10 : decode cX7_fail 10 = .ok (.lconst 1, 1) := by decide +kernel
theorem dX7_fail_11 : decode cX7_fail 11 = .ok (.ldc2_w 163, 3) := by decide +kernel
theorem dX7_fail_14 : decode cX7_fail 14 = .ok (.invokestatic 72, 3) := by decide +kernel
theorem dX7_fail_17 : decode cX7_fail 17 = .ok (.ifCond .eq 26, 3) := by decide +kernel
theorem dX7_fail_20 : decode cX7_fail 20 = .ok (.iload_n 3, 1) := by decide +kernel
theorem dX7_fail_21 : decode cX7_fail 21 = .ok (.i2l, 1) := by decide +kernel
theorem dX7_fail_22 : decode cX7_fail 22 = .ok (.lconst 0, 1) := by decide +kernel
theorem dX7_fail_23 : decode cX7_fail 23 = .ok (.ldc2_w 207, 3) := by decide +kernel
theorem dX7_fail_26 : decode cX7_fail 26 = .ok (.invokestatic 72, 3) := by decide +kernel
theorem dX7_fail_29 : decode cX7_fail 29 = .ok (.ifCond .eq 14, 3) := by decide +kernel
theorem dX7_fail_32 : decode cX7_fail 32 = .ok (.iload 4, 2) := by decide +kernel
theorem dX7_fail_34 : decode cX7_fail 34 = .ok (.i2l, 1) := by decide +kernel
theorem dX7_fail_35 : decode cX7_fail 35 = .ok (.lconst 0, 1) := by decide +kernel
theorem dX7_fail_36 : decode cX7_fail 36 = .ok (.lconst 1, 1) := by decide +kernel
theorem dX7_fail_37 : decode cX7_fail 37 = .ok (.invokestatic 72, 3) := by decide +kernel
theorem dX7_fail_40 : decode cX7_fail 40 = .ok (.ifCond .ne 5, 3) := by decide +kernel
theorem dX7_fail_43 : decode cX7_fail 43 = .ok (.iconst (-1), 1) := by decide +kernel
theorem dX7_fail_44 : decode cX7_fail 44 = .ok (.ireturn, 1) := by decide +kernel
theorem dX7_fail_45 : decode cX7_fail 45 = .ok (.aload_n 0, 1) := by decide +kernel
theorem dX7_fail_46 : decode cX7_fail 46 = .ok (.iconst 0, 1) := by decide +kernel
theorem dX7_fail_47 : decode cX7_fail 47 = .ok (.iload_n 1, 1) := by decide +kernel
theorem dX7_fail_48 : decode cX7_fail 48 = .ok (.invokevirtual 138, 3) := by decide +kernel
theorem dX7_fail_51 : decode cX7_fail 51 = .ok (.ifCond .ne 6, 3) := by decide +kernel
theorem dX7_fail_54 : decode cX7_fail 54 = .ok (.bipush (-2), 2) := by decide +kernel
theorem dX7_fail_56 : decode cX7_fail 56 = .ok (.ireturn, 1) := by decide +kernel
theorem dX7_fail_57 : decode cX7_fail 57 = .ok (.lconst 0, 1) := by decide +kernel
theorem dX7_fail_58 : decode cX7_fail 58 = .ok (.lstore 5, 2) := by decide +kernel
theorem dX7_fail_60 : decode cX7_fail 60 = .ok (.lconst 1, 1) := by decide +kernel
theorem dX7_fail_61 : decode cX7_fail 61 = .ok (.lstore 7, 2) := by decide +kernel
theorem dX7_fail_63 : decode cX7_fail 63 = .ok (.iconst 0, 1) := by decide +kernel
theorem dX7_fail_64 : decode cX7_fail 64 = .ok (.istore 9, 2) := by decide +kernel
theorem dX7_fail_66 : decode cX7_fail 66 = .ok (.iload 9, 2) := by decide +kernel
theorem dX7_fail_68 : decode cX7_fail 68 = .ok (.iload_n 2, 1) := by decide +kernel
theorem dX7_fail_69 : decode cX7_fail 69 = .ok (.if_icmp .ge 17, 3) := by decide +kernel
theorem dX7_fail_72 : decode cX7_fail 72 = .ok (.lload 7, 2) := by decide +kernel
theorem dX7_fail_74 : decode cX7_fail 74 = .ok (.ldc2_w 207, 3) := by decide +kernel
theorem dX7_fail_77 : decode cX7_fail 77 = .ok (.lmul, 1) := by decide +kernel
theorem dX7_fail_78 : decode cX7_fail 78 = .ok (.lstore 7, 2) := by decide +kernel
theorem dX7_fail_80 : decode cX7_fail 80 = .ok (.iinc 9 1, 3) := by decide +kernel
theorem dX7_fail_83 : decode cX7_fail 83 = .ok (.goto (-17), 3) := by decide +kernel
theorem dX7_fail_86 : decode cX7_fail 86 = .ok (.iconst 0, 1) := by decide +kernel
theorem dX7_fail_87 : decode cX7_fail 87 = .ok (.istore 9, 2) := by decide +kernel
theorem dX7_fail_89 : decode cX7_fail 89 = .ok (.iload 9, 2) := by decide +kernel
theorem dX7_fail_91 : decode cX7_fail 91 = .ok (.iconst 1, 1) := by decide +kernel
theorem dX7_fail_92 : decode cX7_fail 92 = .ok (.iload_n 2, 1) := by decide +kernel
theorem dX7_fail_93 : decode cX7_fail 93 = .ok (.ishl, 1) := by decide +kernel
theorem dX7_fail_94 : decode cX7_fail 94 = .ok (.if_icmp .ge 102, 3) := by decide +kernel
theorem dX7_fail_97 : decode cX7_fail 97 = .ok (.lconst 1, 1) := by decide +kernel
theorem dX7_fail_98 : decode cX7_fail 98 = .ok (.lstore 10, 2) := by decide +kernel
theorem dX7_fail_100 : decode cX7_fail 100 = .ok (.iconst 0, 1) := by decide +kernel
theorem dX7_fail_101 : decode cX7_fail 101 = .ok (.istore 12, 2) := by decide +kernel
theorem dX7_fail_103 : decode cX7_fail 103 = .ok (.iconst 0, 1) := by decide +kernel
theorem dX7_fail_104 : decode cX7_fail 104 = .ok (.istore 13, 2) := by decide +kernel
theorem dX7_fail_106 : decode cX7_fail 106 = .ok (.iload 13, 2) := by decide +kernel
theorem dX7_fail_108 : decode cX7_fail 108 = .ok (.iload_n 2, 1) := by decide +kernel
theorem dX7_fail_109 : decode cX7_fail 109 = .ok (.if_icmp .ge 54, 3) := by decide +kernel
theorem dX7_fail_112 : decode cX7_fail 112 = .ok (.lload 10, 2) := by decide +kernel
theorem dX7_fail_114 : decode cX7_fail 114 = .ok (.iload 9, 2) := by decide +kernel
theorem dX7_fail_116 : decode cX7_fail 116 = .ok (.iload 13, 2) := by decide +kernel
theorem dX7_fail_118 : decode cX7_fail 118 = .ok (.invokestatic 201, 3) := by decide +kernel
theorem dX7_fail_121 : decode cX7_fail 121 = .ok (.ifCond .eq 11, 3) := by decide +kernel
theorem dX7_fail_124 : decode cX7_fail 124 = .ok (.bipush 10, 2) := by decide +kernel
theorem dX7_fail_126 : decode cX7_fail 126 = .ok (.iload_n 3, 1) := by decide +kernel
theorem dX7_fail_127 : decode cX7_fail 127 = .ok (.isub, 1) := by decide +kernel
theorem dX7_fail_128 : decode cX7_fail 128 = .ok (.i2l, 1) := by decide +kernel
theorem dX7_fail_129 : decode cX7_fail 129 = .ok (.goto 5, 3) := by decide +kernel
theorem dX7_fail_132 : decode cX7_fail 132 = .ok (.iload_n 3, 1) := by decide +kernel
theorem dX7_fail_133 : decode cX7_fail 133 = .ok (.i2l, 1) := by decide +kernel
theorem dX7_fail_134 : decode cX7_fail 134 = .ok (.lmul, 1) := by decide +kernel
theorem dX7_fail_135 : decode cX7_fail 135 = .ok (.lstore 10, 2) := by decide +kernel
theorem dX7_fail_137 : decode cX7_fail 137 = .ok (.iload 12, 2) := by decide +kernel
theorem dX7_fail_139 : decode cX7_fail 139 = .ok (.iload 9, 2) := by decide +kernel
theorem dX7_fail_141 : decode cX7_fail 141 = .ok (.iload 13, 2) := by decide +kernel
theorem dX7_fail_143 : decode cX7_fail 143 = .ok (.invokestatic 201, 3) := by decide +kernel
theorem dX7_fail_146 : decode cX7_fail 146 = .ok (.ifCond .eq 7, 3) := by decide +kernel
theorem dX7_fail_149 : decode cX7_fail 149 = .ok (.iconst 1, 1) := by decide +kernel
theorem dX7_fail_150 : decode cX7_fail 150 = .ok (.goto 4, 3) := by decide +kernel
theorem dX7_fail_153 : decode cX7_fail 153 = .ok (.iconst 0, 1) := by decide +kernel
theorem dX7_fail_154 : decode cX7_fail 154 = .ok (.iadd, 1) := by decide +kernel
theorem dX7_fail_155 : decode cX7_fail 155 = .ok (.istore 12, 2) := by decide +kernel
theorem dX7_fail_157 : decode cX7_fail 157 = .ok (.iinc 13 1, 3) := by decide +kernel
theorem dX7_fail_160 : decode cX7_fail 160 = .ok (.goto (-54), 3) := by decide +kernel
theorem dX7_fail_163 : decode cX7_fail 163 = .ok (.lload 5, 2) := by decide +kernel
theorem dX7_fail_165 : decode cX7_fail 165 = .ok (.iload 12, 2) := by decide +kernel
theorem dX7_fail_167 : decode cX7_fail 167 = .ok (.ifCond .le 19, 3) := by decide +kernel
theorem dX7_fail_170 : decode cX7_fail 170 = .ok (.aload_n 0, 1) := by decide +kernel
theorem dX7_fail_171 : decode cX7_fail 171 = .ok (.iconst 0, 1) := by decide +kernel
theorem dX7_fail_172 : decode cX7_fail 172 = .ok (.iload_n 1, 1) := by decide +kernel
theorem dX7_fail_173 : decode cX7_fail 173 = .ok (.iload 12, 2) := by decide +kernel
theorem dX7_fail_175 : decode cX7_fail 175 = .ok (.invokevirtual 146, 3) := by decide +kernel
theorem dX7_fail_178 : decode cX7_fail 178 = .ok (.ifCond .eq 8, 3) := by decide +kernel
theorem dX7_fail_181 : decode cX7_fail 181 = .ok (.lload 10, 2) := by decide +kernel
theorem dX7_fail_183 : decode cX7_fail 183 = .ok (.goto 4, 3) := by decide +kernel
theorem dX7_fail_186 : decode cX7_fail 186 = .ok (.lconst 0, 1) := by decide +kernel
theorem dX7_fail_187 : decode cX7_fail 187 = .ok (.ladd, 1) := by decide +kernel
theorem dX7_fail_188 : decode cX7_fail 188 = .ok (.lstore 5, 2) := by decide +kernel
theorem dX7_fail_190 : decode cX7_fail 190 = .ok (.iinc 9 1, 3) := by decide +kernel
theorem dX7_fail_193 : decode cX7_fail 193 = .ok (.goto (-104), 3) := by decide +kernel
theorem dX7_fail_196 : decode cX7_fail 196 = .ok (.lload 5, 2) := by decide +kernel
theorem dX7_fail_198 : decode cX7_fail 198 = .ok (.lstore 9, 2) := by decide +kernel
theorem dX7_fail_200 : decode cX7_fail 200 = .ok (.lload 7, 2) := by decide +kernel
theorem dX7_fail_202 : decode cX7_fail 202 = .ok (.lstore 11, 2) := by decide +kernel
theorem dX7_fail_204 : decode cX7_fail 204 = .ok (.lload 11, 2) := by decide +kernel
theorem dX7_fail_206 : decode cX7_fail 206 = .ok (.lconst 0, 1) := by decide +kernel
theorem dX7_fail_207 : decode cX7_fail 207 = .ok (.lcmp, 1) := by decide +kernel
theorem dX7_fail_208 : decode cX7_fail 208 = .ok (.ifCond .eq 21, 3) := by decide +kernel
theorem dX7_fail_211 : decode cX7_fail 211 = .ok (.lload 9, 2) := by decide +kernel
theorem dX7_fail_213 : decode cX7_fail 213 = .ok (.lload 11, 2) := by decide +kernel
theorem dX7_fail_215 : decode cX7_fail 215 = .ok (.lrem, 1) := by decide +kernel
theorem dX7_fail_216 : decode cX7_fail 216 = .ok (.lstore 13, 2) := by decide +kernel
theorem dX7_fail_218 : decode cX7_fail 218 = .ok (.lload 11, 2) := by decide +kernel
theorem dX7_fail_220 : decode cX7_fail 220 = .ok (.lstore 9, 2) := by decide +kernel
theorem dX7_fail_222 : decode cX7_fail 222 = .ok (.lload 13, 2) := by decide +kernel
theorem dX7_fail_224 : decode cX7_fail 224 = .ok (.lstore 11, 2) := by decide +kernel
theorem dX7_fail_226 : decode cX7_fail 226 = .ok (.goto (-22), 3) := by decide +kernel
theorem dX7_fail_229 : decode cX7_fail 229 = .ok (.iload 4, 2) := by decide +kernel
theorem dX7_fail_231 : decode cX7_fail 231 = .ok (.ifCond .ne 11, 3) := by decide +kernel
theorem dX7_fail_234 : decode cX7_fail 234 = .ok (.lload 5, 2) := by decide +kernel
theorem dX7_fail_236 : decode cX7_fail 236 = .ok (.lload 9, 2) := by decide +kernel
theorem dX7_fail_238 : decode cX7_fail 238 = .ok (.ldiv, 1) := by decide +kernel
theorem dX7_fail_239 : decode cX7_fail 239 = .ok (.goto 8, 3) := by decide +kernel
theorem dX7_fail_242 : decode cX7_fail 242 = .ok (.lload 7, 2) := by decide +kernel
theorem dX7_fail_244 : decode cX7_fail 244 = .ok (.lload 9, 2) := by decide +kernel
theorem dX7_fail_246 : decode cX7_fail 246 = .ok (.ldiv, 1) := by decide +kernel
theorem dX7_fail_247 : decode cX7_fail 247 = .ok (.l2i, 1) := by decide +kernel
theorem dX7_fail_248 : decode cX7_fail 248 = .ok (.ireturn, 1) := by decide +kernel
theorem dX7_hurtAll_0 : decode cX7_hurtAll 0 = .ok (.iconst 0, 1) := by decide +kernel
theorem dX7_hurtAll_1 : decode cX7_hurtAll 1 = .ok (.istore_n 2, 1) := by decide +kernel
theorem dX7_hurtAll_2 : decode cX7_hurtAll 2 = .ok (.iconst 0, 1) := by decide +kernel
theorem dX7_hurtAll_3 : decode cX7_hurtAll 3 = .ok (.istore_n 3, 1) := by decide +kernel
theorem dX7_hurtAll_4 : decode cX7_hurtAll 4 = .ok (.iload_n 3, 1) := by decide +kernel
theorem dX7_hurtAll_5 : decode cX7_hurtAll 5 = .ok (.aload_n 0, 1) := by decide +kernel
theorem dX7_hurtAll_6 : decode cX7_hurtAll 6 = .ok (.getfield 69, 3) := by decide +kernel
theorem dX7_hurtAll_9 : decode cX7_hurtAll 9 = .ok (.if_icmp .ge 23, 3) := by decide +kernel
theorem dX7_hurtAll_12 : decode cX7_hurtAll 12 = .ok (.iload_n 2, 1) := by decide +kernel
theorem dX7_hurtAll_13 : decode cX7_hurtAll 13 = .ok (.aload_n 0, 1) := by decide +kernel
theorem dX7_hurtAll_14 : decode cX7_hurtAll 14 = .ok (.getfield 7, 3) := by decide +kernel
theorem dX7_hurtAll_17 : decode cX7_hurtAll 17 = .ok (.iload_n 1, 1) := by decide +kernel
theorem dX7_hurtAll_18 : decode cX7_hurtAll 18 = .ok (.bipush 17, 2) := by decide +kernel
theorem dX7_hurtAll_20 : decode cX7_hurtAll 20 = .ok (.iadd, 1) := by decide +kernel
theorem dX7_hurtAll_21 : decode cX7_hurtAll 21 = .ok (.iload_n 3, 1) := by decide +kernel
theorem dX7_hurtAll_22 : decode cX7_hurtAll 22 = .ok (.iadd, 1) := by decide +kernel
theorem dX7_hurtAll_23 : decode cX7_hurtAll 23 = .ok (.iaload, 1) := by decide +kernel
theorem dX7_hurtAll_24 : decode cX7_hurtAll 24 = .ok (.iadd, 1) := by decide +kernel
theorem dX7_hurtAll_25 : decode cX7_hurtAll 25 = .ok (.istore_n 2, 1) := by decide +kernel
theorem dX7_hurtAll_26 : decode cX7_hurtAll 26 = .ok (.iinc 3 1, 3) := by decide +kernel
theorem dX7_hurtAll_29 : decode cX7_hurtAll 29 = .ok (.goto (-25), 3) := by decide +kernel
theorem dX7_hurtAll_32 : decode cX7_hurtAll 32 = .ok (.iload_n 2, 1) := by decide +kernel
theorem dX7_hurtAll_33 : decode cX7_hurtAll 33 = .ok (.ireturn, 1) := by decide +kernel
theorem dX7_year_0 : decode cX7_year 0 = .ok (.iload_n 1, 1) := by decide +kernel
theorem dX7_year_1 : decode cX7_year 1 = .ok (.i2l, 1) := by decide +kernel
theorem dX7_year_2 : decode cX7_year 2 = .ok (.lconst 0, 1) := by decide +kernel
theorem dX7_year_3 : decode cX7_year 3 = .ok (.ldc2_w 209, 3) := by decide +kernel
theorem dX7_year_6 : decode cX7_year 6 = .ok (.invokestatic 72, 3) := by decide +kernel
theorem dX7_year_9 : decode cX7_year 9 = .ok (.ifCond .eq 27, 3) := by decide +kernel
theorem dX7_year_12 : decode cX7_year 12 = .ok (.iload_n 2, 1) := by decide +kernel
theorem dX7_year_13 : decode cX7_year 13 = .ok (.i2l, 1) := by decide +kernel
theorem dX7_year_14 : decode cX7_year 14 = .ok (.lconst 1, 1) := by decide +kernel
theorem dX7_year_15 : decode cX7_year 15 = .ok (.ldc2_w 177, 3) := by decide +kernel
theorem dX7_year_18 : decode cX7_year 18 = .ok (.invokestatic 72, 3) := by decide +kernel
theorem dX7_year_21 : decode cX7_year 21 = .ok (.ifCond .eq 15, 3) := by decide +kernel
theorem dX7_year_24 : decode cX7_year 24 = .ok (.iload_n 3, 1) := by decide +kernel
theorem dX7_year_25 : decode cX7_year 25 = .ok (.i2l, 1) := by decide +kernel
theorem dX7_year_26 : decode cX7_year 26 = .ok (.lconst 0, 1) := by decide +kernel
theorem dX7_year_27 : decode cX7_year 27 = .ok (.ldc2_w 211, 3) := by decide +kernel
theorem dX7_year_30 : decode cX7_year 30 = .ok (.invokestatic 72, 3) := by decide +kernel
theorem dX7_year_33 : decode cX7_year 33 = .ok (.ifCond .ne 5, 3) := by decide +kernel
theorem dX7_year_36 : decode cX7_year 36 = .ok (.iconst (-1), 1) := by decide +kernel
theorem dX7_year_37 : decode cX7_year 37 = .ok (.ireturn, 1) := by decide +kernel
theorem dX7_year_38 : decode cX7_year 38 = .ok (.aload_n 0, 1) := by decide +kernel
theorem dX7_year_39 : decode cX7_year 39 = .ok (.invokevirtual 183, 3) := by decide +kernel
theorem dX7_year_42 : decode cX7_year 42 = .ok (.iconst 0, 1) := by decide +kernel
theorem dX7_year_43 : decode cX7_year 43 = .ok (.istore 4, 2) := by decide +kernel
theorem dX7_year_45 : decode cX7_year 45 = .ok (.iload 4, 2) := by decide +kernel
theorem dX7_year_47 : decode cX7_year 47 = .ok (.iload_n 2, 1) := by decide +kernel
theorem dX7_year_48 : decode cX7_year 48 = .ok (.if_icmp .ge 131, 3) := by decide +kernel
theorem dX7_year_51 : decode cX7_year 51 = .ok (.ldc2_w 213, 3) := by decide +kernel
theorem dX7_year_54 : decode cX7_year 54 = .ok (.iload_n 1, 1) := by decide +kernel
theorem dX7_year_55 : decode cX7_year 55 = .ok (.i2l, 1) := by decide +kernel
theorem dX7_year_56 : decode cX7_year 56 = .ok (.lmul, 1) := by decide +kernel
theorem dX7_year_57 : decode cX7_year 57 = .ok (.ldc2_w 215, 3) := by decide +kernel
theorem dX7_year_60 : decode cX7_year 60 = .ok (.iload 4, 2) := by decide +kernel
theorem dX7_year_62 : decode cX7_year 62 = .ok (.i2l, 1) := by decide +kernel
theorem dX7_year_63 : decode cX7_year 63 = .ok (.lmul, 1) := by decide +kernel
theorem dX7_year_64 : decode cX7_year 64 = .ok (.ladd, 1) := by decide +kernel
theorem dX7_year_65 : decode cX7_year 65 = .ok (.lconst 1, 1) := by decide +kernel
theorem dX7_year_66 : decode cX7_year 66 = .ok (.ladd, 1) := by decide +kernel
theorem dX7_year_67 : decode cX7_year 67 = .ok (.lstore 5, 2) := by decide +kernel
theorem dX7_year_69 : decode cX7_year 69 = .ok (.lload 5, 2) := by decide +kernel
theorem dX7_year_71 : decode cX7_year 71 = .ok (.lload 5, 2) := by decide +kernel
theorem dX7_year_73 : decode cX7_year 73 = .ok (.lmul, 1) := by decide +kernel
theorem dX7_year_74 : decode cX7_year 74 = .ok (.ldc2_w 217, 3) := by decide +kernel
theorem dX7_year_77 : decode cX7_year 77 = .ok (.lrem, 1) := by decide +kernel
theorem dX7_year_78 : decode cX7_year 78 = .ok (.l2i, 1) := by decide +kernel
theorem dX7_year_79 : decode cX7_year 79 = .ok (.istore 7, 2) := by decide +kernel
theorem dX7_year_81 : decode cX7_year 81 = .ok (.iload 7, 2) := by decide +kernel
theorem dX7_year_83 : decode cX7_year 83 = .ok (.bipush 8, 2) := by decide +kernel
theorem dX7_year_85 : decode cX7_year 85 = .ok (.idiv, 1) := by decide +kernel
theorem dX7_year_86 : decode cX7_year 86 = .ok (.aload_n 0, 1) := by decide +kernel
theorem dX7_year_87 : decode cX7_year 87 = .ok (.getfield 69, 3) := by decide +kernel
theorem dX7_year_90 : decode cX7_year 90 = .ok (.irem, 1) := by decide +kernel
theorem dX7_year_91 : decode cX7_year 91 = .ok (.istore 8, 2) := by decide +kernel
theorem dX7_year_93 : decode cX7_year 93 = .ok (.aload_n 0, 1) := by decide +kernel
theorem dX7_year_94 : decode cX7_year 94 = .ok (.bipush 52, 2) := by decide +kernel
theorem dX7_year_96 : decode cX7_year 96 = .ok (.iload 8, 2) := by decide +kernel
theorem dX7_year_98 : decode cX7_year 98 = .ok (.invokevirtual 138, 3) := by decide +kernel
theorem dX7_year_101 : decode cX7_year 101 = .ok (.ifCond .eq 66, 3) := by decide +kernel
theorem dX7_year_104 : decode cX7_year 104 = .ok (.iload 7, 2) := by decide +kernel
theorem dX7_year_106 : decode cX7_year 106 = .ok (.bipush 8, 2) := by decide +kernel
theorem dX7_year_108 : decode cX7_year 108 = .ok (.irem, 1) := by decide +kernel
theorem dX7_year_109 : decode cX7_year 109 = .ok (.iconst 4, 1) := by decide +kernel
theorem dX7_year_110 : decode cX7_year 110 = .ok (.if_icmp .ge 29, 3) := by decide +kernel
theorem dX7_year_113 : decode cX7_year 113 = .ok (.aload_n 0, 1) := by decide +kernel
theorem dX7_year_114 : decode cX7_year 114 = .ok (.getfield 7, 3) := by decide +kernel
theorem dX7_year_117 : decode cX7_year 117 = .ok (.bipush 64, 2) := by decide +kernel
theorem dX7_year_119 : decode cX7_year 119 = .ok (.iload 8, 2) := by decide +kernel
theorem dX7_year_121 : decode cX7_year 121 = .ok (.iadd, 1) := by decide +kernel
theorem dX7_year_122 : decode cX7_year 122 = .ok (.iaload, 1) := by decide +kernel
theorem dX7_year_123 : decode cX7_year 123 = .ok (.bipush 7, 2) := by decide +kernel
theorem dX7_year_125 : decode cX7_year 125 = .ok (.if_icmp .ge 14, 3) := by decide +kernel
theorem dX7_year_128 : decode cX7_year 128 = .ok (.aload_n 0, 1) := by decide +kernel
theorem dX7_year_129 : decode cX7_year 129 = .ok (.bipush 52, 2) := by decide +kernel
theorem dX7_year_131 : decode cX7_year 131 = .ok (.iload 8, 2) := by decide +kernel
theorem dX7_year_133 : decode cX7_year 133 = .ok (.invokevirtual 160, 3) := by decide +kernel
theorem dX7_year_136 : decode cX7_year 136 = .ok (.goto 31, 3) := by decide +kernel
theorem dX7_year_139 : decode cX7_year 139 = .ok (.iload 7, 2) := by decide +kernel
theorem dX7_year_141 : decode cX7_year 141 = .ok (.bipush 8, 2) := by decide +kernel
theorem dX7_year_143 : decode cX7_year 143 = .ok (.irem, 1) := by decide +kernel
theorem dX7_year_144 : decode cX7_year 144 = .ok (.iconst 4, 1) := by decide +kernel
theorem dX7_year_145 : decode cX7_year 145 = .ok (.if_icmp .ne 22, 3) := by decide +kernel
theorem dX7_year_148 : decode cX7_year 148 = .ok (.aload_n 0, 1) := by decide +kernel
theorem dX7_year_149 : decode cX7_year 149 = .ok (.bipush 52, 2) := by decide +kernel
theorem dX7_year_151 : decode cX7_year 151 = .ok (.iload 8, 2) := by decide +kernel
theorem dX7_year_153 : decode cX7_year 153 = .ok (.iload 7, 2) := by decide +kernel
theorem dX7_year_155 : decode cX7_year 155 = .ok (.bipush 64, 2) := by decide +kernel
theorem dX7_year_157 : decode cX7_year 157 = .ok (.idiv, 1) := by decide +kernel
theorem dX7_year_158 : decode cX7_year 158 = .ok (.bipush 9, 2) := by decide +kernel
theorem dX7_year_160 : decode cX7_year 160 = .ok (.irem, 1) := by decide +kernel
theorem dX7_year_161 : decode cX7_year 161 = .ok (.iconst 1, 1) := by decide +kernel
theorem dX7_year_162 : decode cX7_year 162 = .ok (.iadd, 1) := by decide +kernel
theorem dX7_year_163 : decode cX7_year 163 = .ok (.invokevirtual 165, 3) := by decide +kernel
theorem dX7_year_166 : decode cX7_year 166 = .ok (.pop, 1) := by decide +kernel
theorem dX7_year_167 : decode cX7_year 167 = .ok (.aload_n 0, 1) := by decide +kernel
theorem dX7_year_168 : decode cX7_year 168 = .ok (.bipush 52, 2) := by decide +kernel
theorem dX7_year_170 : decode cX7_year 170 = .ok (.invokevirtual 171, 3) := by decide +kernel
theorem dX7_year_173 : decode cX7_year 173 = .ok (.iinc 4 1, 3) := by decide +kernel
theorem dX7_year_176 : decode cX7_year 176 = .ok (.goto (-131), 3) := by decide +kernel
theorem dX7_year_179 : decode cX7_year 179 = .ok (.iload_n 3, 1) := by decide +kernel
theorem dX7_year_180 : decode cX7_year 180 = .ok (.ifCond .ne 15, 3) := by decide +kernel
theorem dX7_year_183 : decode cX7_year 183 = .ok (.aload_n 0, 1) := by decide +kernel
theorem dX7_year_184 : decode cX7_year 184 = .ok (.bipush 52, 2) := by decide +kernel
theorem dX7_year_186 : decode cX7_year 186 = .ok (.invokevirtual 186, 3) := by decide +kernel
theorem dX7_year_189 : decode cX7_year 189 = .ok (.invokestatic 189, 3) := by decide +kernel
theorem dX7_year_192 : decode cX7_year 192 = .ok (.goto 24, 3) := by decide +kernel
theorem dX7_year_195 : decode cX7_year 195 = .ok (.iload_n 3, 1) := by decide +kernel
theorem dX7_year_196 : decode cX7_year 196 = .ok (.iconst 1, 1) := by decide +kernel
theorem dX7_year_197 : decode cX7_year 197 = .ok (.if_icmp .ne 13, 3) := by decide +kernel
theorem dX7_year_200 : decode cX7_year 200 = .ok (.aload_n 0, 1) := by decide +kernel
theorem dX7_year_201 : decode cX7_year 201 = .ok (.getfield 7, 3) := by decide +kernel
theorem dX7_year_204 : decode cX7_year 204 = .ok (.bipush 52, 2) := by decide +kernel
theorem dX7_year_206 : decode cX7_year 206 = .ok (.iaload, 1) := by decide +kernel
theorem dX7_year_207 : decode cX7_year 207 = .ok (.goto 9, 3) := by decide +kernel
theorem dX7_year_210 : decode cX7_year 210 = .ok (.aload_n 0, 1) := by decide +kernel
theorem dX7_year_211 : decode cX7_year 211 = .ok (.bipush 52, 2) := by decide +kernel
theorem dX7_year_213 : decode cX7_year 213 = .ok (.invokevirtual 219, 3) := by decide +kernel
theorem dX7_year_216 : decode cX7_year 216 = .ok (.ireturn, 1) := by decide +kernel
theorem dX7_keep_0 : decode cX7_keep 0 = .ok (.aload_n 0, 1) := by decide +kernel
theorem dX7_keep_1 : decode cX7_keep 1 = .ok (.getfield 82, 3) := by decide +kernel
theorem dX7_keep_4 : decode cX7_keep 4 = .ok (.iconst 2, 1) := by decide +kernel
theorem dX7_keep_5 : decode cX7_keep 5 = .ok (.if_icmp .ne 6, 3) := by decide +kernel
theorem dX7_keep_8 : decode cX7_keep 8 = .ok (.bipush (-3), 2) := by decide +kernel
theorem dX7_keep_10 : decode cX7_keep 10 = .ok (.ireturn, 1) := by decide +kernel
theorem dX7_keep_11 : decode cX7_keep 11 = .ok (.aload_n 0, 1) := by decide +kernel
theorem dX7_keep_12 : decode cX7_keep 12 = .ok (.iconst 0, 1) := by decide +kernel
theorem dX7_keep_13 : decode cX7_keep 13 = .ok (.bipush 104, 2) := by decide +kernel
theorem dX7_keep_15 : decode cX7_keep 15 = .ok (.bipush 52, 2) := by decide +kernel
theorem dX7_keep_17 : decode cX7_keep 17 = .ok (.aload_n 0, 1) := by decide +kernel
theorem dX7_keep_18 : decode cX7_keep 18 = .ok (.getfield 82, 3) := by decide +kernel
theorem dX7_keep_21 : decode cX7_keep 21 = .ok (.imul, 1) := by decide +kernel
theorem dX7_keep_22 : decode cX7_keep 22 = .ok (.iadd, 1) := by decide +kernel
theorem dX7_keep_23 : decode cX7_keep 23 = .ok (.invokevirtual 153, 3) := by decide +kernel
theorem dX7_keep_26 : decode cX7_keep 26 = .ok (.aload_n 0, 1) := by decide +kernel
theorem dX7_keep_27 : decode cX7_keep 27 = .ok (.dup, 1) := by decide +kernel
theorem dX7_keep_28 : decode cX7_keep 28 = .ok (.getfield 82, 3) := by decide +kernel
theorem dX7_keep_31 : decode cX7_keep 31 = .ok (.iconst 1, 1) := by decide +kernel
theorem dX7_keep_32 : decode cX7_keep 32 = .ok (.iadd, 1) := by decide +kernel
theorem dX7_keep_33 : decode cX7_keep 33 = .ok (.putfield 82, 3) := by decide +kernel
theorem dX7_keep_36 : decode cX7_keep 36 = .ok (.aload_n 0, 1) := by decide +kernel
theorem dX7_keep_37 : decode cX7_keep 37 = .ok (.getfield 82, 3) := by decide +kernel
theorem dX7_keep_40 : decode cX7_keep 40 = .ok (.ireturn, 1) := by decide +kernel
theorem dX7_back_0 : decode cX7_back 0 = .ok (.aload_n 0, 1) := by decide +kernel
theorem dX7_back_1 : decode cX7_back 1 = .ok (.getfield 82, 3) := by decide +kernel
theorem dX7_back_4 : decode cX7_back 4 = .ok (.ifCond .ne 6, 3) := by decide +kernel
theorem dX7_back_7 : decode cX7_back 7 = .ok (.bipush (-2), 2) := by decide +kernel
theorem dX7_back_9 : decode cX7_back 9 = .ok (.ireturn, 1) := by decide +kernel
theorem dX7_back_10 : decode cX7_back 10 = .ok (.aload_n 0, 1) := by decide +kernel
theorem dX7_back_11 : decode cX7_back 11 = .ok (.dup, 1) := by decide +kernel
theorem dX7_back_12 : decode cX7_back 12 = .ok (.getfield 82, 3) := by decide +kernel
theorem dX7_back_15 : decode cX7_back 15 = .ok (.iconst 1, 1) := by decide +kernel
theorem dX7_back_16 : decode cX7_back 16 = .ok (.isub, 1) := by decide +kernel
theorem dX7_back_17 : decode cX7_back 17 = .ok (.putfield 82, 3) := by decide +kernel
theorem dX7_back_20 : decode cX7_back 20 = .ok (.aload_n 0, 1) := by decide +kernel
theorem dX7_back_21 : decode cX7_back 21 = .ok (.bipush 104, 2) := by decide +kernel
theorem dX7_back_23 : decode cX7_back 23 = .ok (.bipush 52, 2) := by decide +kernel
theorem dX7_back_25 : decode cX7_back 25 = .ok (.aload_n 0, 1) := by decide +kernel
theorem dX7_back_26 : decode cX7_back 26 = .ok (.getfield 82, 3) := by decide +kernel
theorem dX7_back_29 : decode cX7_back 29 = .ok (.imul, 1) := by decide +kernel
theorem dX7_back_30 : decode cX7_back 30 = .ok (.iadd, 1) := by decide +kernel
theorem dX7_back_31 : decode cX7_back 31 = .ok (.iconst 0, 1) := by decide +kernel
theorem dX7_back_32 : decode cX7_back 32 = .ok (.invokevirtual 153, 3) := by decide +kernel
theorem dX7_back_35 : decode cX7_back 35 = .ok (.aload_n 0, 1) := by decide +kernel
theorem dX7_back_36 : decode cX7_back 36 = .ok (.iconst 0, 1) := by decide +kernel
theorem dX7_back_37 : decode cX7_back 37 = .ok (.putfield 79, 3) := by decide +kernel
theorem dX7_back_40 : decode cX7_back 40 = .ok (.aload_n 0, 1) := by decide +kernel
theorem dX7_back_41 : decode cX7_back 41 = .ok (.getfield 82, 3) := by decide +kernel
theorem dX7_back_44 : decode cX7_back 44 = .ok (.ireturn, 1) := by decide +kernel
theorem dX7_propsThere_0 : decode cX7_propsThere 0 = .ok (.iconst 0, 1) := by decide +kernel
theorem dX7_propsThere_1 : decode cX7_propsThere 1 = .ok (.istore_n 1, 1) := by decide +kernel
theorem dX7_propsThere_2 : decode cX7_propsThere 2 = .ok (.iconst 0, 1) := by decide +kernel
theorem dX7_propsThere_3 : decode cX7_propsThere 3 = .ok (.istore_n 2, 1) := by decide +kernel
theorem dX7_propsThere_4 : decode cX7_propsThere 4 = .ok (.iload_n 2, 1) := by decide +kernel
theorem dX7_propsThere_5 : decode cX7_propsThere 5 = .ok (.bipush 25, 2) := by decide +kernel
theorem dX7_propsThere_7 : decode cX7_propsThere 7 = .ok (.if_icmp .ge 29, 3) := by decide +kernel
theorem dX7_propsThere_10 : decode cX7_propsThere 10 = .ok (.iload_n 1, 1) := by decide +kernel
theorem dX7_propsThere_11 : decode cX7_propsThere 11 = .ok (.aload_n 0, 1) := by decide +kernel
theorem dX7_propsThere_12 : decode cX7_propsThere 12 = .ok (.getfield 7, 3) := by decide +kernel
theorem dX7_propsThere_15 : decode cX7_propsThere 15 = .ok (.bipush 27, 2) := by decide +kernel
theorem dX7_propsThere_17 : decode cX7_propsThere 17 = .ok (.iload_n 2, 1) := by decide +kernel
theorem dX7_propsThere_18 : decode cX7_propsThere 18 = .ok (.iadd, 1) := by decide +kernel
theorem dX7_propsThere_19 : decode cX7_propsThere 19 = .ok (.iaload, 1) := by decide +kernel
theorem dX7_propsThere_20 : decode cX7_propsThere 20 = .ok (.ifCond .le 7, 3) := by decide +kernel
theorem dX7_propsThere_23 : decode cX7_propsThere 23 = .ok (.iconst 1, 1) := by decide +kernel
theorem dX7_propsThere_24 : decode cX7_propsThere 24 = .ok (.goto 4, 3) := by decide +kernel
theorem dX7_propsThere_27 : decode cX7_propsThere 27 = .ok (.iconst 0, 1) := by decide +kernel
theorem dX7_propsThere_28 : decode cX7_propsThere 28 = .ok (.iadd, 1) := by decide +kernel
theorem dX7_propsThere_29 : decode cX7_propsThere 29 = .ok (.istore_n 1, 1) := by decide +kernel
theorem dX7_propsThere_30 : decode cX7_propsThere 30 = .ok (.iinc 2 1, 3) := by decide +kernel
theorem dX7_propsThere_33 : decode cX7_propsThere 33 = .ok (.goto (-29), 3) := by decide +kernel
theorem dX7_propsThere_36 : decode cX7_propsThere 36 = .ok (.iload_n 1, 1) := by decide +kernel
theorem dX7_propsThere_37 : decode cX7_propsThere 37 = .ok (.ireturn, 1) := by decide +kernel
theorem dX7_count_0 : decode cX7_count 0 = .ok (.iload_n 1, 1) := by decide +kernel
theorem dX7_count_1 : decode cX7_count 1 = .ok (.tableswitch 114 0 9 #[55, 60, 67, 76, 83, 89, 94, 99, 104, 109], 55) := by decide +kernel
theorem dX7_count_56 : decode cX7_count 56 = .ok (.aload_n 0, 1) := by decide +kernel
theorem dX7_count_57 : decode cX7_count 57 = .ok (.getfield 69, 3) := by decide +kernel
theorem dX7_count_60 : decode cX7_count 60 = .ok (.ireturn, 1) := by decide +kernel
theorem dX7_count_61 : decode cX7_count 61 = .ok (.aload_n 0, 1) := by decide +kernel
theorem dX7_count_62 : decode cX7_count 62 = .ok (.getfield 7, 3) := by decide +kernel
theorem dX7_count_65 : decode cX7_count 65 = .ok (.iconst 1, 1) := by decide +kernel
theorem dX7_count_66 : decode cX7_count 66 = .ok (.iaload, 1) := by decide +kernel
theorem dX7_count_67 : decode cX7_count 67 = .ok (.ireturn, 1) := by decide +kernel
theorem dX7_count_68 : decode cX7_count 68 = .ok (.aload_n 0, 1) := by decide +kernel
theorem dX7_count_69 : decode cX7_count 69 = .ok (.iconst 0, 1) := by decide +kernel
theorem dX7_count_70 : decode cX7_count 70 = .ok (.invokevirtual 186, 3) := by decide +kernel
theorem dX7_count_73 : decode cX7_count 73 = .ok (.invokestatic 189, 3) := by decide +kernel
theorem dX7_count_76 : decode cX7_count 76 = .ok (.ireturn, 1) := by decide +kernel
theorem dX7_count_77 : decode cX7_count 77 = .ok (.aload_n 0, 1) := by decide +kernel
theorem dX7_count_78 : decode cX7_count 78 = .ok (.getfield 7, 3) := by decide +kernel
theorem dX7_count_81 : decode cX7_count 81 = .ok (.iconst 0, 1) := by decide +kernel
theorem dX7_count_82 : decode cX7_count 82 = .ok (.iaload, 1) := by decide +kernel
theorem dX7_count_83 : decode cX7_count 83 = .ok (.ireturn, 1) := by decide +kernel
theorem dX7_count_84 : decode cX7_count 84 = .ok (.aload_n 0, 1) := by decide +kernel
theorem dX7_count_85 : decode cX7_count 85 = .ok (.iconst 0, 1) := by decide +kernel
theorem dX7_count_86 : decode cX7_count 86 = .ok (.invokevirtual 219, 3) := by decide +kernel
theorem dX7_count_89 : decode cX7_count 89 = .ok (.ireturn, 1) := by decide +kernel
theorem dX7_count_90 : decode cX7_count 90 = .ok (.aload_n 0, 1) := by decide +kernel
theorem dX7_count_91 : decode cX7_count 91 = .ok (.invokevirtual 222, 3) := by decide +kernel
theorem dX7_count_94 : decode cX7_count 94 = .ok (.ireturn, 1) := by decide +kernel
theorem dX7_count_95 : decode cX7_count 95 = .ok (.aload_n 0, 1) := by decide +kernel
theorem dX7_count_96 : decode cX7_count 96 = .ok (.getfield 85, 3) := by decide +kernel
theorem dX7_count_99 : decode cX7_count 99 = .ok (.ireturn, 1) := by decide +kernel
theorem dX7_count_100 : decode cX7_count 100 = .ok (.aload_n 0, 1) := by decide +kernel
theorem dX7_count_101 : decode cX7_count 101 = .ok (.getfield 79, 3) := by decide +kernel
theorem dX7_count_104 : decode cX7_count 104 = .ok (.ireturn, 1) := by decide +kernel
theorem dX7_count_105 : decode cX7_count 105 = .ok (.aload_n 0, 1) := by decide +kernel
theorem dX7_count_106 : decode cX7_count 106 = .ok (.getfield 82, 3) := by decide +kernel
theorem dX7_count_109 : decode cX7_count 109 = .ok (.ireturn, 1) := by decide +kernel
theorem dX7_count_110 : decode cX7_count 110 = .ok (.aload_n 0, 1) := by decide +kernel
theorem dX7_count_111 : decode cX7_count 111 = .ok (.getfield 92, 3) := by decide +kernel
theorem dX7_count_114 : decode cX7_count 114 = .ok (.ireturn, 1) := by decide +kernel
theorem dX7_count_115 : decode cX7_count 115 = .ok (.iconst (-1), 1) := by decide +kernel
theorem dX7_count_116 : decode cX7_count 116 = .ok (.ireturn, 1) := by decide +kernel
