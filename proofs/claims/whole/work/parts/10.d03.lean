theorem dX7_holds_10 : decode cX7_holds 10 = .ok (.invokevirtual 130, 3) := by decide +kernel
theorem dX7_holds_13 : decode cX7_holds 13 = .ok (.ifCond .eq 24, 3) := by decide +kernel
theorem dX7_holds_16 : decode cX7_holds 16 = .ok (.iload_n 1, 1) := by decide +kernel
theorem dX7_holds_17 : decode cX7_holds 17 = .ok (.iload_n 2, 1) := by decide +kernel
theorem dX7_holds_18 : decode cX7_holds 18 = .ok (.if_icmp .eq 19, 3) := by decide +kernel
theorem dX7_holds_21 : decode cX7_holds 21 = .ok (.aload_n 0, 1) := by decide +kernel
theorem dX7_holds_22 : decode cX7_holds 22 = .ok (.getfield 7, 3) := by decide +kernel
theorem dX7_holds_25 : decode cX7_holds 25 = .ok (.bipush 27, 2) := by decide +kernel
theorem dX7_holds_27 : decode cX7_holds 27 = .ok (.iconst 5, 1) := by decide +kernel
theorem dX7_holds_28 : decode cX7_holds 28 = .ok (.iload_n 1, 1) := by decide +kernel
theorem dX7_holds_29 : decode cX7_holds 29 = .ok (.imul, 1) := by decide +kernel
theorem dX7_holds_30 : decode cX7_holds 30 = .ok (.iadd, 1) := by decide +kernel
theorem dX7_holds_31 : decode cX7_holds 31 = .ok (.iload_n 2, 1) := by decide +kernel
theorem dX7_holds_32 : decode cX7_holds 32 = .ok (.iadd, 1) := by decide +kernel
theorem dX7_holds_33 : decode cX7_holds 33 = .ok (.iaload, 1) := by decide +kernel
theorem dX7_holds_34 : decode cX7_holds 34 = .ok (.goto 4, 3) := by decide +kernel
theorem dX7_holds_37 : decode cX7_holds 37 = .ok (.iconst (-1), 1) := by decide +kernel
theorem dX7_holds_38 : decode cX7_holds 38 = .ok (.ireturn, 1) := by decide +kernel
theorem dX7_stands_0 : decode cX7_stands 0 = .ok (.aload_n 0, 1) := by decide +kernel
theorem dX7_stands_1 : decode cX7_stands 1 = .ok (.getfield 7, 3) := by decide +kernel
theorem dX7_stands_4 : decode cX7_stands 4 = .ok (.iload_n 1, 1) := by decide +kernel
theorem dX7_stands_5 : decode cX7_stands 5 = .ok (.bipush 7, 2) := by decide +kernel
theorem dX7_stands_7 : decode cX7_stands 7 = .ok (.iadd, 1) := by decide +kernel
theorem dX7_stands_8 : decode cX7_stands 8 = .ok (.iload_n 2, 1) := by decide +kernel
theorem dX7_stands_9 : decode cX7_stands 9 = .ok (.iadd, 1) := by decide +kernel
theorem dX7_stands_10 : decode cX7_stands 10 = .ok (.iaload, 1) := by decide +kernel
theorem dX7_stands_11 : decode cX7_stands 11 = .ok (.ifCond .ne 7, 3) := by decide +kernel
theorem dX7_stands_14 : decode cX7_stands 14 = .ok (.iconst 1, 1) := by decide +kernel
theorem dX7_stands_15 : decode cX7_stands 15 = .ok (.goto 4, 3) := by decide +kernel
theorem dX7_stands_18 : decode cX7_stands 18 = .ok (.iconst 0, 1) := by decide +kernel
theorem dX7_stands_19 : decode cX7_stands 19 = .ok (.ireturn, 1) := by decide +kernel
theorem dX7_fellsOne_0 : decode cX7_fellsOne 0 = .ok (.iload_n 3, 1) := by decide +kernel
theorem dX7_fellsOne_1 : decode cX7_fellsOne 1 = .ok (.ifCond .eq 23, 3) := by decide +kernel
theorem dX7_fellsOne_4 : decode cX7_fellsOne 4 = .ok (.aload_n 0, 1) := by decide +kernel
theorem dX7_fellsOne_5 : decode cX7_fellsOne 5 = .ok (.getfield 7, 3) := by decide +kernel
theorem dX7_fellsOne_8 : decode cX7_fellsOne 8 = .ok (.iload_n 1, 1) := by decide +kernel
theorem dX7_fellsOne_9 : decode cX7_fellsOne 9 = .ok (.iconst 0, 1) := by decide +kernel
theorem dX7_fellsOne_10 : decode cX7_fellsOne 10 = .ok (.iadd, 1) := by decide +kernel
theorem dX7_fellsOne_11 : decode cX7_fellsOne 11 = .ok (.dup2, 1) := by decide +kernel
theorem dX7_fellsOne_12 : decode cX7_fellsOne 12 = .ok (.iaload, 1) := by decide +kernel
theorem dX7_fellsOne_13 : decode cX7_fellsOne 13 = .ok (.aload_n 0, 1) := by decide +kernel
theorem dX7_fellsOne_14 : decode cX7_fellsOne 14 = .ok (.getfield 16, 3) := by decide +kernel
theorem dX7_fellsOne_17 : decode cX7_fellsOne 17 = .ok (.iload_n 2, 1) := by decide +kernel
theorem dX7_fellsOne_18 : decode cX7_fellsOne 18 = .ok (.iaload, 1) := by decide +kernel
theorem dX7_fellsOne_19 : decode cX7_fellsOne 19 = .ok (.iadd, 1) := by decide +kernel
theorem dX7_fellsOne_20 : decode cX7_fellsOne 20 = .ok (.iastore, 1) := by decide +kernel
theorem dX7_fellsOne_21 : decode cX7_fellsOne 21 = .ok (.goto 30, 3) := by decide +kernel
theorem dX7_fellsOne_24 : decode cX7_fellsOne 24 = .ok (.iload_n 2, 1) := by decide +kernel
theorem dX7_fellsOne_25 : decode cX7_fellsOne 25 = .ok (.iconst 1, 1) := by decide +kernel
theorem dX7_fellsOne_26 : decode cX7_fellsOne 26 = .ok (.iadd, 1) := by decide +kernel
theorem dX7_fellsOne_27 : decode cX7_fellsOne 27 = .ok (.aload_n 0, 1) := by decide +kernel
theorem dX7_fellsOne_28 : decode cX7_fellsOne 28 = .ok (.getfield 69, 3) := by decide +kernel
theorem dX7_fellsOne_31 : decode cX7_fellsOne 31 = .ok (.if_icmp .ge 20, 3) := by decide +kernel
theorem dX7_fellsOne_34 : decode cX7_fellsOne 34 = .ok (.aload_n 0, 1) := by decide +kernel
theorem dX7_fellsOne_35 : decode cX7_fellsOne 35 = .ok (.getfield 7, 3) := by decide +kernel
theorem dX7_fellsOne_38 : decode cX7_fellsOne 38 = .ok (.iload_n 1, 1) := by decide +kernel
theorem dX7_fellsOne_39 : decode cX7_fellsOne 39 = .ok (.bipush 17, 2) := by decide +kernel
theorem dX7_fellsOne_41 : decode cX7_fellsOne 41 = .ok (.iadd, 1) := by decide +kernel
theorem dX7_fellsOne_42 : decode cX7_fellsOne 42 = .ok (.iload_n 2, 1) := by decide +kernel
theorem dX7_fellsOne_43 : decode cX7_fellsOne 43 = .ok (.iadd, 1) := by decide +kernel
theorem dX7_fellsOne_44 : decode cX7_fellsOne 44 = .ok (.iconst 1, 1) := by decide +kernel
theorem dX7_fellsOne_45 : decode cX7_fellsOne 45 = .ok (.iadd, 1) := by decide +kernel
theorem dX7_fellsOne_46 : decode cX7_fellsOne 46 = .ok (.dup2, 1) := by decide +kernel
theorem dX7_fellsOne_47 : decode cX7_fellsOne 47 = .ok (.iaload, 1) := by decide +kernel
theorem dX7_fellsOne_48 : decode cX7_fellsOne 48 = .ok (.iconst 1, 1) := by decide +kernel
theorem dX7_fellsOne_49 : decode cX7_fellsOne 49 = .ok (.iadd, 1) := by decide +kernel
theorem dX7_fellsOne_50 : decode cX7_fellsOne 50 = .ok (.iastore, 1) := by decide +kernel
theorem dX7_fellsOne_51 : decode cX7_fellsOne 51 = .ok (.aload_n 0, 1) := by decide +kernel
theorem dX7_fellsOne_52 : decode cX7_fellsOne 52 = .ok (.getfield 7, 3) := by decide +kernel
theorem dX7_fellsOne_55 : decode cX7_fellsOne 55 = .ok (.iload_n 1, 1) := by decide +kernel
theorem dX7_fellsOne_56 : decode cX7_fellsOne 56 = .ok (.bipush 12, 2) := by decide +kernel
theorem dX7_fellsOne_58 : decode cX7_fellsOne 58 = .ok (.iadd, 1) := by decide +kernel
theorem dX7_fellsOne_59 : decode cX7_fellsOne 59 = .ok (.iload_n 2, 1) := by decide +kernel
theorem dX7_fellsOne_60 : decode cX7_fellsOne 60 = .ok (.iadd, 1) := by decide +kernel
theorem dX7_fellsOne_61 : decode cX7_fellsOne 61 = .ok (.iconst 0, 1) := by decide +kernel
theorem dX7_fellsOne_62 : decode cX7_fellsOne 62 = .ok (.iastore, 1) := by decide +kernel
theorem dX7_fellsOne_63 : decode cX7_fellsOne 63 = .ok (.aload_n 0, 1) := by decide +kernel
theorem dX7_fellsOne_64 : decode cX7_fellsOne 64 = .ok (.getfield 13, 3) := by decide +kernel
theorem dX7_fellsOne_67 : decode cX7_fellsOne 67 = .ok (.iload_n 2, 1) := by decide +kernel
theorem dX7_fellsOne_68 : decode cX7_fellsOne 68 = .ok (.iaload, 1) := by decide +kernel
theorem dX7_fellsOne_69 : decode cX7_fellsOne 69 = .ok (.iconst 3, 1) := by decide +kernel
theorem dX7_fellsOne_70 : decode cX7_fellsOne 70 = .ok (.if_icmp .ne 51, 3) := by decide +kernel
theorem dX7_fellsOne_73 : decode cX7_fellsOne 73 = .ok (.aload_n 0, 1) := by decide +kernel
theorem dX7_fellsOne_74 : decode cX7_fellsOne 74 = .ok (.getfield 7, 3) := by decide +kernel
theorem dX7_fellsOne_77 : decode cX7_fellsOne 77 = .ok (.iload_n 1, 1) := by decide +kernel
theorem dX7_fellsOne_78 : decode cX7_fellsOne 78 = .ok (.bipush 22, 2) := by decide +kernel
theorem dX7_fellsOne_80 : decode cX7_fellsOne 80 = .ok (.iadd, 1) := by decide +kernel
theorem dX7_fellsOne_81 : decode cX7_fellsOne 81 = .ok (.iload_n 2, 1) := by decide +kernel
theorem dX7_fellsOne_82 : decode cX7_fellsOne 82 = .ok (.iadd, 1) := by decide +kernel
theorem dX7_fellsOne_83 : decode cX7_fellsOne 83 = .ok (.iaload, 1) := by decide +kernel
theorem dX7_fellsOne_84 : decode cX7_fellsOne 84 = .ok (.ifCond .ne 37, 3) := by decide +kernel
theorem dX7_fellsOne_87 : decode cX7_fellsOne 87 = .ok (.aload_n 0, 1) := by decide +kernel
theorem dX7_fellsOne_88 : decode cX7_fellsOne 88 = .ok (.getfield 7, 3) := by decide +kernel
theorem dX7_fellsOne_91 : decode cX7_fellsOne 91 = .ok (.iload_n 1, 1) := by decide +kernel
theorem dX7_fellsOne_92 : decode cX7_fellsOne 92 = .ok (.bipush 22, 2) := by decide +kernel
theorem dX7_fellsOne_94 : decode cX7_fellsOne 94 = .ok (.iadd, 1) := by decide +kernel
theorem dX7_fellsOne_95 : decode cX7_fellsOne 95 = .ok (.iload_n 2, 1) := by decide +kernel
theorem dX7_fellsOne_96 : decode cX7_fellsOne 96 = .ok (.iadd, 1) := by decide +kernel
theorem dX7_fellsOne_97 : decode cX7_fellsOne 97 = .ok (.iconst 1, 1) := by decide +kernel
theorem dX7_fellsOne_98 : decode cX7_fellsOne 98 = .ok (.iastore, 1) := by decide +kernel
theorem dX7_fellsOne_99 : decode cX7_fellsOne 99 = .ok (.aload_n 0, 1) := by decide +kernel
theorem dX7_fellsOne_100 : decode cX7_fellsOne 100 = .ok (.getfield 7, 3) := by decide +kernel
theorem dX7_fellsOne_103 : decode cX7_fellsOne 103 = .ok (.iload_n 1, 1) := by decide +kernel
theorem dX7_fellsOne_104 : decode cX7_fellsOne 104 = .ok (.iconst 2, 1) := by decide +kernel
theorem dX7_fellsOne_105 : decode cX7_fellsOne 105 = .ok (.iadd, 1) := by decide +kernel
theorem dX7_fellsOne_106 : decode cX7_fellsOne 106 = .ok (.iload_n 2, 1) := by decide +kernel
theorem dX7_fellsOne_107 : decode cX7_fellsOne 107 = .ok (.iadd, 1) := by decide +kernel
theorem dX7_fellsOne_108 : decode cX7_fellsOne 108 = .ok (.aload_n 0, 1) := by decide +kernel
theorem dX7_fellsOne_109 : decode cX7_fellsOne 109 = .ok (.getfield 16, 3) := by decide +kernel
theorem dX7_fellsOne_112 : decode cX7_fellsOne 112 = .ok (.iload_n 2, 1) := by decide +kernel
theorem dX7_fellsOne_113 : decode cX7_fellsOne 113 = .ok (.iaload, 1) := by decide +kernel
theorem dX7_fellsOne_114 : decode cX7_fellsOne 114 = .ok (.iconst 2, 1) := by decide +kernel
theorem dX7_fellsOne_115 : decode cX7_fellsOne 115 = .ok (.idiv, 1) := by decide +kernel
theorem dX7_fellsOne_116 : decode cX7_fellsOne 116 = .ok (.iconst 1, 1) := by decide +kernel
theorem dX7_fellsOne_117 : decode cX7_fellsOne 117 = .ok (.iadd, 1) := by decide +kernel
theorem dX7_fellsOne_118 : decode cX7_fellsOne 118 = .ok (.iastore, 1) := by decide +kernel
theorem dX7_fellsOne_119 : decode cX7_fellsOne 119 = .ok (.iconst 0, 1) := by decide +kernel
theorem dX7_fellsOne_120 : decode cX7_fellsOne 120 = .ok (.ireturn, 1) := by decide +kernel
theorem dX7_fellsOne_121 : decode cX7_fellsOne 121 = .ok (.aload_n 0, 1) := by decide +kernel
theorem dX7_fellsOne_122 : decode cX7_fellsOne 122 = .ok (.getfield 7, 3) := by decide +kernel
theorem dX7_fellsOne_125 : decode cX7_fellsOne 125 = .ok (.iload_n 1, 1) := by decide +kernel
theorem dX7_fellsOne_126 : decode cX7_fellsOne 126 = .ok (.bipush 7, 2) := by decide +kernel
theorem dX7_fellsOne_128 : decode cX7_fellsOne 128 = .ok (.iadd, 1) := by decide +kernel
theorem dX7_fellsOne_129 : decode cX7_fellsOne 129 = .ok (.iload_n 2, 1) := by decide +kernel
theorem dX7_fellsOne_130 : decode cX7_fellsOne 130 = .ok (.iadd, 1) := by decide +kernel
theorem dX7_fellsOne_131 : decode cX7_fellsOne 131 = .ok (.iconst 1, 1) := by decide +kernel
theorem dX7_fellsOne_132 : decode cX7_fellsOne 132 = .ok (.iastore, 1) := by decide +kernel
theorem dX7_fellsOne_133 : decode cX7_fellsOne 133 = .ok (.aload_n 0, 1) := by decide +kernel
theorem dX7_fellsOne_134 : decode cX7_fellsOne 134 = .ok (.getfield 7, 3) := by decide +kernel
theorem dX7_fellsOne_137 : decode cX7_fellsOne 137 = .ok (.iload_n 1, 1) := by decide +kernel
theorem dX7_fellsOne_138 : decode cX7_fellsOne 138 = .ok (.iconst 2, 1) := by decide +kernel
theorem dX7_fellsOne_139 : decode cX7_fellsOne 139 = .ok (.iadd, 1) := by decide +kernel
theorem dX7_fellsOne_140 : decode cX7_fellsOne 140 = .ok (.iload_n 2, 1) := by decide +kernel
theorem dX7_fellsOne_141 : decode cX7_fellsOne 141 = .ok (.iadd, 1) := by decide +kernel
theorem dX7_fellsOne_142 : decode cX7_fellsOne 142 = .ok (.iconst 0, 1) := by decide +kernel
theorem dX7_fellsOne_143 : decode cX7_fellsOne 143 = .ok (.iastore, 1) := by decide +kernel
theorem dX7_fellsOne_144 : decode cX7_fellsOne 144 = .ok (.iconst 0, 1) := by decide +kernel
theorem dX7_fellsOne_145 : decode cX7_fellsOne 145 = .ok (.istore 4, 2) := by decide +kernel
theorem dX7_fellsOne_147 : decode cX7_fellsOne 147 = .ok (.iload 4, 2) := by decide +kernel
theorem dX7_fellsOne_149 : decode cX7_fellsOne 149 = .ok (.aload_n 0, 1) := by decide +kernel
theorem dX7_fellsOne_150 : decode cX7_fellsOne 150 = .ok (.getfield 69, 3) := by decide +kernel
theorem dX7_fellsOne_153 : decode cX7_fellsOne 153 = .ok (.if_icmp .ge 53, 3) := by decide +kernel
theorem dX7_fellsOne_156 : decode cX7_fellsOne 156 = .ok (.aload_n 0, 1) := by decide +kernel
theorem dX7_fellsOne_157 : decode cX7_fellsOne 157 = .ok (.getfield 7, 3) := by decide +kernel
theorem dX7_fellsOne_160 : decode cX7_fellsOne 160 = .ok (.iload_n 1, 1) := by decide +kernel
theorem dX7_fellsOne_161 : decode cX7_fellsOne 161 = .ok (.iconst 2, 1) := by decide +kernel
theorem dX7_fellsOne_162 : decode cX7_fellsOne 162 = .ok (.iadd, 1) := by decide +kernel
theorem dX7_fellsOne_163 : decode cX7_fellsOne 163 = .ok (.iload 4, 2) := by decide +kernel
theorem dX7_fellsOne_165 : decode cX7_fellsOne 165 = .ok (.iadd, 1) := by decide +kernel
theorem dX7_fellsOne_166 : decode cX7_fellsOne 166 = .ok (.dup2, 1) := by decide +kernel
theorem dX7_fellsOne_167 : decode cX7_fellsOne 167 = .ok (.iaload, 1) := by decide +kernel
theorem dX7_fellsOne_168 : decode cX7_fellsOne 168 = .ok (.aload_n 0, 1) := by decide +kernel
theorem dX7_fellsOne_169 : decode cX7_fellsOne 169 = .ok (.iload_n 1, 1) := by decide +kernel
theorem dX7_fellsOne_170 : decode cX7_fellsOne 170 = .ok (.iload 4, 2) := by decide +kernel
theorem dX7_fellsOne_172 : decode cX7_fellsOne 172 = .ok (.invokevirtual 138, 3) := by decide +kernel
theorem dX7_fellsOne_175 : decode cX7_fellsOne 175 = .ok (.ifCond .eq 22, 3) := by decide +kernel
theorem dX7_fellsOne_178 : decode cX7_fellsOne 178 = .ok (.aload_n 0, 1) := by decide +kernel
theorem dX7_fellsOne_179 : decode cX7_fellsOne 179 = .ok (.getfield 7, 3) := by decide +kernel
theorem dX7_fellsOne_182 : decode cX7_fellsOne 182 = .ok (.iload_n 1, 1) := by decide +kernel
theorem dX7_fellsOne_183 : decode cX7_fellsOne 183 = .ok (.bipush 27, 2) := by decide +kernel
theorem dX7_fellsOne_185 : decode cX7_fellsOne 185 = .ok (.iadd, 1) := by decide +kernel
theorem dX7_fellsOne_186 : decode cX7_fellsOne 186 = .ok (.iconst 5, 1) := by decide +kernel
theorem dX7_fellsOne_187 : decode cX7_fellsOne 187 = .ok (.iload_n 2, 1) := by decide +kernel
theorem dX7_fellsOne_188 : decode cX7_fellsOne 188 = .ok (.imul, 1) := by decide +kernel
theorem dX7_fellsOne_189 : decode cX7_fellsOne 189 = .ok (.iadd, 1) := by decide +kernel
theorem dX7_fellsOne_190 : decode cX7_fellsOne 190 = .ok (.iload 4, 2) := by decide +kernel
theorem dX7_fellsOne_192 : decode cX7_fellsOne 192 = .ok (.iadd, 1) := by decide +kernel
theorem dX7_fellsOne_193 : decode cX7_fellsOne 193 = .ok (.iaload, 1) := by decide +kernel
theorem dX7_fellsOne_194 : decode cX7_fellsOne 194 = .ok (.goto 4, 3) := by decide +kernel
theorem dX7_fellsOne_197 : decode cX7_fellsOne 197 = .ok (.iconst 0, 1) := by decide +kernel
theorem dX7_fellsOne_198 : decode cX7_fellsOne 198 = .ok (.isub, 1) := by decide +kernel
theorem dX7_fellsOne_199 : decode cX7_fellsOne 199 = .ok (.iastore, 1) := by decide +kernel
theorem dX7_fellsOne_200 : decode cX7_fellsOne 200 = .ok (.iinc 4 1, 3) := by decide +kernel
theorem dX7_fellsOne_203 : decode cX7_fellsOne 203 = .ok (.goto (-56), 3) := by decide +kernel
theorem dX7_fellsOne_206 : decode cX7_fellsOne 206 = .ok (.iconst 1, 1) := by decide +kernel
theorem dX7_fellsOne_207 : decode cX7_fellsOne 207 = .ok (.ireturn, 1) := by decide +kernel
theorem dX7_falls_0 : decode cX7_falls 0 = .ok (.iconst 0, 1) := by decide +kernel
theorem dX7_falls_1 : decode cX7_falls 1 = .ok (.istore 4, 2) := by decide +kernel
theorem dX7_falls_3 : decode cX7_falls 3 = .ok (.aload_n 0, 1) := by decide +kernel
theorem dX7_falls_4 : decode cX7_falls 4 = .ok (.iload_n 1, 1) := by decide +kernel
theorem dX7_falls_5 : decode cX7_falls 5 = .ok (.iload_n 2, 1) := by decide +kernel
theorem dX7_falls_6 : decode cX7_falls 6 = .ok (.iload_n 3, 1) := by decide +kernel
theorem dX7_falls_7 : decode cX7_falls 7 = .ok (.invokevirtual 142, 3) := by decide +kernel
theorem dX7_falls_10 : decode cX7_falls 10 = .ok (.ifCond .eq 20, 3) := by decide +kernel
theorem dX7_falls_13 : decode cX7_falls 13 = .ok (.aload_n 0, 1) := by decide +kernel
theorem dX7_falls_14 : decode cX7_falls 14 = .ok (.getfield 40, 3) := by decide +kernel
theorem dX7_falls_17 : decode cX7_falls 17 = .ok (.iconst 0, 1) := by decide +kernel
theorem dX7_falls_18 : decode cX7_falls 18 = .ok (.iload_n 2, 1) := by decide +kernel
theorem dX7_falls_19 : decode cX7_falls 19 = .ok (.iastore, 1) := by decide +kernel
theorem dX7_falls_20 : decode cX7_falls 20 = .ok (.aload_n 0, 1) := by decide +kernel
theorem dX7_falls_21 : decode cX7_falls 21 = .ok (.getfield 43, 3) := by decide +kernel
theorem dX7_falls_24 : decode cX7_falls 24 = .ok (.iconst 0, 1) := by decide +kernel
theorem dX7_falls_25 : decode cX7_falls 25 = .ok (.iconst 0, 1) := by decide +kernel
theorem dX7_falls_26 : decode cX7_falls 26 = .ok (.iastore, 1) := by decide +kernel
theorem dX7_falls_27 : decode cX7_falls 27 = .ok (.iconst 1, 1) := by decide +kernel
theorem dX7_falls_28 : decode cX7_falls 28 = .ok (.istore 4, 2) := by decide +kernel
theorem dX7_falls_30 : decode cX7_falls 30 = .ok (.iload 4, 2) := by decide +kernel
theorem dX7_falls_32 : decode cX7_falls 32 = .ok (.ifCond .le 131, 3) := by decide +kernel
theorem dX7_falls_35 : decode cX7_falls 35 = .ok (.aload_n 0, 1) := by decide +kernel
theorem dX7_falls_36 : decode cX7_falls 36 = .ok (.getfield 40, 3) := by decide +kernel
theorem dX7_falls_39 : decode cX7_falls 39 = .ok (.iload 4, 2) := by decide +kernel
theorem dX7_falls_41 : decode cX7_falls 41 = .ok (.iconst 1, 1) := by decide +kernel
theorem dX7_falls_42 : decode cX7_falls 42 = .ok (.isub, 1) := by decide +kernel
theorem dX7_falls_43 : decode cX7_falls 43 = .ok (.iaload, 1) := by decide +kernel
theorem dX7_falls_44 : decode cX7_falls 44 = .ok (.istore 5, 2) := by decide +kernel
theorem dX7_falls_46 : decode cX7_falls 46 = .ok (.aload_n 0, 1) := by decide +kernel
theorem dX7_falls_47 : decode cX7_falls 47 = .ok (.getfield 43, 3) := by decide +kernel
theorem dX7_falls_50 : decode cX7_falls 50 = .ok (.iload 4, 2) := by decide +kernel
theorem dX7_falls_52 : decode cX7_falls 52 = .ok (.iconst 1, 1) := by decide +kernel
theorem dX7_falls_53 : decode cX7_falls 53 = .ok (.isub, 1) := by decide +kernel
theorem dX7_falls_54 : decode cX7_falls 54 = .ok (.iaload, 1) := by decide +kernel
theorem dX7_falls_55 : decode cX7_falls 55 = .ok (.istore 6, 2) := by decide +kernel
theorem dX7_falls_57 : decode cX7_falls 57 = .ok (.iload 6, 2) := by decide +kernel
theorem dX7_falls_59 : decode cX7_falls 59 = .ok (.aload_n 0, 1) := by decide +kernel
theorem dX7_falls_60 : decode cX7_falls 60 = .ok (.getfield 69, 3) := by decide +kernel
theorem dX7_falls_63 : decode cX7_falls 63 = .ok (.if_icmp .ne 9, 3) := by decide +kernel
theorem dX7_falls_66 : decode cX7_falls 66 = .ok (.iinc 4 (-1), 3) := by decide +kernel
theorem dX7_falls_69 : decode cX7_falls 69 = .ok (.goto 91, 3) := by decide +kernel
theorem dX7_falls_72 : decode cX7_falls 72 = .ok (.aload_n 0, 1) := by decide +kernel
theorem dX7_falls_73 : decode cX7_falls 73 = .ok (.getfield 43, 3) := by decide +kernel
theorem dX7_falls_76 : decode cX7_falls 76 = .ok (.iload 4, 2) := by decide +kernel
theorem dX7_falls_78 : decode cX7_falls 78 = .ok (.iconst 1, 1) := by decide +kernel
theorem dX7_falls_79 : decode cX7_falls 79 = .ok (.isub, 1) := by decide +kernel
theorem dX7_falls_80 : decode cX7_falls 80 = .ok (.dup2, 1) := by decide +kernel
theorem dX7_falls_81 : decode cX7_falls 81 = .ok (.iaload, 1) := by decide +kernel
theorem dX7_falls_82 : decode cX7_falls 82 = .ok (.iconst 1, 1) := by decide +kernel
theorem dX7_falls_83 : decode cX7_falls 83 = .ok (.iadd, 1) := by decide +kernel
theorem dX7_falls_84 : decode cX7_falls 84 = .ok (.iastore, 1) := by decide +kernel
theorem dX7_falls_85 : decode cX7_falls 85 = .ok (.aload_n 0, 1) := by decide +kernel
theorem dX7_falls_86 : decode cX7_falls 86 = .ok (.getfield 7, 3) := by decide +kernel
theorem dX7_falls_89 : decode cX7_falls 89 = .ok (.iload_n 1, 1) := by decide +kernel
theorem dX7_falls_90 : decode cX7_falls 90 = .ok (.bipush 27, 2) := by decide +kernel
theorem dX7_falls_92 : decode cX7_falls 92 = .ok (.iadd, 1) := by decide +kernel
theorem dX7_falls_93 : decode cX7_falls 93 = .ok (.iconst 5, 1) := by decide +kernel
theorem dX7_falls_94 : decode cX7_falls 94 = .ok (.iload 5, 2) := by decide +kernel
theorem dX7_falls_96 : decode cX7_falls 96 = .ok (.imul, 1) := by decide +kernel
theorem dX7_falls_97 : decode cX7_falls 97 = .ok (.iadd, 1) := by decide +kernel
theorem dX7_falls_98 : decode cX7_falls 98 = .ok (.iload 6, 2) := by decide +kernel
theorem dX7_falls_100 : decode cX7_falls 100 = .ok (.iadd, 1) := by decide +kernel
theorem dX7_falls_101 : decode cX7_falls 101 = .ok (.iaload, 1) := by decide +kernel
theorem dX7_falls_102 : decode cX7_falls 102 = .ok (.ifCond .le 58, 3) := by decide +kernel
theorem dX7_falls_105 : decode cX7_falls 105 = .ok (.aload_n 0, 1) := by decide +kernel
theorem dX7_falls_106 : decode cX7_falls 106 = .ok (.iload_n 1, 1) := by decide +kernel
theorem dX7_falls_107 : decode cX7_falls 107 = .ok (.iload 6, 2) := by decide +kernel
theorem dX7_falls_109 : decode cX7_falls 109 = .ok (.invokevirtual 138, 3) := by decide +kernel
theorem dX7_falls_112 : decode cX7_falls 112 = .ok (.ifCond .eq 48, 3) := by decide +kernel
theorem dX7_falls_115 : decode cX7_falls 115 = .ok (.aload_n 0, 1) := by decide +kernel
theorem dX7_falls_116 : decode cX7_falls 116 = .ok (.getfield 7, 3) := by decide +kernel
theorem dX7_falls_119 : decode cX7_falls 119 = .ok (.iload_n 1, 1) := by decide +kernel
theorem dX7_falls_120 : decode cX7_falls 120 = .ok (.iconst 2, 1) := by decide +kernel
theorem dX7_falls_121 : decode cX7_falls 121 = .ok (.iadd, 1) := by decide +kernel
theorem dX7_falls_122 : decode cX7_falls 122 = .ok (.iload 6, 2) := by decide +kernel
theorem dX7_falls_124 : decode cX7_falls 124 = .ok (.iadd, 1) := by decide +kernel
theorem dX7_falls_125 : decode cX7_falls 125 = .ok (.iaload, 1) := by decide +kernel
theorem dX7_falls_126 : decode cX7_falls 126 = .ok (.ifCond .gt 34, 3) := by decide +kernel
theorem dX7_falls_129 : decode cX7_falls 129 = .ok (.aload_n 0, 1) := by decide +kernel
theorem dX7_falls_130 : decode cX7_falls 130 = .ok (.iload_n 1, 1) := by decide +kernel
theorem dX7_falls_131 : decode cX7_falls 131 = .ok (.iload 6, 2) := by decide +kernel
theorem dX7_falls_133 : decode cX7_falls 133 = .ok (.iconst 1, 1) := by decide +kernel
theorem dX7_falls_134 : decode cX7_falls 134 = .ok (.invokevirtual 142, 3) := by decide +kernel
theorem dX7_falls_137 : decode cX7_falls 137 = .ok (.ifCond .eq 23, 3) := by decide +kernel
theorem dX7_falls_140 : decode cX7_falls 140 = .ok (.aload_n 0, 1) := by decide +kernel
theorem dX7_falls_141 : decode cX7_falls 141 = .ok (.getfield 40, 3) := by decide +kernel
theorem dX7_falls_144 : decode cX7_falls 144 = .ok (.iload 4, 2) := by decide +kernel
theorem dX7_falls_146 : decode cX7_falls 146 = .ok (.iload 6, 2) := by decide +kernel
theorem dX7_falls_148 : decode cX7_falls 148 = .ok (.iastore, 1) := by decide +kernel
theorem dX7_falls_149 : decode cX7_falls 149 = .ok (.aload_n 0, 1) := by decide +kernel
theorem dX7_falls_150 : decode cX7_falls 150 = .ok (.getfield 43, 3) := by decide +kernel
theorem dX7_falls_153 : decode cX7_falls 153 = .ok (.iload 4, 2) := by decide +kernel
theorem dX7_falls_155 : decode cX7_falls 155 = .ok (.iconst 0, 1) := by decide +kernel
theorem dX7_falls_156 : decode cX7_falls 156 = .ok (.iastore, 1) := by decide +kernel
theorem dX7_falls_157 : decode cX7_falls 157 = .ok (.iinc 4 1, 3) := by decide +kernel
theorem dX7_falls_160 : decode cX7_falls 160 = .ok (.goto (-130), 3) := by decide +kernel
theorem dX7_falls_163 : decode cX7_falls 163 = .ok (.return_, 1) := by decide +kernel
theorem dX7_wouldFall_0 : decode cX7_wouldFall 0 = .ok (.iload_n 3, 1) := by decide +kernel
theorem dX7_wouldFall_1 : decode cX7_wouldFall 1 = .ok (.aload_n 0, 1) := by decide +kernel
theorem dX7_wouldFall_2 : decode cX7_wouldFall 2 = .ok (.getfield 7, 3) := by decide +kernel
theorem dX7_wouldFall_5 : decode cX7_wouldFall 5 = .ok (.iload_n 1, 1) := by decide +kernel
theorem dX7_wouldFall_6 : decode cX7_wouldFall 6 = .ok (.bipush 12, 2) := by decide +kernel
theorem dX7_wouldFall_8 : decode cX7_wouldFall 8 = .ok (.iadd, 1) := by decide +kernel
theorem dX7_wouldFall_9 : decode cX7_wouldFall 9 = .ok (.iload_n 2, 1) := by decide +kernel
theorem dX7_wouldFall_10 : decode cX7_wouldFall 10 = .ok (.iadd, 1) := by decide +kernel
theorem dX7_wouldFall_11 : decode cX7_wouldFall 11 = .ok (.iaload, 1) := by decide +kernel
theorem dX7_wouldFall_12 : decode cX7_wouldFall 12 = .ok (.iconst 1, 1) := by decide +kernel
theorem dX7_wouldFall_13 : decode cX7_wouldFall 13 = .ok (.iadd, 1) := by decide +kernel
theorem dX7_wouldFall_14 : decode cX7_wouldFall 14 = .ok (.imul, 1) := by decide +kernel
theorem dX7_wouldFall_15 : decode cX7_wouldFall 15 = .ok (.aload_n 0, 1) := by decide +kernel
theorem dX7_wouldFall_16 : decode cX7_wouldFall 16 = .ok (.getfield 7, 3) := by decide +kernel
theorem dX7_wouldFall_19 : decode cX7_wouldFall 19 = .ok (.iload_n 1, 1) := by decide +kernel
theorem dX7_wouldFall_20 : decode cX7_wouldFall 20 = .ok (.iconst 2, 1) := by decide +kernel
theorem dX7_wouldFall_21 : decode cX7_wouldFall 21 = .ok (.iadd, 1) := by decide +kernel
theorem dX7_wouldFall_22 : decode cX7_wouldFall 22 = .ok (.iload_n 2, 1) := by decide +kernel
theorem dX7_wouldFall_23 : decode cX7_wouldFall 23 = .ok (.iadd, 1) := by decide +kernel
theorem dX7_wouldFall_24 : decode cX7_wouldFall 24 = .ok (.iaload, 1) := by decide +kernel
theorem dX7_wouldFall_25 : decode cX7_wouldFall 25 = .ok (.if_icmp .lt 7, 3) := by decide +kernel
theorem dX7_wouldFall_28 : decode cX7_wouldFall 28 = .ok (.iconst 1, 1) := by decide +kernel
theorem dX7_wouldFall_29 : decode cX7_wouldFall 29 = .ok (.goto 4, 3) := by decide +kernel
theorem dX7_wouldFall_32 : decode cX7_wouldFall 32 = .ok (.iconst 0, 1) := by decide +kernel
theorem dX7_wouldFall_33 : decode cX7_wouldFall 33 = .ok (.ireturn, 1) := by decide +kernel
theorem dX7_blasts_0 : decode cX7_blasts 0 = .ok (.aload_n 0, 1) := by decide +kernel
theorem dX7_blasts_1 : decode cX7_blasts 1 = .ok (.iload_n 1, 1) := by decide +kernel
theorem dX7_blasts_2 : decode cX7_blasts 2 = .ok (.iload_n 2, 1) := by decide +kernel
theorem dX7_blasts_3 : decode cX7_blasts 3 = .ok (.iload_n 3, 1) := by decide +kernel
theorem dX7_blasts_4 : decode cX7_blasts 4 = .ok (.invokevirtual 146, 3) := by decide +kernel
theorem dX7_blasts_7 : decode cX7_blasts 7 = .ok (.ifCond .ne 59, 3) := by decide +kernel
theorem dX7_blasts_10 : decode cX7_blasts 10 = .ok (.aload_n 0, 1) := by decide +kernel
theorem dX7_blasts_11 : decode cX7_blasts 11 = .ok (.getfield 7, 3) := by decide +kernel
theorem dX7_blasts_14 : decode cX7_blasts 14 = .ok (.iload_n 1, 1) := by decide +kernel
theorem dX7_blasts_15 : decode cX7_blasts 15 = .ok (.iconst 2, 1) := by decide +kernel
theorem dX7_blasts_16 : decode cX7_blasts 16 = .ok (.iadd, 1) := by decide +kernel
theorem dX7_blasts_17 : decode cX7_blasts 17 = .ok (.iload_n 2, 1) := by decide +kernel
theorem dX7_blasts_18 : decode cX7_blasts 18 = .ok (.iadd, 1) := by decide +kernel
theorem dX7_blasts_19 : decode cX7_blasts 19 = .ok (.aload_n 0, 1) := by decide +kernel
theorem dX7_blasts_20 : decode cX7_blasts 20 = .ok (.getfield 7, 3) := by decide +kernel
theorem dX7_blasts_23 : decode cX7_blasts 23 = .ok (.iload_n 1, 1) := by decide +kernel
theorem dX7_blasts_24 : decode cX7_blasts 24 = .ok (.iconst 2, 1) := by decide +kernel
theorem dX7_blasts_25 : decode cX7_blasts 25 = .ok (.iadd, 1) := by decide +kernel
theorem dX7_blasts_26 : decode cX7_blasts 26 = .ok (.iload_n 2, 1) := by decide +kernel
theorem dX7_blasts_27 : decode cX7_blasts 27 = .ok (.iadd, 1) := by decide +kernel
theorem dX7_blasts_28 : decode cX7_blasts 28 = .ok (.iaload, 1) := by decide +kernel
theorem dX7_blasts_29 : decode cX7_blasts 29 = .ok (.iload_n 3, 1) := by decide +kernel
theorem dX7_blasts_30 : decode cX7_blasts 30 = .ok (.isub, 1) := by decide +kernel
theorem dX7_blasts_31 : decode cX7_blasts 31 = .ok (.iconst 1, 1) := by decide +kernel
theorem dX7_blasts_32 : decode cX7_blasts 32 = .ok (.if_icmp .ge 7, 3) := by decide +kernel
theorem dX7_blasts_35 : decode cX7_blasts 35 = .ok (.iconst 1, 1) := by decide +kernel
theorem dX7_blasts_36 : decode cX7_blasts 36 = .ok (.goto 15, 3) := by decide +kernel
theorem dX7_blasts_39 : decode cX7_blasts 39 = .ok (.aload_n 0, 1) := by decide +kernel
theorem dX7_blasts_40 : decode cX7_blasts 40 = .ok (.getfield 7, 3) := by decide +kernel
theorem dX7_blasts_43 : decode cX7_blasts 43 = .ok (.iload_n 1, 1) := by decide +kernel
theorem dX7_blasts_44 : decode cX7_blasts 44 = .ok (.iconst 2, 1) := by decide +kernel
theorem dX7_blasts_45 : decode cX7_blasts 45 = .ok (.iadd, 1) := by decide +kernel
theorem dX7_blasts_46 : decode cX7_blasts 46 = .ok (.iload_n 2, 1) := by decide +kernel
theorem dX7_blasts_47 : decode cX7_blasts 47 = .ok (.iadd, 1) := by decide +kernel
theorem dX7_blasts_48 : decode cX7_blasts 48 = .ok (.iaload, 1) := by decide +kernel
theorem dX7_blasts_49 : decode cX7_blasts 49 = .ok (.iload_n 3, 1) := by decide +kernel
theorem dX7_blasts_50 : decode cX7_blasts 50 = .ok (.isub, 1) := by decide +kernel
theorem dX7_blasts_51 : decode cX7_blasts 51 = .ok (.iastore, 1) := by decide +kernel
theorem dX7_blasts_52 : decode cX7_blasts 52 = .ok (.aload_n 0, 1) := by decide +kernel
theorem dX7_blasts_53 : decode cX7_blasts 53 = .ok (.getfield 7, 3) := by decide +kernel
theorem dX7_blasts_56 : decode cX7_blasts 56 = .ok (.iload_n 1, 1) := by decide +kernel
theorem dX7_blasts_57 : decode cX7_blasts 57 = .ok (.bipush 12, 2) := by decide +kernel
theorem dX7_blasts_59 : decode cX7_blasts 59 = .ok (.iadd, 1) := by decide +kernel
theorem dX7_blasts_60 : decode cX7_blasts 60 = .ok (.iload_n 2, 1) := by decide +kernel
theorem dX7_blasts_61 : decode cX7_blasts 61 = .ok (.iadd, 1) := by decide +kernel
theorem dX7_blasts_62 : decode cX7_blasts 62 = .ok (.iconst 0, 1) := by decide +kernel
theorem dX7_blasts_63 : decode cX7_blasts 63 = .ok (.iastore, 1) := by decide +kernel
theorem dX7_blasts_64 : decode cX7_blasts 64 = .ok (.iconst 0, 1) := by decide +kernel
theorem dX7_blasts_65 : decode cX7_blasts 65 = .ok (.ireturn, 1) := by decide +kernel
theorem dX7_blasts_66 : decode cX7_blasts 66 = .ok (.aload_n 0, 1) := by decide +kernel
theorem dX7_blasts_67 : decode cX7_blasts 67 = .ok (.getfield 7, 3) := by decide +kernel
theorem dX7_blasts_70 : decode cX7_blasts 70 = .ok (.iload_n 1, 1) := by decide +kernel
theorem dX7_blasts_71 : decode cX7_blasts 71 = .ok (.bipush 12, 2) := by decide +kernel
theorem dX7_blasts_73 : decode cX7_blasts 73 = .ok (.iadd, 1) := by decide +kernel
theorem dX7_blasts_74 : decode cX7_blasts 74 = .ok (.iload_n 2, 1) := by decide +kernel
theorem dX7_blasts_75 : decode cX7_blasts 75 = .ok (.iadd, 1) := by decide +kernel
theorem dX7_blasts_76 : decode cX7_blasts 76 = .ok (.iaload, 1) := by decide +kernel
theorem dX7_blasts_77 : decode cX7_blasts 77 = .ok (.aload_n 0, 1) := by decide +kernel
theorem dX7_blasts_78 : decode cX7_blasts 78 = .ok (.getfield 19, 3) := by decide +kernel
theorem dX7_blasts_81 : decode cX7_blasts 81 = .ok (.iload_n 2, 1) := by decide +kernel
theorem dX7_blasts_82 : decode cX7_blasts 82 = .ok (.iaload, 1) := by decide +kernel
theorem dX7_blasts_83 : decode cX7_blasts 83 = .ok (.if_icmp .lt 7, 3) := by decide +kernel
theorem dX7_blasts_86 : decode cX7_blasts 86 = .ok (.iconst 1, 1) := by decide +kernel
theorem dX7_blasts_87 : decode cX7_blasts 87 = .ok (.goto 4, 3) := by decide +kernel
theorem dX7_blasts_90 : decode cX7_blasts 90 = .ok (.iconst 0, 1) := by decide +kernel
theorem dX7_blasts_91 : decode cX7_blasts 91 = .ok (.istore 4, 2) := by decide +kernel
theorem dX7_blasts_93 : decode cX7_blasts 93 = .ok (.aload_n 0, 1) := by decide +kernel
theorem dX7_blasts_94 : decode cX7_blasts 94 = .ok (.iload_n 1, 1) := by decide +kernel
theorem dX7_blasts_95 : decode cX7_blasts 95 = .ok (.iload_n 2, 1) := by decide +kernel
theorem dX7_blasts_96 : decode cX7_blasts 96 = .ok (.iload 4, 2) := by decide +kernel
theorem dX7_blasts_98 : decode cX7_blasts 98 = .ok (.invokevirtual 149, 3) := by decide +kernel
theorem dX7_blasts_101 : decode cX7_blasts 101 = .ok (.iload 4, 2) := by decide +kernel
theorem dX7_blasts_103 : decode cX7_blasts 103 = .ok (.ifCond .eq 7, 3) := by decide +kernel
theorem dX7_blasts_106 : decode cX7_blasts 106 = .ok (.iconst 1, 1) := by decide +kernel
theorem dX7_blasts_107 : decode cX7_blasts 107 = .ok (.goto 4, 3) := by decide +kernel
theorem dX7_blasts_110 : decode cX7_blasts 110 = .ok (.iconst 2, 1) := by decide +kernel
theorem dX7_blasts_111 : decode cX7_blasts 111 = .ok (.ireturn, 1) := by decide +kernel
theorem dX7_roundsOne_0 : decode cX7_roundsOne 0 = .ok (.aload_n 0, 1) := by decide +kernel
theorem dX7_roundsOne_1 : decode cX7_roundsOne 1 = .ok (.getfield 7, 3) := by decide +kernel
theorem dX7_roundsOne_4 : decode cX7_roundsOne 4 = .ok (.iload_n 1, 1) := by decide +kernel
theorem dX7_roundsOne_5 : decode cX7_roundsOne 5 = .ok (.bipush 12, 2) := by decide +kernel
theorem dX7_roundsOne_7 : decode cX7_roundsOne 7 = .ok (.iadd, 1) := by decide +kernel
theorem dX7_roundsOne_8 : decode cX7_roundsOne 8 = .ok (.iload_n 2, 1) := by decide +kernel
theorem dX7_roundsOne_9 : decode cX7_roundsOne 9 = .ok (.iadd, 1) := by decide +kernel
theorem dX7_roundsOne_10 : decode cX7_roundsOne 10 = .ok (.iaload, 1) := by decide +kernel
theorem dX7_roundsOne_11 : decode cX7_roundsOne 11 = .ok (.aload_n 0, 1) := by decide +kernel
theorem dX7_roundsOne_12 : decode cX7_roundsOne 12 = .ok (.getfield 13, 3) := by decide +kernel
theorem dX7_roundsOne_15 : decode cX7_roundsOne 15 = .ok (.iload_n 2, 1) := by decide +kernel
theorem dX7_roundsOne_16 : decode cX7_roundsOne 16 = .ok (.iaload, 1) := by decide +kernel
theorem dX7_roundsOne_17 : decode cX7_roundsOne 17 = .ok (.iconst 2, 1) := by decide +kernel
theorem dX7_roundsOne_18 : decode cX7_roundsOne 18 = .ok (.if_icmp .ne 7, 3) := by decide +kernel
theorem dX7_roundsOne_21 : decode cX7_roundsOne 21 = .ok (.iconst 2, 1) := by decide +kernel
theorem dX7_roundsOne_22 : decode cX7_roundsOne 22 = .ok (.goto 4, 3) := by decide +kernel
theorem dX7_roundsOne_25 : decode cX7_roundsOne 25 = .ok (.iconst 1, 1) := by decide +kernel
theorem dX7_roundsOne_26 : decode cX7_roundsOne 26 = .ok (.iadd, 1) := by decide +kernel
theorem dX7_roundsOne_27 : decode cX7_roundsOne 27 = .ok (.istore_n 3, 1) := by decide +kernel
theorem dX7_roundsOne_28 : decode cX7_roundsOne 28 = .ok (.aload_n 0, 1) := by decide +kernel
theorem dX7_roundsOne_29 : decode cX7_roundsOne 29 = .ok (.getfield 7, 3) := by decide +kernel
theorem dX7_roundsOne_32 : decode cX7_roundsOne 32 = .ok (.iload_n 1, 1) := by decide +kernel
theorem dX7_roundsOne_33 : decode cX7_roundsOne 33 = .ok (.bipush 12, 2) := by decide +kernel
theorem dX7_roundsOne_35 : decode cX7_roundsOne 35 = .ok (.iadd, 1) := by decide +kernel
theorem dX7_roundsOne_36 : decode cX7_roundsOne 36 = .ok (.iload_n 2, 1) := by decide +kernel
theorem dX7_roundsOne_37 : decode cX7_roundsOne 37 = .ok (.iadd, 1) := by decide +kernel
theorem dX7_roundsOne_38 : decode cX7_roundsOne 38 = .ok (.iload_n 3, 1) := by decide +kernel
theorem dX7_roundsOne_39 : decode cX7_roundsOne 39 = .ok (.bipush 7, 2) := by decide +kernel
theorem dX7_roundsOne_41 : decode cX7_roundsOne 41 = .ok (.if_icmp .le 8, 3) := by decide +kernel
theorem dX7_roundsOne_44 : decode cX7_roundsOne 44 = .ok (.bipush 7, 2) := by decide +kernel
theorem dX7_roundsOne_46 : decode cX7_roundsOne 46 = .ok (.goto 4, 3) := by decide +kernel
theorem dX7_roundsOne_49 : decode cX7_roundsOne 49 = .ok (.iload_n 3, 1) := by decide +kernel
theorem dX7_roundsOne_50 : decode cX7_roundsOne 50 = .ok (.iastore, 1) := by decide +kernel
theorem dX7_roundsOne_51 : decode cX7_roundsOne 51 = .ok (.return_, 1) := by decide +kernel
theorem dX7_passes_0 : decode cX7_passes 0 = .ok (.iconst 0, 1) := by decide +kernel
theorem dX7_passes_1 : decode cX7_passes 1 = .ok (.istore_n 2, 1) := by decide +kernel
theorem dX7_passes_2 : decode cX7_passes 2 = .ok (.iload_n 2, 1) := by decide +kernel
theorem dX7_passes_3 : decode cX7_passes 3 = .ok (.aload_n 0, 1) := by decide +kernel
theorem dX7_passes_4 : decode cX7_passes 4 = .ok (.getfield 69, 3) := by decide +kernel
theorem dX7_passes_7 : decode cX7_passes 7 = .ok (.if_icmp .ge 61, 3) := by decide +kernel
theorem dX7_passes_10 : decode cX7_passes 10 = .ok (.aload_n 0, 1) := by decide +kernel
theorem dX7_passes_11 : decode cX7_passes 11 = .ok (.getfield 7, 3) := by decide +kernel
theorem dX7_passes_14 : decode cX7_passes 14 = .ok (.iload_n 1, 1) := by decide +kernel
theorem dX7_passes_15 : decode cX7_passes 15 = .ok (.iconst 2, 1) := by decide +kernel
theorem dX7_passes_16 : decode cX7_passes 16 = .ok (.iadd, 1) := by decide +kernel
theorem dX7_passes_17 : decode cX7_passes 17 = .ok (.iload_n 2, 1) := by decide +kernel
theorem dX7_passes_18 : decode cX7_passes 18 = .ok (.iadd, 1) := by decide +kernel
theorem dX7_passes_19 : decode cX7_passes 19 = .ok (.dup2, 1) := by decide +kernel
theorem dX7_passes_20 : decode cX7_passes 20 = .ok (.iaload, 1) := by decide +kernel
theorem dX7_passes_21 : decode cX7_passes 21 = .ok (.aload_n 0, 1) := by decide +kernel
theorem dX7_passes_22 : decode cX7_passes 22 = .ok (.getfield 13, 3) := by decide +kernel
theorem dX7_passes_25 : decode cX7_passes 25 = .ok (.iload_n 2, 1) := by decide +kernel
theorem dX7_passes_26 : decode cX7_passes 26 = .ok (.iaload, 1) := by decide +kernel
theorem dX7_passes_27 : decode cX7_passes 27 = .ok (.iconst 1, 1) := by decide +kernel
theorem dX7_passes_28 : decode cX7_passes 28 = .ok (.if_icmp .ne 31, 3) := by decide +kernel
theorem dX7_passes_31 : decode cX7_passes 31 = .ok (.aload_n 0, 1) := by decide +kernel
theorem dX7_passes_32 : decode cX7_passes 32 = .ok (.iload_n 1, 1) := by decide +kernel
theorem dX7_passes_33 : decode cX7_passes 33 = .ok (.iload_n 2, 1) := by decide +kernel
theorem dX7_passes_34 : decode cX7_passes 34 = .ok (.invokevirtual 138, 3) := by decide +kernel
theorem dX7_passes_37 : decode cX7_passes 37 = .ok (.ifCond .eq 22, 3) := by decide +kernel
theorem dX7_passes_40 : decode cX7_passes 40 = .ok (.aload_n 0, 1) := by decide +kernel
theorem dX7_passes_41 : decode cX7_passes 41 = .ok (.getfield 7, 3) := by decide +kernel
theorem dX7_passes_44 : decode cX7_passes 44 = .ok (.iload_n 1, 1) := by decide +kernel
theorem dX7_passes_45 : decode cX7_passes 45 = .ok (.iconst 2, 1) := by decide +kernel
theorem dX7_passes_46 : decode cX7_passes 46 = .ok (.iadd, 1) := by decide +kernel
theorem dX7_passes_47 : decode cX7_passes 47 = .ok (.iload_n 2, 1) := by decide +kernel
theorem dX7_passes_48 : decode cX7_passes 48 = .ok (.iadd, 1) := by decide +kernel
theorem dX7_passes_49 : decode cX7_passes 49 = .ok (.iaload, 1) := by decide +kernel
theorem dX7_passes_50 : decode cX7_passes 50 = .ok (.bipush 99, 2) := by decide +kernel
theorem dX7_passes_52 : decode cX7_passes 52 = .ok (.if_icmp .ge 7, 3) := by decide +kernel
theorem dX7_passes_55 : decode cX7_passes 55 = .ok (.iconst 1, 1) := by decide +kernel
theorem dX7_passes_56 : decode cX7_passes 56 = .ok (.goto 4, 3) := by decide +kernel
theorem dX7_passes_59 : decode cX7_passes 59 = .ok (.iconst 0, 1) := by decide +kernel
theorem dX7_passes_60 : decode cX7_passes 60 = .ok (.iadd, 1) := by decide +kernel
theorem dX7_passes_61 : decode cX7_passes 61 = .ok (.iastore, 1) := by decide +kernel
theorem dX7_passes_62 : decode cX7_passes 62 = .ok (.iinc 2 1, 3) := by decide +kernel
theorem dX7_passes_65 : decode cX7_passes 65 = .ok (.goto (-63), 3) := by decide +kernel
theorem dX7_passes_68 : decode cX7_passes 68 = .ok (.aload_n 0, 1) := by decide +kernel
theorem dX7_passes_69 : decode cX7_passes 69 = .ok (.getfield 7, 3) := by decide +kernel
theorem dX7_passes_72 : decode cX7_passes 72 = .ok (.iload_n 1, 1) := by decide +kernel
theorem dX7_passes_73 : decode cX7_passes 73 = .ok (.iconst 1, 1) := by decide +kernel
theorem dX7_passes_74 : decode cX7_passes 74 = .ok (.iadd, 1) := by decide +kernel
theorem dX7_passes_75 : decode cX7_passes 75 = .ok (.dup2, 1) := by decide +kernel
theorem dX7_passes_76 : decode cX7_passes 76 = .ok (.iaload, 1) := by decide +kernel
theorem dX7_passes_77 : decode cX7_passes 77 = .ok (.iconst 1, 1) := by decide +kernel
theorem dX7_passes_78 : decode cX7_passes 78 = .ok (.iadd, 1) := by decide +kernel
theorem dX7_passes_79 : decode cX7_passes 79 = .ok (.iastore, 1) := by decide +kernel
theorem dX7_passes_80 : decode cX7_passes 80 = .ok (.return_, 1) := by decide +kernel
theorem dX7_minds_0 : decode cX7_minds 0 = .ok (.aload_n 0, 1) := by decide +kernel
theorem dX7_minds_1 : decode cX7_minds 1 = .ok (.getfield 79, 3) := by decide +kernel
theorem dX7_minds_4 : decode cX7_minds 4 = .ok (.bipush 8, 2) := by decide +kernel
theorem dX7_minds_6 : decode cX7_minds 6 = .ok (.if_icmp .ne 51, 3) := by decide +kernel
theorem dX7_minds_9 : decode cX7_minds 9 = .ok (.iconst 0, 1) := by decide +kernel
theorem dX7_minds_10 : decode cX7_minds 10 = .ok (.istore_n 1, 1) := by decide +kernel
theorem dX7_minds_11 : decode cX7_minds 11 = .ok (.iload_n 1, 1) := by decide +kernel
theorem dX7_minds_12 : decode cX7_minds 12 = .ok (.sipush 364, 3) := by decide +kernel
theorem dX7_minds_15 : decode cX7_minds 15 = .ok (.if_icmp .ge 32, 3) := by decide +kernel
theorem dX7_minds_18 : decode cX7_minds 18 = .ok (.aload_n 0, 1) := by decide +kernel
theorem dX7_minds_19 : decode cX7_minds 19 = .ok (.getfield 7, 3) := by decide +kernel
theorem dX7_minds_22 : decode cX7_minds 22 = .ok (.sipush 208, 3) := by decide +kernel
theorem dX7_minds_25 : decode cX7_minds 25 = .ok (.iload_n 1, 1) := by decide +kernel
theorem dX7_minds_26 : decode cX7_minds 26 = .ok (.iadd, 1) := by decide +kernel
theorem dX7_minds_27 : decode cX7_minds 27 = .ok (.aload_n 0, 1) := by decide +kernel
theorem dX7_minds_28 : decode cX7_minds 28 = .ok (.getfield 7, 3) := by decide +kernel
theorem dX7_minds_31 : decode cX7_minds 31 = .ok (.sipush 208, 3) := by decide +kernel
theorem dX7_minds_34 : decode cX7_minds 34 = .ok (.iload_n 1, 1) := by decide +kernel
theorem dX7_minds_35 : decode cX7_minds 35 = .ok (.iadd, 1) := by decide +kernel
theorem dX7_minds_36 : decode cX7_minds 36 = .ok (.bipush 52, 2) := by decide +kernel
theorem dX7_minds_38 : decode cX7_minds 38 = .ok (.iadd, 1) := by decide +kernel
theorem dX7_minds_39 : decode cX7_minds 39 = .ok (.iaload, 1) := by decide +kernel
theorem dX7_minds_40 : decode cX7_minds 40 = .ok (.iastore, 1) := by decide +kernel
theorem dX7_minds_41 : decode cX7_minds 41 = .ok (.iinc 1 1, 3) := by decide +kernel
theorem dX7_minds_44 : decode cX7_minds 44 = .ok (.goto (-33), 3) := by decide +kernel
theorem dX7_minds_47 : decode cX7_minds 47 = .ok (.aload_n 0, 1) := by decide +kernel
theorem dX7_minds_48 : decode cX7_minds 48 = .ok (.dup, 1) := by decide +kernel
theorem dX7_minds_49 : decode cX7_minds 49 = .ok (.getfield 79, 3) := by decide +kernel
theorem dX7_minds_52 : decode cX7_minds 52 = .ok (.iconst 1, 1) := by decide +kernel
theorem dX7_minds_53 : decode cX7_minds 53 = .ok (.isub, 1) := by decide +kernel
theorem dX7_minds_54 : decode cX7_minds 54 = .ok (.putfield 79, 3) := by decide +kernel
theorem dX7_minds_57 : decode cX7_minds 57 = .ok (.aload_n 0, 1) := by decide +kernel
theorem dX7_minds_58 : decode cX7_minds 58 = .ok (.iconst 0, 1) := by decide +kernel
theorem dX7_minds_59 : decode cX7_minds 59 = .ok (.sipush 208, 3) := by decide +kernel
theorem dX7_minds_62 : decode cX7_minds 62 = .ok (.bipush 52, 2) := by decide +kernel
theorem dX7_minds_64 : decode cX7_minds 64 = .ok (.aload_n 0, 1) := by decide +kernel
theorem dX7_minds_65 : decode cX7_minds 65 = .ok (.getfield 79, 3) := by decide +kernel
theorem dX7_minds_68 : decode cX7_minds 68 = .ok (.imul, 1) := by decide +kernel
theorem dX7_minds_69 : decode cX7_minds 69 = .ok (.iadd, 1) := by decide +kernel
theorem dX7_minds_70 : decode cX7_minds 70 = .ok (.invokevirtual 153, 3) := by decide +kernel
theorem dX7_minds_73 : decode cX7_minds 73 = .ok (.aload_n 0, 1) := by decide +kernel
theorem dX7_minds_74 : decode cX7_minds 74 = .ok (.dup, 1) := by decide +kernel
theorem dX7_minds_75 : decode cX7_minds 75 = .ok (.getfield 79, 3) := by decide +kernel
theorem dX7_minds_78 : decode cX7_minds 78 = .ok (.iconst 1, 1) := by decide +kernel
theorem dX7_minds_79 : decode cX7_minds 79 = .ok (.iadd, 1) := by decide +kernel
theorem dX7_minds_80 : decode cX7_minds 80 = .ok (.putfield 79, 3) := by decide +kernel
theorem dX7_minds_83 : decode cX7_minds 83 = .ok (.return_, 1) := by decide +kernel
theorem dX7_round_0 : decode cX7_round 0 = .ok (.aload_n 0, 1) := by decide +kernel
theorem dX7_round_1 : decode cX7_round 1 = .ok (.iload_n 1, 1) := by decide +kernel
theorem dX7_round_2 : decode cX7_round 2 = .ok (.invokevirtual 130, 3) := by decide +kernel
theorem dX7_round_5 : decode cX7_round 5 = .ok (.ifCond .ne 5, 3) := by decide +kernel
theorem dX7_round_8 : decode cX7_round 8 = .ok (.iconst (-1), 1) := by decide +kernel
theorem dX7_round_9 : decode cX7_round 9 = .ok (.ireturn, 1) := by decide +kernel
theorem dX7_round_10 : decode cX7_round 10 = .ok (.aload_n 0, 1) := by decide +kernel
theorem dX7_round_11 : decode cX7_round 11 = .ok (.iconst 0, 1) := by decide +kernel
theorem dX7_round_12 : decode cX7_round 12 = .ok (.iload_n 1, 1) := by decide +kernel
theorem dX7_round_13 : decode cX7_round 13 = .ok (.invokevirtual 138, 3) := by decide +kernel
theorem dX7_round_16 : decode cX7_round 16 = .ok (.ifCond .ne 6, 3) := by decide +kernel
theorem dX7_round_19 : decode cX7_round 19 = .ok (.bipush (-2), 2) := by decide +kernel
theorem dX7_round_21 : decode cX7_round 21 = .ok (.ireturn, 1) := by decide +kernel
theorem dX7_round_22 : decode cX7_round 22 = .ok (.aload_n 0, 1) := by decide +kernel
theorem dX7_round_23 : decode cX7_round 23 = .ok (.getfield 7, 3) := by decide +kernel
theorem dX7_round_26 : decode cX7_round 26 = .ok (.bipush 12, 2) := by decide +kernel
theorem dX7_round_28 : decode cX7_round 28 = .ok (.iload_n 1, 1) := by decide +kernel
theorem dX7_round_29 : decode cX7_round 29 = .ok (.iadd, 1) := by decide +kernel
theorem dX7_round_30 : decode cX7_round 30 = .ok (.iaload, 1) := by decide +kernel
theorem dX7_round_31 : decode cX7_round 31 = .ok (.bipush 7, 2) := by decide +kernel
theorem dX7_round_33 : decode cX7_round 33 = .ok (.if_icmp .ne 6, 3) := by decide +kernel
theorem dX7_round_36 : decode cX7_round 36 = .ok (.bipush (-3), 2) := by decide +kernel
theorem dX7_round_38 : decode cX7_round 38 = .ok (.ireturn, 1) := by decide +kernel
theorem dX7_round_39 : decode cX7_round 39 = .ok (.aload_n 0, 1) := by decide +kernel
theorem dX7_round_40 : decode cX7_round 40 = .ok (.invokevirtual 157, 3) := by decide +kernel
theorem dX7_round_43 : decode cX7_round 43 = .ok (.aload_n 0, 1) := by decide +kernel
theorem dX7_round_44 : decode cX7_round 44 = .ok (.iconst 0, 1) := by decide +kernel
theorem dX7_round_45 : decode cX7_round 45 = .ok (.iload_n 1, 1) := by decide +kernel
theorem dX7_round_46 : decode cX7_round 46 = .ok (.invokevirtual 160, 3) := by decide +kernel
theorem dX7_round_49 : decode cX7_round 49 = .ok (.aload_n 0, 1) := by decide +kernel
theorem dX7_round_50 : decode cX7_round 50 = .ok (.getfield 7, 3) := by decide +kernel
theorem dX7_round_53 : decode cX7_round 53 = .ok (.bipush 12, 2) := by decide +kernel
theorem dX7_round_55 : decode cX7_round 55 = .ok (.iload_n 1, 1) := by decide +kernel
theorem dX7_round_56 : decode cX7_round 56 = .ok (.iadd, 1) := by decide +kernel
theorem dX7_round_57 : decode cX7_round 57 = .ok (.iaload, 1) := by decide +kernel
theorem dX7_round_58 : decode cX7_round 58 = .ok (.ireturn, 1) := by decide +kernel
theorem dX7_blast_0 : decode cX7_blast 0 = .ok (.aload_n 0, 1) := by decide +kernel
theorem dX7_blast_1 : decode cX7_blast 1 = .ok (.iload_n 1, 1) := by decide +kernel
theorem dX7_blast_2 : decode cX7_blast 2 = .ok (.invokevirtual 130, 3) := by decide +kernel
theorem dX7_blast_5 : decode cX7_blast 5 = .ok (.ifCond .eq 15, 3) := by decide +kernel
theorem dX7_blast_8 : decode cX7_blast 8 = .ok (.iload_n 2, 1) := by decide +kernel
theorem dX7_blast_9 : decode cX7_blast 9 = .ok (.i2l, 1) := by decide +kernel
theorem dX7_blast_10 : decode cX7_blast 10 = .ok (.lconst 1, 1) := by decide +kernel
theorem dX7_blast_11 : decode cX7_blast 11 = .ok (.ldc2_w 163, 3) := by decide +kernel
theorem dX7_blast_14 : decode cX7_blast 14 = .ok (.invokestatic 72, 3) := by decide +kernel
theorem dX7_blast_17 : decode cX7_blast 17 = .ok (.ifCond .ne 5, 3) := by decide +kernel
theorem dX7_blast_20 : decode cX7_blast 20 = .ok (.iconst (-1), 1) := by decide +kernel
theorem dX7_blast_21 : decode cX7_blast 21 = .ok (.ireturn, 1) := by decide +kernel
theorem dX7_blast_22 : decode cX7_blast 22 = .ok (.aload_n 0, 1) := by decide +kernel
theorem dX7_blast_23 : decode cX7_blast 23 = .ok (.iconst 0, 1) := by decide +kernel
theorem dX7_blast_24 : decode cX7_blast 24 = .ok (.iload_n 1, 1) := by decide +kernel
theorem dX7_blast_25 : decode cX7_blast 25 = .ok (.invokevirtual 138, 3) := by decide +kernel
theorem dX7_blast_28 : decode cX7_blast 28 = .ok (.ifCond .ne 6, 3) := by decide +kernel
theorem dX7_blast_31 : decode cX7_blast 31 = .ok (.bipush (-2), 2) := by decide +kernel
theorem dX7_blast_33 : decode cX7_blast 33 = .ok (.ireturn, 1) := by decide +kernel
theorem dX7_blast_34 : decode cX7_blast 34 = .ok (.aload_n 0, 1) := by decide +kernel
theorem dX7_blast_35 : decode cX7_blast 35 = .ok (.invokevirtual 157, 3) := by decide +kernel
theorem dX7_blast_38 : decode cX7_blast 38 = .ok (.aload_n 0, 1) := by decide +kernel
theorem dX7_blast_39 : decode cX7_blast 39 = .ok (.iconst 0, 1) := by decide +kernel
theorem dX7_blast_40 : decode cX7_blast 40 = .ok (.iload_n 1, 1) := by decide +kernel
theorem dX7_blast_41 : decode cX7_blast 41 = .ok (.iload_n 2, 1) := by decide +kernel
theorem dX7_blast_42 : decode cX7_blast 42 = .ok (.invokevirtual 165, 3) := by decide +kernel
theorem dX7_blast_45 : decode cX7_blast 45 = .ok (.ireturn, 1) := by decide +kernel
theorem dX7_pass_0 : decode cX7_pass 0 = .ok (.iload_n 1, 1) := by decide +kernel
theorem dX7_pass_1 : decode cX7_pass 1 = .ok (.i2l, 1) := by decide +kernel
theorem dX7_pass_2 : decode cX7_pass 2 = .ok (.lconst 1, 1) := by decide +kernel
theorem dX7_pass_3 : decode cX7_pass 3 = .ok (.ldc2_w 169, 3) := by decide +kernel
theorem dX7_pass_6 : decode cX7_pass 6 = .ok (.invokestatic 72, 3) := by decide +kernel
theorem dX7_pass_9 : decode cX7_pass 9 = .ok (.ifCond .ne 5, 3) := by decide +kernel
theorem dX7_pass_12 : decode cX7_pass 12 = .ok (.iconst (-1), 1) := by decide +kernel
theorem dX7_pass_13 : decode cX7_pass 13 = .ok (.ireturn, 1) := by decide +kernel
theorem dX7_pass_14 : decode cX7_pass 14 = .ok (.aload_n 0, 1) := by decide +kernel
theorem dX7_pass_15 : decode cX7_pass 15 = .ok (.invokevirtual 157, 3) := by decide +kernel
theorem dX7_pass_18 : decode cX7_pass 18 = .ok (.iconst 0, 1) := by decide +kernel
theorem dX7_pass_19 : decode cX7_pass 19 = .ok (.istore_n 2, 1) := by decide +kernel
theorem dX7_pass_20 : decode cX7_pass 20 = .ok (.iload_n 2, 1) := by decide +kernel
theorem dX7_pass_21 : decode cX7_pass 21 = .ok (.iload_n 1, 1) := by decide +kernel
theorem dX7_pass_22 : decode cX7_pass 22 = .ok (.if_icmp .ge 14, 3) := by decide +kernel
theorem dX7_pass_25 : decode cX7_pass 25 = .ok (.aload_n 0, 1) := by decide +kernel
theorem dX7_pass_26 : decode cX7_pass 26 = .ok (.iconst 0, 1) := by decide +kernel
theorem dX7_pass_27 : decode cX7_pass 27 = .ok (.invokevirtual 171, 3) := by decide +kernel
theorem dX7_pass_30 : decode cX7_pass 30 = .ok (.iinc 2 1, 3) := by decide +kernel
theorem dX7_pass_33 : decode cX7_pass 33 = .ok (.goto (-13), 3) := by decide +kernel
theorem dX7_pass_36 : decode cX7_pass 36 = .ok (.aload_n 0, 1) := by decide +kernel
theorem dX7_pass_37 : decode cX7_pass 37 = .ok (.getfield 7, 3) := by decide +kernel
theorem dX7_pass_40 : decode cX7_pass 40 = .ok (.iconst 1, 1) := by decide +kernel
theorem dX7_pass_41 : decode cX7_pass 41 = .ok (.iaload, 1) := by decide +kernel
theorem dX7_pass_42 : decode cX7_pass 42 = .ok (.ireturn, 1) := by decide +kernel
theorem dX7_prop_0 : decode cX7_prop 0 = .ok (.aload_n 0, 1) := by decide +kernel
theorem dX7_prop_1 : decode cX7_prop 1 = .ok (.iload_n 1, 1) := by decide +kernel
theorem dX7_prop_2 : decode cX7_prop 2 = .ok (.invokevirtual 130, 3) := by decide +kernel
theorem dX7_prop_5 : decode cX7_prop 5 = .ok (.ifCond .eq 28, 3) := by decide +kernel
theorem dX7_prop_8 : decode cX7_prop 8 = .ok (.aload_n 0, 1) := by decide +kernel
theorem dX7_prop_9 : decode cX7_prop 9 = .ok (.iload_n 2, 1) := by decide +kernel
theorem dX7_prop_10 : decode cX7_prop 10 = .ok (.invokevirtual 130, 3) := by decide +kernel
theorem dX7_prop_13 : decode cX7_prop 13 = .ok (.ifCond .eq 20, 3) := by decide +kernel
theorem dX7_prop_16 : decode cX7_prop 16 = .ok (.iload_n 1, 1) := by decide +kernel
theorem dX7_prop_17 : decode cX7_prop 17 = .ok (.iload_n 2, 1) := by decide +kernel
theorem dX7_prop_18 : decode cX7_prop 18 = .ok (.if_icmp .eq 15, 3) := by decide +kernel
theorem dX7_prop_21 : decode cX7_prop 21 = .ok (.iload_n 3, 1) := by decide +kernel
theorem dX7_prop_22 : decode cX7_prop 22 = .ok (.i2l, 1) := by decide +kernel
theorem dX7_prop_23 : decode cX7_prop 23 = .ok (.lconst 0, 1) := by decide +kernel
theorem dX7_prop_24 : decode cX7_prop 24 = .ok (.ldc2_w 175, 3) := by decide +kernel
theorem dX7_prop_27 : decode cX7_prop 27 = .ok (.invokestatic 72, 3) := by decide +kernel
theorem dX7_prop_30 : decode cX7_prop 30 = .ok (.ifCond .ne 5, 3) := by decide +kernel
theorem dX7_prop_33 : decode cX7_prop 33 = .ok (.iconst (-1), 1) := by decide +kernel
theorem dX7_prop_34 : decode cX7_prop 34 = .ok (.ireturn, 1) := by decide +kernel
theorem dX7_prop_35 : decode cX7_prop 35 = .ok (.aload_n 0, 1) := by decide +kernel
theorem dX7_prop_36 : decode cX7_prop 36 = .ok (.getfield 7, 3) := by decide +kernel
theorem dX7_prop_39 : decode cX7_prop 39 = .ok (.bipush 27, 2) := by decide +kernel
theorem dX7_prop_41 : decode cX7_prop 41 = .ok (.iconst 5, 1) := by decide +kernel
theorem dX7_prop_42 : decode cX7_prop 42 = .ok (.iload_n 1, 1) := by decide +kernel
theorem dX7_prop_43 : decode cX7_prop 43 = .ok (.imul, 1) := by decide +kernel
theorem dX7_prop_44 : decode cX7_prop 44 = .ok (.iadd, 1) := by decide +kernel
theorem dX7_prop_45 : decode cX7_prop 45 = .ok (.iload_n 2, 1) := by decide +kernel
theorem dX7_prop_46 : decode cX7_prop 46 = .ok (.iadd, 1) := by decide +kernel
theorem dX7_prop_47 : decode cX7_prop 47 = .ok (.iaload, 1) := by decide +kernel
theorem dX7_prop_48 : decode cX7_prop 48 = .ok (.istore 4, 2) := by decide +kernel
theorem dX7_prop_50 : decode cX7_prop 50 = .ok (.iload 4, 2) := by decide +kernel
theorem dX7_prop_52 : decode cX7_prop 52 = .ok (.iload_n 3, 1) := by decide +kernel
theorem dX7_prop_53 : decode cX7_prop 53 = .ok (.if_icmp .ne 6, 3) := by decide +kernel
theorem dX7_prop_56 : decode cX7_prop 56 = .ok (.bipush (-2), 2) := by decide +kernel
theorem dX7_prop_58 : decode cX7_prop 58 = .ok (.ireturn, 1) := by decide +kernel
theorem dX7_prop_59 : decode cX7_prop 59 = .ok (.aload_n 0, 1) := by decide +kernel
theorem dX7_prop_60 : decode cX7_prop 60 = .ok (.invokevirtual 157, 3) := by decide +kernel
theorem dX7_prop_63 : decode cX7_prop 63 = .ok (.aload_n 0, 1) := by decide +kernel
theorem dX7_prop_64 : decode cX7_prop 64 = .ok (.getfield 7, 3) := by decide +kernel
theorem dX7_prop_67 : decode cX7_prop 67 = .ok (.bipush 27, 2) := by decide +kernel
theorem dX7_prop_69 : decode cX7_prop 69 = .ok (.iconst 5, 1) := by decide +kernel
theorem dX7_prop_70 : decode cX7_prop 70 = .ok (.iload_n 1, 1) := by decide +kernel
theorem dX7_prop_71 : decode cX7_prop 71 = .ok (.imul, 1) := by decide +kernel
theorem dX7_prop_72 : decode cX7_prop 72 = .ok (.iadd, 1) := by decide +kernel
theorem dX7_prop_73 : decode cX7_prop 73 = .ok (.iload_n 2, 1) := by decide +kernel
theorem dX7_prop_74 : decode cX7_prop 74 = .ok (.iadd, 1) := by decide +kernel
theorem dX7_prop_75 : decode cX7_prop 75 = .ok (.iload_n 3, 1) := by decide +kernel
theorem dX7_prop_76 : decode cX7_prop 76 = .ok (.iastore, 1) := by decide +kernel
theorem dX7_prop_77 : decode cX7_prop 77 = .ok (.iload 4, 2) := by decide +kernel
theorem dX7_prop_79 : decode cX7_prop 79 = .ok (.ireturn, 1) := by decide +kernel
theorem dX7_use_0 : decode cX7_use 0 = .ok (.iload_n 1, 1) := by decide +kernel
theorem dX7_use_1 : decode cX7_use 1 = .ok (.i2l, 1) := by decide +kernel
theorem dX7_use_2 : decode cX7_use 2 = .ok (.lconst 1, 1) := by decide +kernel
theorem dX7_use_3 : decode cX7_use 3 = .ok (.ldc2_w 177, 3) := by decide +kernel
theorem dX7_use_6 : decode cX7_use 6 = .ok (.invokestatic 72, 3) := by decide +kernel
theorem dX7_use_9 : decode cX7_use 9 = .ok (.ifCond .ne 5, 3) := by decide +kernel
theorem dX7_use_12 : decode cX7_use 12 = .ok (.iconst (-1), 1) := by decide +kernel
theorem dX7_use_13 : decode cX7_use 13 = .ok (.ireturn, 1) := by decide +kernel
theorem dX7_use_14 : decode cX7_use 14 = .ok (.aload_n 0, 1) := by decide +kernel
theorem dX7_use_15 : decode cX7_use 15 = .ok (.getfield 7, 3) := by decide +kernel
theorem dX7_use_18 : decode cX7_use 18 = .ok (.iconst 0, 1) := by decide +kernel
theorem dX7_use_19 : decode cX7_use 19 = .ok (.iaload, 1) := by decide +kernel
theorem dX7_use_20 : decode cX7_use 20 = .ok (.iload_n 1, 1) := by decide +kernel
theorem dX7_use_21 : decode cX7_use 21 = .ok (.if_icmp .ge 6, 3) := by decide +kernel
theorem dX7_use_24 : decode cX7_use 24 = .ok (.bipush (-2), 2) := by decide +kernel
theorem dX7_use_26 : decode cX7_use 26 = .ok (.ireturn, 1) := by decide +kernel
theorem dX7_use_27 : decode cX7_use 27 = .ok (.aload_n 0, 1) := by decide +kernel
theorem dX7_use_28 : decode cX7_use 28 = .ok (.invokevirtual 157, 3) := by decide +kernel
theorem dX7_use_31 : decode cX7_use 31 = .ok (.aload_n 0, 1) := by decide +kernel
theorem dX7_use_32 : decode cX7_use 32 = .ok (.getfield 7, 3) := by decide +kernel
theorem dX7_use_35 : decode cX7_use 35 = .ok (.iconst 0, 1) := by decide +kernel
theorem dX7_use_36 : decode cX7_use 36 = .ok (.dup2, 1) := by decide +kernel
theorem dX7_use_37 : decode cX7_use 37 = .ok (.iaload, 1) := by decide +kernel
theorem dX7_use_38 : decode cX7_use 38 = .ok (.iload_n 1, 1) := by decide +kernel
theorem dX7_use_39 : decode cX7_use 39 = .ok (.isub, 1) := by decide +kernel
theorem dX7_use_40 : decode cX7_use 40 = .ok (.iastore, 1) := by decide +kernel
theorem dX7_use_41 : decode cX7_use 41 = .ok (.aload_n 0, 1) := by decide +kernel
theorem dX7_use_42 : decode cX7_use 42 = .ok (.getfield 7, 3) := by decide +kernel
theorem dX7_use_45 : decode cX7_use 45 = .ok (.iconst 0, 1) := by decide +kernel
theorem dX7_use_46 : decode cX7_use 46 = .ok (.iaload, 1) := by decide +kernel
theorem dX7_use_47 : decode cX7_use 47 = .ok (.ireturn, 1) := by decide +kernel
theorem dX7_undo_0 : decode cX7_undo 0 = .ok (.aload_n 0, 1) := by decide +kernel
theorem dX7_undo_1 : decode cX7_undo 1 = .ok (.getfield 79, 3) := by decide +kernel
theorem dX7_undo_4 : decode cX7_undo 4 = .ok (.ifCond .ne 6, 3) := by decide +kernel
theorem dX7_undo_7 : decode cX7_undo 7 = .ok (.bipush (-2), 2) := by decide +kernel
theorem dX7_undo_9 : decode cX7_undo 9 = .ok (.ireturn, 1) := by decide +kernel
theorem dX7_undo_10 : decode cX7_undo 10 = .ok (.aload_n 0, 1) := by decide +kernel
theorem dX7_undo_11 : decode cX7_undo 11 = .ok (.dup, 1) := by decide +kernel
theorem dX7_undo_12 : decode cX7_undo 12 = .ok (.getfield 79, 3) := by decide +kernel
theorem dX7_undo_15 : decode cX7_undo 15 = .ok (.iconst 1, 1) := by decide +kernel
theorem dX7_undo_16 : decode cX7_undo 16 = .ok (.isub, 1) := by decide +kernel
theorem dX7_undo_17 : decode cX7_undo 17 = .ok (.putfield 79, 3) := by decide +kernel
theorem dX7_undo_20 : decode cX7_undo 20 = .ok (.aload_n 0, 1) := by decide +kernel
theorem dX7_undo_21 : decode cX7_undo 21 = .ok (.sipush 208, 3) := by decide +kernel
theorem dX7_undo_24 : decode cX7_undo 24 = .ok (.bipush 52, 2) := by decide +kernel
theorem dX7_undo_26 : decode cX7_undo 26 = .ok (.aload_n 0, 1) := by decide +kernel
theorem dX7_undo_27 : decode cX7_undo 27 = .ok (.getfield 79, 3) := by decide +kernel
theorem dX7_undo_30 : decode cX7_undo 30 = .ok (.imul, 1) := by decide +kernel
theorem dX7_undo_31 : decode cX7_undo 31 = .ok (.iadd, 1) := by decide +kernel
theorem dX7_undo_32 : decode cX7_undo 32 = .ok (.iconst 0, 1) := by decide +kernel
theorem dX7_undo_33 : decode cX7_undo 33 = .ok (.invokevirtual 153, 3) := by decide +kernel
