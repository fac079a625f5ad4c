theorem dX6_built_95 : decode cX6_built 95 = .ok (.iload_n 3, 1) := by decide +kernel
theorem dX6_built_96 : decode cX6_built 96 = .ok (.bipush (-4), 2) := by decide +kernel
theorem dX6_built_98 : decode cX6_built 98 = .ok (.if_icmp .eq 9, 3) := by decide +kernel
theorem dX6_built_101 : decode cX6_built 101 = .ok (.iload 8, 2) := by decide +kernel
theorem dX6_built_103 : decode cX6_built 103 = .ok (.iload_n 3, 1) := by decide +kernel
theorem dX6_built_104 : decode cX6_built 104 = .ok (.if_icmp .ge 6, 3) := by decide +kernel
theorem dX6_built_107 : decode cX6_built 107 = .ok (.iload 8, 2) := by decide +kernel
theorem dX6_built_109 : decode cX6_built 109 = .ok (.istore_n 3, 1) := by decide +kernel
theorem dX6_built_110 : decode cX6_built 110 = .ok (.iinc 6 1, 3) := by decide +kernel
theorem dX6_built_113 : decode cX6_built 113 = .ok (.goto (-61), 3) := by decide +kernel
theorem dX6_built_116 : decode cX6_built 116 = .ok (.iinc 4 1, 3) := by decide +kernel
theorem dX6_built_119 : decode cX6_built 119 = .ok (.goto (-100), 3) := by decide +kernel
theorem dX6_built_122 : decode cX6_built 122 = .ok (.iload_n 1, 1) := by decide +kernel
theorem dX6_built_123 : decode cX6_built 123 = .ok (.ifCond .ne 7, 3) := by decide +kernel
theorem dX6_built_126 : decode cX6_built 126 = .ok (.iload_n 2, 1) := by decide +kernel
theorem dX6_built_127 : decode cX6_built 127 = .ok (.goto 4, 3) := by decide +kernel
theorem dX6_built_130 : decode cX6_built 130 = .ok (.iload_n 3, 1) := by decide +kernel
theorem dX6_built_131 : decode cX6_built 131 = .ok (.ireturn, 1) := by decide +kernel
theorem dX6_note_0 : decode cX6_note 0 = .ok (.iload_n 1, 1) := by decide +kernel
theorem dX6_note_1 : decode cX6_note 1 = .ok (.iconst 1, 1) := by decide +kernel
theorem dX6_note_2 : decode cX6_note 2 = .ok (.bipush 9, 2) := by decide +kernel
theorem dX6_note_4 : decode cX6_note 4 = .ok (.invokestatic 142, 3) := by decide +kernel
theorem dX6_note_7 : decode cX6_note 7 = .ok (.ifCond .ne 13, 3) := by decide +kernel
theorem dX6_note_10 : decode cX6_note 10 = .ok (.iload_n 2, 1) := by decide +kernel
theorem dX6_note_11 : decode cX6_note 11 = .ok (.iconst 0, 1) := by decide +kernel
theorem dX6_note_12 : decode cX6_note 12 = .ok (.bipush 7, 2) := by decide +kernel
theorem dX6_note_14 : decode cX6_note 14 = .ok (.invokestatic 142, 3) := by decide +kernel
theorem dX6_note_17 : decode cX6_note 17 = .ok (.ifCond .eq 7, 3) := by decide +kernel
theorem dX6_note_20 : decode cX6_note 20 = .ok (.iconst 1, 1) := by decide +kernel
theorem dX6_note_21 : decode cX6_note 21 = .ok (.goto 4, 3) := by decide +kernel
theorem dX6_note_24 : decode cX6_note 24 = .ok (.iconst 0, 1) := by decide +kernel
theorem dX6_note_25 : decode cX6_note 25 = .ok (.istore 4, 2) := by decide +kernel
theorem dX6_note_27 : decode cX6_note 27 = .ok (.iload 4, 2) := by decide +kernel
theorem dX6_note_29 : decode cX6_note 29 = .ok (.ifCond .ne 12, 3) := by decide +kernel
theorem dX6_note_32 : decode cX6_note 32 = .ok (.iload_n 3, 1) := by decide +kernel
theorem dX6_note_33 : decode cX6_note 33 = .ok (.iconst 0, 1) := by decide +kernel
theorem dX6_note_34 : decode cX6_note 34 = .ok (.iconst 1, 1) := by decide +kernel
theorem dX6_note_35 : decode cX6_note 35 = .ok (.invokestatic 142, 3) := by decide +kernel
theorem dX6_note_38 : decode cX6_note 38 = .ok (.ifCond .eq 5, 3) := by decide +kernel
theorem dX6_note_41 : decode cX6_note 41 = .ok (.iconst (-1), 1) := by decide +kernel
theorem dX6_note_42 : decode cX6_note 42 = .ok (.ireturn, 1) := by decide +kernel
theorem dX6_note_43 : decode cX6_note 43 = .ok (.aload_n 0, 1) := by decide +kernel
theorem dX6_note_44 : decode cX6_note 44 = .ok (.getfield 56, 3) := by decide +kernel
theorem dX6_note_47 : decode cX6_note 47 = .ok (.getfield 98, 3) := by decide +kernel
theorem dX6_note_50 : decode cX6_note 50 = .ok (.bipush 6, 2) := by decide +kernel
theorem dX6_note_52 : decode cX6_note 52 = .ok (.if_icmp .lt 6, 3) := by decide +kernel
theorem dX6_note_55 : decode cX6_note 55 = .ok (.bipush (-3), 2) := by decide +kernel
theorem dX6_note_57 : decode cX6_note 57 = .ok (.ireturn, 1) := by decide +kernel
theorem dX6_note_58 : decode cX6_note 58 = .ok (.aload_n 0, 1) := by decide +kernel
theorem dX6_note_59 : decode cX6_note 59 = .ok (.getfield 56, 3) := by decide +kernel
theorem dX6_note_62 : decode cX6_note 62 = .ok (.invokevirtual 203, 3) := by decide +kernel
theorem dX6_note_65 : decode cX6_note 65 = .ok (.ifCond .eq 6, 3) := by decide +kernel
theorem dX6_note_68 : decode cX6_note 68 = .ok (.bipush (-2), 2) := by decide +kernel
theorem dX6_note_70 : decode cX6_note 70 = .ok (.ireturn, 1) := by decide +kernel
theorem dX6_note_71 : decode cX6_note 71 = .ok (.aload_n 0, 1) := by decide +kernel
theorem dX6_note_72 : decode cX6_note 72 = .ok (.getfield 56, 3) := by decide +kernel
theorem dX6_note_75 : decode cX6_note 75 = .ok (.iload_n 1, 1) := by decide +kernel
theorem dX6_note_76 : decode cX6_note 76 = .ok (.iload_n 2, 1) := by decide +kernel
theorem dX6_note_77 : decode cX6_note 77 = .ok (.iload_n 3, 1) := by decide +kernel
theorem dX6_note_78 : decode cX6_note 78 = .ok (.invokevirtual 207, 3) := by decide +kernel
theorem dX6_note_81 : decode cX6_note 81 = .ok (.aload_n 0, 1) := by decide +kernel
theorem dX6_note_82 : decode cX6_note 82 = .ok (.getfield 56, 3) := by decide +kernel
theorem dX6_note_85 : decode cX6_note 85 = .ok (.getfield 98, 3) := by decide +kernel
theorem dX6_note_88 : decode cX6_note 88 = .ok (.ireturn, 1) := by decide +kernel
theorem dX6_forget_0 : decode cX6_forget 0 = .ok (.aload_n 0, 1) := by decide +kernel
theorem dX6_forget_1 : decode cX6_forget 1 = .ok (.getfield 56, 3) := by decide +kernel
theorem dX6_forget_4 : decode cX6_forget 4 = .ok (.getfield 98, 3) := by decide +kernel
theorem dX6_forget_7 : decode cX6_forget 7 = .ok (.istore_n 1, 1) := by decide +kernel
theorem dX6_forget_8 : decode cX6_forget 8 = .ok (.aload_n 0, 1) := by decide +kernel
theorem dX6_forget_9 : decode cX6_forget 9 = .ok (.getfield 56, 3) := by decide +kernel
theorem dX6_forget_12 : decode cX6_forget 12 = .ok (.iconst 0, 1) := by decide +kernel
theorem dX6_forget_13 : decode cX6_forget 13 = .ok (.putfield 98, 3) := by decide +kernel
theorem dX6_forget_16 : decode cX6_forget 16 = .ok (.iload_n 1, 1) := by decide +kernel
theorem dX6_forget_17 : decode cX6_forget 17 = .ok (.ireturn, 1) := by decide +kernel
theorem dX6_thick_0 : decode cX6_thick 0 = .ok (.iload_n 1, 1) := by decide +kernel
theorem dX6_thick_1 : decode cX6_thick 1 = .ok (.iconst 0, 1) := by decide +kernel
theorem dX6_thick_2 : decode cX6_thick 2 = .ok (.iconst 1, 1) := by decide +kernel
theorem dX6_thick_3 : decode cX6_thick 3 = .ok (.invokestatic 142, 3) := by decide +kernel
theorem dX6_thick_6 : decode cX6_thick 6 = .ok (.ifCond .eq 5, 3) := by decide +kernel
theorem dX6_thick_9 : decode cX6_thick 9 = .ok (.iconst (-1), 1) := by decide +kernel
theorem dX6_thick_10 : decode cX6_thick 10 = .ok (.ireturn, 1) := by decide +kernel
theorem dX6_thick_11 : decode cX6_thick 11 = .ok (.iconst 0, 1) := by decide +kernel
theorem dX6_thick_12 : decode cX6_thick 12 = .ok (.istore_n 2, 1) := by decide +kernel
theorem dX6_thick_13 : decode cX6_thick 13 = .ok (.bipush (-4), 2) := by decide +kernel
theorem dX6_thick_15 : decode cX6_thick 15 = .ok (.istore_n 3, 1) := by decide +kernel
theorem dX6_thick_16 : decode cX6_thick 16 = .ok (.bipush 60, 2) := by decide +kernel
theorem dX6_thick_18 : decode cX6_thick 18 = .ok (.istore 4, 2) := by decide +kernel
theorem dX6_thick_20 : decode cX6_thick 20 = .ok (.iload 4, 2) := by decide +kernel
theorem dX6_thick_22 : decode cX6_thick 22 = .ok (.iconst 1, 1) := by decide +kernel
theorem dX6_thick_23 : decode cX6_thick 23 = .ok (.if_icmp .lt 30, 3) := by decide +kernel
theorem dX6_thick_26 : decode cX6_thick 26 = .ok (.aload_n 0, 1) := by decide +kernel
theorem dX6_thick_27 : decode cX6_thick 27 = .ok (.getfield 56, 3) := by decide +kernel
theorem dX6_thick_30 : decode cX6_thick 30 = .ok (.iload 4, 2) := by decide +kernel
theorem dX6_thick_32 : decode cX6_thick 32 = .ok (.invokevirtual 209, 3) := by decide +kernel
theorem dX6_thick_35 : decode cX6_thick 35 = .ok (.ifCond .ne 6, 3) := by decide +kernel
theorem dX6_thick_38 : decode cX6_thick 38 = .ok (.goto 9, 3) := by decide +kernel
theorem dX6_thick_41 : decode cX6_thick 41 = .ok (.iinc 2 1, 3) := by decide +kernel
theorem dX6_thick_44 : decode cX6_thick 44 = .ok (.iload 4, 2) := by decide +kernel
theorem dX6_thick_46 : decode cX6_thick 46 = .ok (.istore_n 3, 1) := by decide +kernel
theorem dX6_thick_47 : decode cX6_thick 47 = .ok (.iinc 4 (-1), 3) := by decide +kernel
theorem dX6_thick_50 : decode cX6_thick 50 = .ok (.goto (-30), 3) := by decide +kernel
theorem dX6_thick_53 : decode cX6_thick 53 = .ok (.iload_n 1, 1) := by decide +kernel
theorem dX6_thick_54 : decode cX6_thick 54 = .ok (.ifCond .ne 7, 3) := by decide +kernel
theorem dX6_thick_57 : decode cX6_thick 57 = .ok (.iload_n 2, 1) := by decide +kernel
theorem dX6_thick_58 : decode cX6_thick 58 = .ok (.goto 4, 3) := by decide +kernel
theorem dX6_thick_61 : decode cX6_thick 61 = .ok (.iload_n 3, 1) := by decide +kernel
theorem dX6_thick_62 : decode cX6_thick 62 = .ok (.ireturn, 1) := by decide +kernel
theorem dX6_fail_0 : decode cX6_fail 0 = .ok (.aload_n 0, 1) := by decide +kernel
theorem dX6_fail_1 : decode cX6_fail 1 = .ok (.iload_n 1, 1) := by decide +kernel
theorem dX6_fail_2 : decode cX6_fail 2 = .ok (.invokevirtual 99, 3) := by decide +kernel
theorem dX6_fail_5 : decode cX6_fail 5 = .ok (.ifCond .ne 13, 3) := by decide +kernel
theorem dX6_fail_8 : decode cX6_fail 8 = .ok (.iload_n 2, 1) := by decide +kernel
theorem dX6_fail_9 : decode cX6_fail 9 = .ok (.iconst 1, 1) := by decide +kernel
theorem dX6_fail_10 : decode cX6_fail 10 = .ok (.bipush 9, 2) := by decide +kernel
theorem dX6_fail_12 : decode cX6_fail 12 = .ok (.invokestatic 142, 3) := by decide +kernel
theorem dX6_fail_15 : decode cX6_fail 15 = .ok (.ifCond .eq 7, 3) := by decide +kernel
theorem dX6_fail_18 : decode cX6_fail 18 = .ok (.iconst 1, 1) := by decide +kernel
theorem dX6_fail_19 : decode cX6_fail 19 = .ok (.goto 4, 3) := by decide +kernel
theorem dX6_fail_22 : decode cX6_fail 22 = .ok (.iconst 0, 1) := by decide +kernel
theorem dX6_fail_23 : decode cX6_fail 23 = .ok (.istore 5, 2) := by decide +kernel
theorem dX6_fail_25 : decode cX6_fail 25 = .ok (.iload 5, 2) := by decide +kernel
theorem dX6_fail_27 : decode cX6_fail 27 = .ok (.ifCond .ne 23, 3) := by decide +kernel
theorem dX6_fail_30 : decode cX6_fail 30 = .ok (.iload_n 3, 1) := by decide +kernel
theorem dX6_fail_31 : decode cX6_fail 31 = .ok (.iconst 0, 1) := by decide +kernel
theorem dX6_fail_32 : decode cX6_fail 32 = .ok (.bipush 10, 2) := by decide +kernel
theorem dX6_fail_34 : decode cX6_fail 34 = .ok (.invokestatic 142, 3) := by decide +kernel
theorem dX6_fail_37 : decode cX6_fail 37 = .ok (.ifCond .ne 13, 3) := by decide +kernel
theorem dX6_fail_40 : decode cX6_fail 40 = .ok (.iload 4, 2) := by decide +kernel
theorem dX6_fail_42 : decode cX6_fail 42 = .ok (.iconst 0, 1) := by decide +kernel
theorem dX6_fail_43 : decode cX6_fail 43 = .ok (.iconst 1, 1) := by decide +kernel
theorem dX6_fail_44 : decode cX6_fail 44 = .ok (.invokestatic 142, 3) := by decide +kernel
theorem dX6_fail_47 : decode cX6_fail 47 = .ok (.ifCond .eq 5, 3) := by decide +kernel
theorem dX6_fail_50 : decode cX6_fail 50 = .ok (.iconst (-1), 1) := by decide +kernel
theorem dX6_fail_51 : decode cX6_fail 51 = .ok (.ireturn, 1) := by decide +kernel
theorem dX6_fail_52 : decode cX6_fail 52 = .ok (.aload_n 0, 1) := by decide +kernel
theorem dX6_fail_53 : decode cX6_fail 53 = .ok (.getfield 31, 3) := by decide +kernel
theorem dX6_fail_56 : decode cX6_fail 56 = .ok (.iload_n 1, 1) := by decide +kernel
theorem dX6_fail_57 : decode cX6_fail 57 = .ok (.invokevirtual 114, 3) := by decide +kernel
theorem dX6_fail_60 : decode cX6_fail 60 = .ok (.ifCond .ne 6, 3) := by decide +kernel
theorem dX6_fail_63 : decode cX6_fail 63 = .ok (.bipush (-2), 2) := by decide +kernel
theorem dX6_fail_65 : decode cX6_fail 65 = .ok (.ireturn, 1) := by decide +kernel
theorem dX6_fail_66 : decode cX6_fail 66 = .ok (.lconst 0, 1) := by decide +kernel
theorem dX6_fail_67 : decode cX6_fail 67 = .ok (.lstore 6, 2) := by decide +kernel
theorem dX6_fail_69 : decode cX6_fail 69 = .ok (.lconst 1, 1) := by decide +kernel
theorem dX6_fail_70 : decode cX6_fail 70 = .ok (.lstore 8, 2) := by decide +kernel
theorem dX6_fail_72 : decode cX6_fail 72 = .ok (.iconst 1, 1) := by decide +kernel
theorem dX6_fail_73 : decode cX6_fail 73 = .ok (.istore 10, 2) := by decide +kernel
theorem dX6_fail_75 : decode cX6_fail 75 = .ok (.iload 10, 2) := by decide +kernel
theorem dX6_fail_77 : decode cX6_fail 77 = .ok (.iload_n 2, 1) := by decide +kernel
theorem dX6_fail_78 : decode cX6_fail 78 = .ok (.if_icmp .gt 64, 3) := by decide +kernel
theorem dX6_fail_81 : decode cX6_fail 81 = .ok (.lload 8, 2) := by decide +kernel
theorem dX6_fail_83 : decode cX6_fail 83 = .ok (.iload_n 2, 1) := by decide +kernel
theorem dX6_fail_84 : decode cX6_fail 84 = .ok (.iload 10, 2) := by decide +kernel
theorem dX6_fail_86 : decode cX6_fail 86 = .ok (.isub, 1) := by decide +kernel
theorem dX6_fail_87 : decode cX6_fail 87 = .ok (.iconst 1, 1) := by decide +kernel
theorem dX6_fail_88 : decode cX6_fail 88 = .ok (.iadd, 1) := by decide +kernel
theorem dX6_fail_89 : decode cX6_fail 89 = .ok (.i2l, 1) := by decide +kernel
theorem dX6_fail_90 : decode cX6_fail 90 = .ok (.lmul, 1) := by decide +kernel
theorem dX6_fail_91 : decode cX6_fail 91 = .ok (.iload 10, 2) := by decide +kernel
theorem dX6_fail_93 : decode cX6_fail 93 = .ok (.i2l, 1) := by decide +kernel
theorem dX6_fail_94 : decode cX6_fail 94 = .ok (.ldiv, 1) := by decide +kernel
theorem dX6_fail_95 : decode cX6_fail 95 = .ok (.lstore 8, 2) := by decide +kernel
theorem dX6_fail_97 : decode cX6_fail 97 = .ok (.aload_n 0, 1) := by decide +kernel
theorem dX6_fail_98 : decode cX6_fail 98 = .ok (.getfield 31, 3) := by decide +kernel
theorem dX6_fail_101 : decode cX6_fail 101 = .ok (.iload_n 1, 1) := by decide +kernel
theorem dX6_fail_102 : decode cX6_fail 102 = .ok (.iload 10, 2) := by decide +kernel
theorem dX6_fail_104 : decode cX6_fail 104 = .ok (.invokevirtual 173, 3) := by decide +kernel
theorem dX6_fail_107 : decode cX6_fail 107 = .ok (.ifCond .eq 29, 3) := by decide +kernel
theorem dX6_fail_110 : decode cX6_fail 110 = .ok (.lload 6, 2) := by decide +kernel
theorem dX6_fail_112 : decode cX6_fail 112 = .ok (.lload 8, 2) := by decide +kernel
theorem dX6_fail_114 : decode cX6_fail 114 = .ok (.bipush 10, 2) := by decide +kernel
theorem dX6_fail_116 : decode cX6_fail 116 = .ok (.iload_n 3, 1) := by decide +kernel
theorem dX6_fail_117 : decode cX6_fail 117 = .ok (.isub, 1) := by decide +kernel
theorem dX6_fail_118 : decode cX6_fail 118 = .ok (.iload 10, 2) := by decide +kernel
theorem dX6_fail_120 : decode cX6_fail 120 = .ok (.invokestatic 212, 3) := by decide +kernel
theorem dX6_fail_123 : decode cX6_fail 123 = .ok (.lmul, 1) := by decide +kernel
theorem dX6_fail_124 : decode cX6_fail 124 = .ok (.iload_n 3, 1) := by decide +kernel
theorem dX6_fail_125 : decode cX6_fail 125 = .ok (.iload_n 2, 1) := by decide +kernel
theorem dX6_fail_126 : decode cX6_fail 126 = .ok (.iload 10, 2) := by decide +kernel
theorem dX6_fail_128 : decode cX6_fail 128 = .ok (.isub, 1) := by decide +kernel
theorem dX6_fail_129 : decode cX6_fail 129 = .ok (.invokestatic 212, 3) := by decide +kernel
theorem dX6_fail_132 : decode cX6_fail 132 = .ok (.lmul, 1) := by decide +kernel
theorem dX6_fail_133 : decode cX6_fail 133 = .ok (.ladd, 1) := by decide +kernel
theorem dX6_fail_134 : decode cX6_fail 134 = .ok (.lstore 6, 2) := by decide +kernel
theorem dX6_fail_136 : decode cX6_fail 136 = .ok (.iinc 10 1, 3) := by decide +kernel
theorem dX6_fail_139 : decode cX6_fail 139 = .ok (.goto (-64), 3) := by decide +kernel
theorem dX6_fail_142 : decode cX6_fail 142 = .ok (.bipush 10, 2) := by decide +kernel
theorem dX6_fail_144 : decode cX6_fail 144 = .ok (.iload_n 2, 1) := by decide +kernel
theorem dX6_fail_145 : decode cX6_fail 145 = .ok (.invokestatic 212, 3) := by decide +kernel
theorem dX6_fail_148 : decode cX6_fail 148 = .ok (.lstore 10, 2) := by decide +kernel
theorem dX6_fail_150 : decode cX6_fail 150 = .ok (.lload 6, 2) := by decide +kernel
theorem dX6_fail_152 : decode cX6_fail 152 = .ok (.lload 10, 2) := by decide +kernel
theorem dX6_fail_154 : decode cX6_fail 154 = .ok (.invokestatic 216, 3) := by decide +kernel
theorem dX6_fail_157 : decode cX6_fail 157 = .ok (.lstore 12, 2) := by decide +kernel
theorem dX6_fail_159 : decode cX6_fail 159 = .ok (.lload 12, 2) := by decide +kernel
theorem dX6_fail_161 : decode cX6_fail 161 = .ok (.lconst 1, 1) := by decide +kernel
theorem dX6_fail_162 : decode cX6_fail 162 = .ok (.lcmp, 1) := by decide +kernel
theorem dX6_fail_163 : decode cX6_fail 163 = .ok (.ifCond .ge 6, 3) := by decide +kernel
theorem dX6_fail_166 : decode cX6_fail 166 = .ok (.bipush (-4), 2) := by decide +kernel
theorem dX6_fail_168 : decode cX6_fail 168 = .ok (.ireturn, 1) := by decide +kernel
theorem dX6_fail_169 : decode cX6_fail 169 = .ok (.iload 4, 2) := by decide +kernel
theorem dX6_fail_171 : decode cX6_fail 171 = .ok (.ifCond .ne 8, 3) := by decide +kernel
theorem dX6_fail_174 : decode cX6_fail 174 = .ok (.lload 6, 2) := by decide +kernel
theorem dX6_fail_176 : decode cX6_fail 176 = .ok (.goto 5, 3) := by decide +kernel
theorem dX6_fail_179 : decode cX6_fail 179 = .ok (.lload 10, 2) := by decide +kernel
theorem dX6_fail_181 : decode cX6_fail 181 = .ok (.lload 12, 2) := by decide +kernel
theorem dX6_fail_183 : decode cX6_fail 183 = .ok (.ldiv, 1) := by decide +kernel
theorem dX6_fail_184 : decode cX6_fail 184 = .ok (.l2i, 1) := by decide +kernel
theorem dX6_fail_185 : decode cX6_fail 185 = .ok (.ireturn, 1) := by decide +kernel
theorem dX6_year_0 : decode cX6_year 0 = .ok (.iload_n 1, 1) := by decide +kernel
theorem dX6_year_1 : decode cX6_year 1 = .ok (.iconst 0, 1) := by decide +kernel
theorem dX6_year_2 : decode cX6_year 2 = .ok (.sipush 9999, 3) := by decide +kernel
theorem dX6_year_5 : decode cX6_year 5 = .ok (.invokestatic 142, 3) := by decide +kernel
theorem dX6_year_8 : decode cX6_year 8 = .ok (.ifCond .ne 22, 3) := by decide +kernel
theorem dX6_year_11 : decode cX6_year 11 = .ok (.iload_n 2, 1) := by decide +kernel
theorem dX6_year_12 : decode cX6_year 12 = .ok (.iconst 1, 1) := by decide +kernel
theorem dX6_year_13 : decode cX6_year 13 = .ok (.bipush 60, 2) := by decide +kernel
theorem dX6_year_15 : decode cX6_year 15 = .ok (.invokestatic 142, 3) := by decide +kernel
theorem dX6_year_18 : decode cX6_year 18 = .ok (.ifCond .ne 12, 3) := by decide +kernel
theorem dX6_year_21 : decode cX6_year 21 = .ok (.iload_n 3, 1) := by decide +kernel
theorem dX6_year_22 : decode cX6_year 22 = .ok (.iconst 0, 1) := by decide +kernel
theorem dX6_year_23 : decode cX6_year 23 = .ok (.iconst 2, 1) := by decide +kernel
theorem dX6_year_24 : decode cX6_year 24 = .ok (.invokestatic 142, 3) := by decide +kernel
theorem dX6_year_27 : decode cX6_year 27 = .ok (.ifCond .eq 5, 3) := by decide +kernel
theorem dX6_year_30 : decode cX6_year 30 = .ok (.iconst (-1), 1) := by decide +kernel
theorem dX6_year_31 : decode cX6_year 31 = .ok (.ireturn, 1) := by decide +kernel
theorem dX6_year_32 : decode cX6_year 32 = .ok (.aload_n 0, 1) := by decide +kernel
theorem dX6_year_33 : decode cX6_year 33 = .ok (.getfield 35, 3) := by decide +kernel
theorem dX6_year_36 : decode cX6_year 36 = .ok (.aload_n 0, 1) := by decide +kernel
theorem dX6_year_37 : decode cX6_year 37 = .ok (.getfield 31, 3) := by decide +kernel
theorem dX6_year_40 : decode cX6_year 40 = .ok (.invokevirtual 170, 3) := by decide +kernel
theorem dX6_year_43 : decode cX6_year 43 = .ok (.iconst 0, 1) := by decide +kernel
theorem dX6_year_44 : decode cX6_year 44 = .ok (.istore 4, 2) := by decide +kernel
theorem dX6_year_46 : decode cX6_year 46 = .ok (.iload 4, 2) := by decide +kernel
theorem dX6_year_48 : decode cX6_year 48 = .ok (.iload_n 2, 1) := by decide +kernel
theorem dX6_year_49 : decode cX6_year 49 = .ok (.if_icmp .ge 23, 3) := by decide +kernel
theorem dX6_year_52 : decode cX6_year 52 = .ok (.aload_n 0, 1) := by decide +kernel
theorem dX6_year_53 : decode cX6_year 53 = .ok (.iload_n 1, 1) := by decide +kernel
theorem dX6_year_54 : decode cX6_year 54 = .ok (.iload 4, 2) := by decide +kernel
theorem dX6_year_56 : decode cX6_year 56 = .ok (.invokevirtual 220, 3) := by decide +kernel
theorem dX6_year_59 : decode cX6_year 59 = .ok (.aload_n 0, 1) := by decide +kernel
theorem dX6_year_60 : decode cX6_year 60 = .ok (.getfield 35, 3) := by decide +kernel
theorem dX6_year_63 : decode cX6_year 63 = .ok (.invokevirtual 149, 3) := by decide +kernel
theorem dX6_year_66 : decode cX6_year 66 = .ok (.iinc 4 1, 3) := by decide +kernel
theorem dX6_year_69 : decode cX6_year 69 = .ok (.goto (-23), 3) := by decide +kernel
theorem dX6_year_72 : decode cX6_year 72 = .ok (.iload_n 3, 1) := by decide +kernel
theorem dX6_year_73 : decode cX6_year 73 = .ok (.ifCond .ne 11, 3) := by decide +kernel
theorem dX6_year_76 : decode cX6_year 76 = .ok (.aload_n 0, 1) := by decide +kernel
theorem dX6_year_77 : decode cX6_year 77 = .ok (.getfield 35, 3) := by decide +kernel
theorem dX6_year_80 : decode cX6_year 80 = .ok (.invokevirtual 224, 3) := by decide +kernel
theorem dX6_year_83 : decode cX6_year 83 = .ok (.ireturn, 1) := by decide +kernel
theorem dX6_year_84 : decode cX6_year 84 = .ok (.iload_n 3, 1) := by decide +kernel
theorem dX6_year_85 : decode cX6_year 85 = .ok (.iconst 1, 1) := by decide +kernel
theorem dX6_year_86 : decode cX6_year 86 = .ok (.if_icmp .ne 13, 3) := by decide +kernel
theorem dX6_year_89 : decode cX6_year 89 = .ok (.aload_n 0, 1) := by decide +kernel
theorem dX6_year_90 : decode cX6_year 90 = .ok (.getfield 35, 3) := by decide +kernel
theorem dX6_year_93 : decode cX6_year 93 = .ok (.getfield 159, 3) := by decide +kernel
theorem dX6_year_96 : decode cX6_year 96 = .ok (.goto 10, 3) := by decide +kernel
theorem dX6_year_99 : decode cX6_year 99 = .ok (.aload_n 0, 1) := by decide +kernel
theorem dX6_year_100 : decode cX6_year 100 = .ok (.getfield 35, 3) := by decide +kernel
theorem dX6_year_103 : decode cX6_year 103 = .ok (.invokevirtual 227, 3) := by decide +kernel
theorem dX6_year_106 : decode cX6_year 106 = .ok (.ireturn, 1) := by decide +kernel
theorem dX6_keep_0 : decode cX6_keep 0 = .ok (.aload_n 0, 1) := by decide +kernel
theorem dX6_keep_1 : decode cX6_keep 1 = .ok (.getfield 49, 3) := by decide +kernel
theorem dX6_keep_4 : decode cX6_keep 4 = .ok (.iconst 2, 1) := by decide +kernel
theorem dX6_keep_5 : decode cX6_keep 5 = .ok (.if_icmp .lt 6, 3) := by decide +kernel
theorem dX6_keep_8 : decode cX6_keep 8 = .ok (.bipush (-3), 2) := by decide +kernel
theorem dX6_keep_10 : decode cX6_keep 10 = .ok (.ireturn, 1) := by decide +kernel
theorem dX6_keep_11 : decode cX6_keep 11 = .ok (.aload_n 0, 1) := by decide +kernel
theorem dX6_keep_12 : decode cX6_keep 12 = .ok (.getfield 45, 3) := by decide +kernel
theorem dX6_keep_15 : decode cX6_keep 15 = .ok (.aload_n 0, 1) := by decide +kernel
theorem dX6_keep_16 : decode cX6_keep 16 = .ok (.getfield 49, 3) := by decide +kernel
theorem dX6_keep_19 : decode cX6_keep 19 = .ok (.aaload, 1) := by decide +kernel
theorem dX6_keep_20 : decode cX6_keep 20 = .ok (.aload_n 0, 1) := by decide +kernel
theorem dX6_keep_21 : decode cX6_keep 21 = .ok (.getfield 31, 3) := by decide +kernel
theorem dX6_keep_24 : decode cX6_keep 24 = .ok (.invokevirtual 170, 3) := by decide +kernel
theorem dX6_keep_27 : decode cX6_keep 27 = .ok (.aload_n 0, 1) := by decide +kernel
theorem dX6_keep_28 : decode cX6_keep 28 = .ok (.dup, 1) := by decide +kernel
theorem dX6_keep_29 : decode cX6_keep 29 = .ok (.getfield 49, 3) := by decide +kernel
theorem dX6_keep_32 : decode cX6_keep 32 = .ok (.iconst 1, 1) := by decide +kernel
theorem dX6_keep_33 : decode cX6_keep 33 = .ok (.iadd, 1) := by decide +kernel
theorem dX6_keep_34 : decode cX6_keep 34 = .ok (.putfield 49, 3) := by decide +kernel
theorem dX6_keep_37 : decode cX6_keep 37 = .ok (.aload_n 0, 1) := by decide +kernel
theorem dX6_keep_38 : decode cX6_keep 38 = .ok (.getfield 49, 3) := by decide +kernel
theorem dX6_keep_41 : decode cX6_keep 41 = .ok (.ireturn, 1) := by decide +kernel
theorem dX6_back_0 : decode cX6_back 0 = .ok (.aload_n 0, 1) := by decide +kernel
theorem dX6_back_1 : decode cX6_back 1 = .ok (.getfield 49, 3) := by decide +kernel
theorem dX6_back_4 : decode cX6_back 4 = .ok (.iconst 1, 1) := by decide +kernel
theorem dX6_back_5 : decode cX6_back 5 = .ok (.if_icmp .ge 6, 3) := by decide +kernel
theorem dX6_back_8 : decode cX6_back 8 = .ok (.bipush (-2), 2) := by decide +kernel
theorem dX6_back_10 : decode cX6_back 10 = .ok (.ireturn, 1) := by decide +kernel
theorem dX6_back_11 : decode cX6_back 11 = .ok (.aload_n 0, 1) := by decide +kernel
theorem dX6_back_12 : decode cX6_back 12 = .ok (.dup, 1) := by decide +kernel
theorem dX6_back_13 : decode cX6_back 13 = .ok (.getfield 49, 3) := by decide +kernel
theorem dX6_back_16 : decode cX6_back 16 = .ok (.iconst 1, 1) := by decide +kernel
theorem dX6_back_17 : decode cX6_back 17 = .ok (.isub, 1) := by decide +kernel
theorem dX6_back_18 : decode cX6_back 18 = .ok (.putfield 49, 3) := by decide +kernel
theorem dX6_back_21 : decode cX6_back 21 = .ok (.aload_n 0, 1) := by decide +kernel
theorem dX6_back_22 : decode cX6_back 22 = .ok (.getfield 31, 3) := by decide +kernel
theorem dX6_back_25 : decode cX6_back 25 = .ok (.aload_n 0, 1) := by decide +kernel
theorem dX6_back_26 : decode cX6_back 26 = .ok (.getfield 45, 3) := by decide +kernel
theorem dX6_back_29 : decode cX6_back 29 = .ok (.aload_n 0, 1) := by decide +kernel
theorem dX6_back_30 : decode cX6_back 30 = .ok (.getfield 49, 3) := by decide +kernel
theorem dX6_back_33 : decode cX6_back 33 = .ok (.aaload, 1) := by decide +kernel
theorem dX6_back_34 : decode cX6_back 34 = .ok (.invokevirtual 170, 3) := by decide +kernel
theorem dX6_back_37 : decode cX6_back 37 = .ok (.aload_n 0, 1) := by decide +kernel
theorem dX6_back_38 : decode cX6_back 38 = .ok (.getfield 41, 3) := by decide +kernel
theorem dX6_back_41 : decode cX6_back 41 = .ok (.iconst 0, 1) := by decide +kernel
theorem dX6_back_42 : decode cX6_back 42 = .ok (.putfield 95, 3) := by decide +kernel
theorem dX6_back_45 : decode cX6_back 45 = .ok (.aload_n 0, 1) := by decide +kernel
theorem dX6_back_46 : decode cX6_back 46 = .ok (.getfield 49, 3) := by decide +kernel
theorem dX6_back_49 : decode cX6_back 49 = .ok (.ireturn, 1) := by decide +kernel
theorem dX6_count_0 : decode cX6_count 0 = .ok (.iload_n 1, 1) := by decide +kernel
theorem dX6_count_1 : decode cX6_count 1 = .ok (.tableswitch 132 0 9 #[55, 63, 71, 79, 87, 95, 103, 111, 119, 124], 55) := by decide +kernel
theorem dX6_count_56 : decode cX6_count 56 = .ok (.aload_n 0, 1) := by decide +kernel
theorem dX6_count_57 : decode cX6_count 57 = .ok (.getfield 23, 3) := by decide +kernel
theorem dX6_count_60 : decode cX6_count 60 = .ok (.getfield 92, 3) := by decide +kernel
theorem dX6_count_63 : decode cX6_count 63 = .ok (.ireturn, 1) := by decide +kernel
theorem dX6_count_64 : decode cX6_count 64 = .ok (.aload_n 0, 1) := by decide +kernel
theorem dX6_count_65 : decode cX6_count 65 = .ok (.getfield 31, 3) := by decide +kernel
theorem dX6_count_68 : decode cX6_count 68 = .ok (.getfield 152, 3) := by decide +kernel
theorem dX6_count_71 : decode cX6_count 71 = .ok (.ireturn, 1) := by decide +kernel
theorem dX6_count_72 : decode cX6_count 72 = .ok (.aload_n 0, 1) := by decide +kernel
theorem dX6_count_73 : decode cX6_count 73 = .ok (.getfield 31, 3) := by decide +kernel
theorem dX6_count_76 : decode cX6_count 76 = .ok (.invokevirtual 224, 3) := by decide +kernel
theorem dX6_count_79 : decode cX6_count 79 = .ok (.ireturn, 1) := by decide +kernel
theorem dX6_count_80 : decode cX6_count 80 = .ok (.aload_n 0, 1) := by decide +kernel
theorem dX6_count_81 : decode cX6_count 81 = .ok (.getfield 31, 3) := by decide +kernel
theorem dX6_count_84 : decode cX6_count 84 = .ok (.getfield 159, 3) := by decide +kernel
theorem dX6_count_87 : decode cX6_count 87 = .ok (.ireturn, 1) := by decide +kernel
theorem dX6_count_88 : decode cX6_count 88 = .ok (.aload_n 0, 1) := by decide +kernel
theorem dX6_count_89 : decode cX6_count 89 = .ok (.getfield 31, 3) := by decide +kernel
theorem dX6_count_92 : decode cX6_count 92 = .ok (.invokevirtual 227, 3) := by decide +kernel
theorem dX6_count_95 : decode cX6_count 95 = .ok (.ireturn, 1) := by decide +kernel
theorem dX6_count_96 : decode cX6_count 96 = .ok (.aload_n 0, 1) := by decide +kernel
theorem dX6_count_97 : decode cX6_count 97 = .ok (.getfield 31, 3) := by decide +kernel
theorem dX6_count_100 : decode cX6_count 100 = .ok (.invokevirtual 230, 3) := by decide +kernel
theorem dX6_count_103 : decode cX6_count 103 = .ok (.ireturn, 1) := by decide +kernel
theorem dX6_count_104 : decode cX6_count 104 = .ok (.aload_n 0, 1) := by decide +kernel
theorem dX6_count_105 : decode cX6_count 105 = .ok (.getfield 56, 3) := by decide +kernel
theorem dX6_count_108 : decode cX6_count 108 = .ok (.getfield 98, 3) := by decide +kernel
theorem dX6_count_111 : decode cX6_count 111 = .ok (.ireturn, 1) := by decide +kernel
theorem dX6_count_112 : decode cX6_count 112 = .ok (.aload_n 0, 1) := by decide +kernel
theorem dX6_count_113 : decode cX6_count 113 = .ok (.getfield 41, 3) := by decide +kernel
theorem dX6_count_116 : decode cX6_count 116 = .ok (.getfield 95, 3) := by decide +kernel
theorem dX6_count_119 : decode cX6_count 119 = .ok (.ireturn, 1) := by decide +kernel
theorem dX6_count_120 : decode cX6_count 120 = .ok (.aload_n 0, 1) := by decide +kernel
theorem dX6_count_121 : decode cX6_count 121 = .ok (.getfield 49, 3) := by decide +kernel
theorem dX6_count_124 : decode cX6_count 124 = .ok (.ireturn, 1) := by decide +kernel
theorem dX6_count_125 : decode cX6_count 125 = .ok (.aload_n 0, 1) := by decide +kernel
theorem dX6_count_126 : decode cX6_count 126 = .ok (.getfield 12, 3) := by decide +kernel
theorem dX6_count_129 : decode cX6_count 129 = .ok (.getfield 90, 3) := by decide +kernel
theorem dX6_count_132 : decode cX6_count 132 = .ok (.ireturn, 1) := by decide +kernel
theorem dX6_count_133 : decode cX6_count 133 = .ok (.iconst (-1), 1) := by decide +kernel
theorem dX6_count_134 : decode cX6_count 134 = .ok (.ireturn, 1) := by decide +kernel
theorem dX6_isOutside_0 : decode cX6_isOutside 0 = .ok (.iload_n 0, 1) := by decide +kernel
theorem dX6_isOutside_1 : decode cX6_isOutside 1 = .ok (.iload_n 1, 1) := by decide +kernel
theorem dX6_isOutside_2 : decode cX6_isOutside 2 = .ok (.if_icmp .lt 8, 3) := by decide +kernel
theorem dX6_isOutside_5 : decode cX6_isOutside 5 = .ok (.iload_n 0, 1) := by decide +kernel
theorem dX6_isOutside_6 : decode cX6_isOutside 6 = .ok (.iload_n 2, 1) := by decide +kernel
theorem dX6_isOutside_7 : decode cX6_isOutside 7 = .ok (.if_icmp .le 7, 3) := by decide +kernel
theorem dX6_isOutside_10 : decode cX6_isOutside 10 = .ok (.iconst 1, 1) := by decide +kernel
theorem dX6_isOutside_11 : decode cX6_isOutside 11 = .ok (.goto 4, 3) := by decide +kernel
theorem dX6_isOutside_14 : decode cX6_isOutside 14 = .ok (.iconst 0, 1) := by decide +kernel
theorem dX6_isOutside_15 : decode cX6_isOutside 15 = .ok (.ireturn, 1) := by decide +kernel
theorem dX6_isNoWall_0 : decode cX6_isNoWall 0 = .ok (.iload_n 1, 1) := by decide +kernel
theorem dX6_isNoWall_1 : decode cX6_isNoWall 1 = .ok (.iconst 0, 1) := by decide +kernel
theorem dX6_isNoWall_2 : decode cX6_isNoWall 2 = .ok (.aload_n 0, 1) := by decide +kernel
theorem dX6_isNoWall_3 : decode cX6_isNoWall 3 = .ok (.getfield 23, 3) := by decide +kernel
theorem dX6_isNoWall_6 : decode cX6_isNoWall 6 = .ok (.getfield 92, 3) := by decide +kernel
theorem dX6_isNoWall_9 : decode cX6_isNoWall 9 = .ok (.iconst 1, 1) := by decide +kernel
theorem dX6_isNoWall_10 : decode cX6_isNoWall 10 = .ok (.isub, 1) := by decide +kernel
theorem dX6_isNoWall_11 : decode cX6_isNoWall 11 = .ok (.invokestatic 142, 3) := by decide +kernel
theorem dX6_isNoWall_14 : decode cX6_isNoWall 14 = .ok (.ireturn, 1) := by decide +kernel
theorem dX6_isNoPair_0 : decode cX6_isNoPair 0 = .ok (.aload_n 0, 1) := by decide +kernel
theorem dX6_isNoPair_1 : decode cX6_isNoPair 1 = .ok (.iload_n 1, 1) := by decide +kernel
theorem dX6_isNoPair_2 : decode cX6_isNoPair 2 = .ok (.invokevirtual 99, 3) := by decide +kernel
theorem dX6_isNoPair_5 : decode cX6_isNoPair 5 = .ok (.ifCond .ne 16, 3) := by decide +kernel
theorem dX6_isNoPair_8 : decode cX6_isNoPair 8 = .ok (.aload_n 0, 1) := by decide +kernel
theorem dX6_isNoPair_9 : decode cX6_isNoPair 9 = .ok (.iload_n 2, 1) := by decide +kernel
theorem dX6_isNoPair_10 : decode cX6_isNoPair 10 = .ok (.invokevirtual 99, 3) := by decide +kernel
theorem dX6_isNoPair_13 : decode cX6_isNoPair 13 = .ok (.ifCond .ne 8, 3) := by decide +kernel
theorem dX6_isNoPair_16 : decode cX6_isNoPair 16 = .ok (.iload_n 1, 1) := by decide +kernel
theorem dX6_isNoPair_17 : decode cX6_isNoPair 17 = .ok (.iload_n 2, 1) := by decide +kernel
theorem dX6_isNoPair_18 : decode cX6_isNoPair 18 = .ok (.if_icmp .ne 7, 3) := by decide +kernel
theorem dX6_isNoPair_21 : decode cX6_isNoPair 21 = .ok (.iconst 1, 1) := by decide +kernel
theorem dX6_isNoPair_22 : decode cX6_isNoPair 22 = .ok (.goto 4, 3) := by decide +kernel
theorem dX6_isNoPair_25 : decode cX6_isNoPair 25 = .ok (.iconst 0, 1) := by decide +kernel
theorem dX6_isNoPair_26 : decode cX6_isNoPair 26 = .ok (.ireturn, 1) := by decide +kernel
theorem dX6_othersDownBy_0 : decode cX6_othersDownBy 0 = .ok (.aload_n 0, 1) := by decide +kernel
theorem dX6_othersDownBy_1 : decode cX6_othersDownBy 1 = .ok (.getfield 35, 3) := by decide +kernel
theorem dX6_othersDownBy_4 : decode cX6_othersDownBy 4 = .ok (.aload_n 0, 1) := by decide +kernel
theorem dX6_othersDownBy_5 : decode cX6_othersDownBy 5 = .ok (.getfield 31, 3) := by decide +kernel
theorem dX6_othersDownBy_8 : decode cX6_othersDownBy 8 = .ok (.invokevirtual 170, 3) := by decide +kernel
theorem dX6_othersDownBy_11 : decode cX6_othersDownBy 11 = .ok (.aload_n 0, 1) := by decide +kernel
theorem dX6_othersDownBy_12 : decode cX6_othersDownBy 12 = .ok (.getfield 35, 3) := by decide +kernel
theorem dX6_othersDownBy_15 : decode cX6_othersDownBy 15 = .ok (.iload_n 1, 1) := by decide +kernel
theorem dX6_othersDownBy_16 : decode cX6_othersDownBy 16 = .ok (.iconst 1, 1) := by decide +kernel
theorem dX6_othersDownBy_17 : decode cX6_othersDownBy 17 = .ok (.invokevirtual 233, 3) := by decide +kernel
theorem dX6_othersDownBy_20 : decode cX6_othersDownBy 20 = .ok (.aload_n 0, 1) := by decide +kernel
theorem dX6_othersDownBy_21 : decode cX6_othersDownBy 21 = .ok (.getfield 35, 3) := by decide +kernel
theorem dX6_othersDownBy_24 : decode cX6_othersDownBy 24 = .ok (.iload_n 1, 1) := by decide +kernel
theorem dX6_othersDownBy_25 : decode cX6_othersDownBy 25 = .ok (.invokevirtual 114, 3) := by decide +kernel
theorem dX6_othersDownBy_28 : decode cX6_othersDownBy 28 = .ok (.ifCond .eq 7, 3) := by decide +kernel
theorem dX6_othersDownBy_31 : decode cX6_othersDownBy 31 = .ok (.iconst 0, 1) := by decide +kernel
theorem dX6_othersDownBy_32 : decode cX6_othersDownBy 32 = .ok (.goto 4, 3) := by decide +kernel
theorem dX6_othersDownBy_35 : decode cX6_othersDownBy 35 = .ok (.iconst 1, 1) := by decide +kernel
theorem dX6_othersDownBy_36 : decode cX6_othersDownBy 36 = .ok (.istore_n 2, 1) := by decide +kernel
theorem dX6_othersDownBy_37 : decode cX6_othersDownBy 37 = .ok (.aload_n 0, 1) := by decide +kernel
theorem dX6_othersDownBy_38 : decode cX6_othersDownBy 38 = .ok (.getfield 35, 3) := by decide +kernel
theorem dX6_othersDownBy_41 : decode cX6_othersDownBy 41 = .ok (.invokevirtual 224, 3) := by decide +kernel
theorem dX6_othersDownBy_44 : decode cX6_othersDownBy 44 = .ok (.aload_n 0, 1) := by decide +kernel
theorem dX6_othersDownBy_45 : decode cX6_othersDownBy 45 = .ok (.getfield 31, 3) := by decide +kernel
theorem dX6_othersDownBy_48 : decode cX6_othersDownBy 48 = .ok (.invokevirtual 224, 3) := by decide +kernel
theorem dX6_othersDownBy_51 : decode cX6_othersDownBy 51 = .ok (.isub, 1) := by decide +kernel
theorem dX6_othersDownBy_52 : decode cX6_othersDownBy 52 = .ok (.iload_n 2, 1) := by decide +kernel
theorem dX6_othersDownBy_53 : decode cX6_othersDownBy 53 = .ok (.isub, 1) := by decide +kernel
theorem dX6_othersDownBy_54 : decode cX6_othersDownBy 54 = .ok (.ireturn, 1) := by decide +kernel
theorem dX6_standsWithout_0 : decode cX6_standsWithout 0 = .ok (.aload_n 0, 1) := by decide +kernel
theorem dX6_standsWithout_1 : decode cX6_standsWithout 1 = .ok (.getfield 35, 3) := by decide +kernel
theorem dX6_standsWithout_4 : decode cX6_standsWithout 4 = .ok (.aload_n 0, 1) := by decide +kernel
theorem dX6_standsWithout_5 : decode cX6_standsWithout 5 = .ok (.getfield 31, 3) := by decide +kernel
theorem dX6_standsWithout_8 : decode cX6_standsWithout 8 = .ok (.invokevirtual 170, 3) := by decide +kernel
theorem dX6_standsWithout_11 : decode cX6_standsWithout 11 = .ok (.iconst 0, 1) := by decide +kernel
theorem dX6_standsWithout_12 : decode cX6_standsWithout 12 = .ok (.istore 4, 2) := by decide +kernel
theorem dX6_standsWithout_14 : decode cX6_standsWithout 14 = .ok (.iload 4, 2) := by decide +kernel
theorem dX6_standsWithout_16 : decode cX6_standsWithout 16 = .ok (.aload_n 0, 1) := by decide +kernel
theorem dX6_standsWithout_17 : decode cX6_standsWithout 17 = .ok (.getfield 23, 3) := by decide +kernel
theorem dX6_standsWithout_20 : decode cX6_standsWithout 20 = .ok (.getfield 92, 3) := by decide +kernel
theorem dX6_standsWithout_23 : decode cX6_standsWithout 23 = .ok (.if_icmp .ge 30, 3) := by decide +kernel
theorem dX6_standsWithout_26 : decode cX6_standsWithout 26 = .ok (.iload_n 1, 1) := by decide +kernel
theorem dX6_standsWithout_27 : decode cX6_standsWithout 27 = .ok (.iload 4, 2) := by decide +kernel
theorem dX6_standsWithout_29 : decode cX6_standsWithout 29 = .ok (.ishr, 1) := by decide +kernel
theorem dX6_standsWithout_30 : decode cX6_standsWithout 30 = .ok (.iconst 1, 1) := by decide +kernel
theorem dX6_standsWithout_31 : decode cX6_standsWithout 31 = .ok (.iand, 1) := by decide +kernel
theorem dX6_standsWithout_32 : decode cX6_standsWithout 32 = .ok (.iconst 1, 1) := by decide +kernel
theorem dX6_standsWithout_33 : decode cX6_standsWithout 33 = .ok (.if_icmp .ne 14, 3) := by decide +kernel
theorem dX6_standsWithout_36 : decode cX6_standsWithout 36 = .ok (.aload_n 0, 1) := by decide +kernel
theorem dX6_standsWithout_37 : decode cX6_standsWithout 37 = .ok (.getfield 35, 3) := by decide +kernel
theorem dX6_standsWithout_40 : decode cX6_standsWithout 40 = .ok (.iload 4, 2) := by decide +kernel
theorem dX6_standsWithout_42 : decode cX6_standsWithout 42 = .ok (.iload_n 2, 1) := by decide +kernel
theorem dX6_standsWithout_43 : decode cX6_standsWithout 43 = .ok (.iconst 0, 1) := by decide +kernel
theorem dX6_standsWithout_44 : decode cX6_standsWithout 44 = .ok (.invokevirtual 155, 3) := by decide +kernel
theorem dX6_standsWithout_47 : decode cX6_standsWithout 47 = .ok (.iinc 4 1, 3) := by decide +kernel
theorem dX6_standsWithout_50 : decode cX6_standsWithout 50 = .ok (.goto (-36), 3) := by decide +kernel
theorem dX6_standsWithout_53 : decode cX6_standsWithout 53 = .ok (.aload_n 0, 1) := by decide +kernel
theorem dX6_standsWithout_54 : decode cX6_standsWithout 54 = .ok (.getfield 35, 3) := by decide +kernel
theorem dX6_standsWithout_57 : decode cX6_standsWithout 57 = .ok (.iload_n 3, 1) := by decide +kernel
theorem dX6_standsWithout_58 : decode cX6_standsWithout 58 = .ok (.iconst 1, 1) := by decide +kernel
theorem dX6_standsWithout_59 : decode cX6_standsWithout 59 = .ok (.invokevirtual 233, 3) := by decide +kernel
theorem dX6_standsWithout_62 : decode cX6_standsWithout 62 = .ok (.aload_n 0, 1) := by decide +kernel
theorem dX6_standsWithout_63 : decode cX6_standsWithout 63 = .ok (.getfield 35, 3) := by decide +kernel
theorem dX6_standsWithout_66 : decode cX6_standsWithout 66 = .ok (.iload_n 2, 1) := by decide +kernel
theorem dX6_standsWithout_67 : decode cX6_standsWithout 67 = .ok (.invokevirtual 114, 3) := by decide +kernel
theorem dX6_standsWithout_70 : decode cX6_standsWithout 70 = .ok (.ireturn, 1) := by decide +kernel
theorem dX6_drawAhead_0 : decode cX6_drawAhead 0 = .ok (.aload_n 0, 1) := by decide +kernel
theorem dX6_drawAhead_1 : decode cX6_drawAhead 1 = .ok (.getfield 23, 3) := by decide +kernel
theorem dX6_drawAhead_4 : decode cX6_drawAhead 4 = .ok (.getfield 92, 3) := by decide +kernel
theorem dX6_drawAhead_7 : decode cX6_drawAhead 7 = .ok (.iconst 1, 1) := by decide +kernel
theorem dX6_drawAhead_8 : decode cX6_drawAhead 8 = .ok (.if_icmp .ge 4, 3) := by decide +kernel
theorem dX6_drawAhead_11 : decode cX6_drawAhead 11 = .ok (.return_, 1) := by decide +kernel
theorem dX6_drawAhead_12 : decode cX6_drawAhead 12 = .ok (.ldc2_w 236, 3) := by decide +kernel
theorem dX6_drawAhead_15 : decode cX6_drawAhead 15 = .ok (.iload_n 1, 1) := by decide +kernel
theorem dX6_drawAhead_16 : decode cX6_drawAhead 16 = .ok (.i2l, 1) := by decide +kernel
theorem dX6_drawAhead_17 : decode cX6_drawAhead 17 = .ok (.lmul, 1) := by decide +kernel
theorem dX6_drawAhead_18 : decode cX6_drawAhead 18 = .ok (.ldc2_w 238, 3) := by decide +kernel
theorem dX6_drawAhead_21 : decode cX6_drawAhead 21 = .ok (.iload_n 2, 1) := by decide +kernel
theorem dX6_drawAhead_22 : decode cX6_drawAhead 22 = .ok (.i2l, 1) := by decide +kernel
theorem dX6_drawAhead_23 : decode cX6_drawAhead 23 = .ok (.lmul, 1) := by decide +kernel
theorem dX6_drawAhead_24 : decode cX6_drawAhead 24 = .ok (.ladd, 1) := by decide +kernel
theorem dX6_drawAhead_25 : decode cX6_drawAhead 25 = .ok (.lconst 1, 1) := by decide +kernel
theorem dX6_drawAhead_26 : decode cX6_drawAhead 26 = .ok (.ladd, 1) := by decide +kernel
theorem dX6_drawAhead_27 : decode cX6_drawAhead 27 = .ok (.lstore_n 3, 1) := by decide +kernel
theorem dX6_drawAhead_28 : decode cX6_drawAhead 28 = .ok (.lload_n 3, 1) := by decide +kernel
theorem dX6_drawAhead_29 : decode cX6_drawAhead 29 = .ok (.lload_n 3, 1) := by decide +kernel
theorem dX6_drawAhead_30 : decode cX6_drawAhead 30 = .ok (.lmul, 1) := by decide +kernel
theorem dX6_drawAhead_31 : decode cX6_drawAhead 31 = .ok (.ldc2_w 240, 3) := by decide +kernel
theorem dX6_drawAhead_34 : decode cX6_drawAhead 34 = .ok (.lrem, 1) := by decide +kernel
theorem dX6_drawAhead_35 : decode cX6_drawAhead 35 = .ok (.l2i, 1) := by decide +kernel
theorem dX6_drawAhead_36 : decode cX6_drawAhead 36 = .ok (.istore 5, 2) := by decide +kernel
theorem dX6_drawAhead_38 : decode cX6_drawAhead 38 = .ok (.iload 5, 2) := by decide +kernel
theorem dX6_drawAhead_40 : decode cX6_drawAhead 40 = .ok (.bipush 8, 2) := by decide +kernel
theorem dX6_drawAhead_42 : decode cX6_drawAhead 42 = .ok (.idiv, 1) := by decide +kernel
theorem dX6_drawAhead_43 : decode cX6_drawAhead 43 = .ok (.aload_n 0, 1) := by decide +kernel
theorem dX6_drawAhead_44 : decode cX6_drawAhead 44 = .ok (.getfield 23, 3) := by decide +kernel
theorem dX6_drawAhead_47 : decode cX6_drawAhead 47 = .ok (.getfield 92, 3) := by decide +kernel
theorem dX6_drawAhead_50 : decode cX6_drawAhead 50 = .ok (.irem, 1) := by decide +kernel
theorem dX6_drawAhead_51 : decode cX6_drawAhead 51 = .ok (.istore 6, 2) := by decide +kernel
theorem dX6_drawAhead_53 : decode cX6_drawAhead 53 = .ok (.aload_n 0, 1) := by decide +kernel
theorem dX6_drawAhead_54 : decode cX6_drawAhead 54 = .ok (.getfield 35, 3) := by decide +kernel
theorem dX6_drawAhead_57 : decode cX6_drawAhead 57 = .ok (.iload 6, 2) := by decide +kernel
theorem dX6_drawAhead_59 : decode cX6_drawAhead 59 = .ok (.invokevirtual 114, 3) := by decide +kernel
theorem dX6_drawAhead_62 : decode cX6_drawAhead 62 = .ok (.ifCond .ne 4, 3) := by decide +kernel
theorem dX6_drawAhead_65 : decode cX6_drawAhead 65 = .ok (.return_, 1) := by decide +kernel
theorem dX6_drawAhead_66 : decode cX6_drawAhead 66 = .ok (.iload 5, 2) := by decide +kernel
theorem dX6_drawAhead_68 : decode cX6_drawAhead 68 = .ok (.bipush 8, 2) := by decide +kernel
theorem dX6_drawAhead_70 : decode cX6_drawAhead 70 = .ok (.irem, 1) := by decide +kernel
theorem dX6_drawAhead_71 : decode cX6_drawAhead 71 = .ok (.istore 7, 2) := by decide +kernel
theorem dX6_drawAhead_73 : decode cX6_drawAhead 73 = .ok (.iload 7, 2) := by decide +kernel
theorem dX6_drawAhead_75 : decode cX6_drawAhead 75 = .ok (.iconst 3, 1) := by decide +kernel
theorem dX6_drawAhead_76 : decode cX6_drawAhead 76 = .ok (.if_icmp .gt 12, 3) := by decide +kernel
theorem dX6_drawAhead_79 : decode cX6_drawAhead 79 = .ok (.aload_n 0, 1) := by decide +kernel
theorem dX6_drawAhead_80 : decode cX6_drawAhead 80 = .ok (.getfield 35, 3) := by decide +kernel
theorem dX6_drawAhead_83 : decode cX6_drawAhead 83 = .ok (.iload 6, 2) := by decide +kernel
theorem dX6_drawAhead_85 : decode cX6_drawAhead 85 = .ok (.invokevirtual 138, 3) := by decide +kernel
theorem dX6_drawAhead_88 : decode cX6_drawAhead 88 = .ok (.iload 7, 2) := by decide +kernel
theorem dX6_drawAhead_90 : decode cX6_drawAhead 90 = .ok (.iconst 4, 1) := by decide +kernel
theorem dX6_drawAhead_91 : decode cX6_drawAhead 91 = .ok (.if_icmp .ne 23, 3) := by decide +kernel
theorem dX6_drawAhead_94 : decode cX6_drawAhead 94 = .ok (.aload_n 0, 1) := by decide +kernel
theorem dX6_drawAhead_95 : decode cX6_drawAhead 95 = .ok (.getfield 35, 3) := by decide +kernel
theorem dX6_drawAhead_98 : decode cX6_drawAhead 98 = .ok (.iload 6, 2) := by decide +kernel
theorem dX6_drawAhead_100 : decode cX6_drawAhead 100 = .ok (.iload 5, 2) := by decide +kernel
theorem dX6_drawAhead_102 : decode cX6_drawAhead 102 = .ok (.bipush 64, 2) := by decide +kernel
theorem dX6_drawAhead_104 : decode cX6_drawAhead 104 = .ok (.idiv, 1) := by decide +kernel
theorem dX6_drawAhead_105 : decode cX6_drawAhead 105 = .ok (.bipush 9, 2) := by decide +kernel
theorem dX6_drawAhead_107 : decode cX6_drawAhead 107 = .ok (.irem, 1) := by decide +kernel
theorem dX6_drawAhead_108 : decode cX6_drawAhead 108 = .ok (.iconst 1, 1) := by decide +kernel
theorem dX6_drawAhead_109 : decode cX6_drawAhead 109 = .ok (.iadd, 1) := by decide +kernel
theorem dX6_drawAhead_110 : decode cX6_drawAhead 110 = .ok (.invokevirtual 146, 3) := by decide +kernel
theorem dX6_drawAhead_113 : decode cX6_drawAhead 113 = .ok (.pop, 1) := by decide +kernel
theorem dX6_drawAhead_114 : decode cX6_drawAhead 114 = .ok (.return_, 1) := by decide +kernel
theorem dX6_power_0 : decode cX6_power 0 = .ok (.lconst 1, 1) := by decide +kernel
theorem dX6_power_1 : decode cX6_power 1 = .ok (.lstore_n 2, 1) := by decide +kernel
theorem dX6_power_2 : decode cX6_power 2 = .ok (.iconst 0, 1) := by decide +kernel
theorem dX6_power_3 : decode cX6_power 3 = .ok (.istore 4, 2) := by decide +kernel
theorem dX6_power_5 : decode cX6_power 5 = .ok (.iload 4, 2) := by decide +kernel
theorem dX6_power_7 : decode cX6_power 7 = .ok (.iload_n 1, 1) := by decide +kernel
theorem dX6_power_8 : decode cX6_power 8 = .ok (.if_icmp .ge 14, 3) := by decide +kernel
theorem dX6_power_11 : decode cX6_power 11 = .ok (.lload_n 2, 1) := by decide +kernel
theorem dX6_power_12 : decode cX6_power 12 = .ok (.iload_n 0, 1) := by decide +kernel
theorem dX6_power_13 : decode cX6_power 13 = .ok (.i2l, 1) := by decide +kernel
theorem dX6_power_14 : decode cX6_power 14 = .ok (.lmul, 1) := by decide +kernel
theorem dX6_power_15 : decode cX6_power 15 = .ok (.lstore_n 2, 1) := by decide +kernel
theorem dX6_power_16 : decode cX6_power 16 = .ok (.iinc 4 1, 3) := by decide +kernel
theorem dX6_power_19 : decode cX6_power 19 = .ok (.goto (-14), 3) := by decide +kernel
theorem dX6_power_22 : decode cX6_power 22 = .ok (.lload_n 2, 1) := by decide +kernel
theorem dX6_power_23 : decode cX6_power 23 = .ok (.lreturn, 1) := by decide +kernel
theorem dX6_greatestShared_0 : decode cX6_greatestShared 0 = .ok (.iconst 0, 1) := by decide +kernel
theorem dX6_greatestShared_1 : decode cX6_greatestShared 1 = .ok (.istore 4, 2) := by decide +kernel
theorem dX6_greatestShared_3 : decode cX6_greatestShared 3 = .ok (.iload 4, 2) := by decide +kernel
theorem dX6_greatestShared_5 : decode cX6_greatestShared 5 = .ok (.bipush 100, 2) := by decide +kernel
theorem dX6_greatestShared_7 : decode cX6_greatestShared 7 = .ok (.if_icmp .ge 25, 3) := by decide +kernel
theorem dX6_greatestShared_10 : decode cX6_greatestShared 10 = .ok (.lload_n 2, 1) := by decide +kernel
theorem dX6_greatestShared_11 : decode cX6_greatestShared 11 = .ok (.lconst 0, 1) := by decide +kernel
theorem dX6_greatestShared_12 : decode cX6_greatestShared 12 = .ok (.lcmp, 1) := by decide +kernel
theorem dX6_greatestShared_13 : decode cX6_greatestShared 13 = .ok (.ifCond .eq 19, 3) := by decide +kernel
theorem dX6_greatestShared_16 : decode cX6_greatestShared 16 = .ok (.lload_n 0, 1) := by decide +kernel
theorem dX6_greatestShared_17 : decode cX6_greatestShared 17 = .ok (.lload_n 2, 1) := by decide +kernel
theorem dX6_greatestShared_18 : decode cX6_greatestShared 18 = .ok (.lrem, 1) := by decide +kernel
theorem dX6_greatestShared_19 : decode cX6_greatestShared 19 = .ok (.lstore 5, 2) := by decide +kernel
theorem dX6_greatestShared_21 : decode cX6_greatestShared 21 = .ok (.lload_n 2, 1) := by decide +kernel
theorem dX6_greatestShared_22 : decode cX6_greatestShared 22 = .ok (.lstore_n 0, 1) := by decide +kernel
theorem dX6_greatestShared_23 : decode cX6_greatestShared 23 = .ok (.lload 5, 2) := by decide +kernel
theorem dX6_greatestShared_25 : decode cX6_greatestShared 25 = .ok (.lstore_n 2, 1) := by decide +kernel
theorem dX6_greatestShared_26 : decode cX6_greatestShared 26 = .ok (.iinc 4 1, 3) := by decide +kernel
theorem dX6_greatestShared_29 : decode cX6_greatestShared 29 = .ok (.goto (-26), 3) := by decide +kernel
theorem dX6_greatestShared_32 : decode cX6_greatestShared 32 = .ok (.lload_n 0, 1) := by decide +kernel
theorem dX6_greatestShared_33 : decode cX6_greatestShared 33 = .ok (.lreturn, 1) := by decide +kernel
