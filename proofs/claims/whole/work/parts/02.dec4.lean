theorem dX12_fits_6 : decode cX12_fits 6 = .ok (.iload_n 1, 1) := by decide +kernel
theorem dX12_fits_7 : decode cX12_fits 7 = .ok (.iconst 0, 1) := by decide +kernel
theorem dX12_fits_8 : decode cX12_fits 8 = .ok (.bipush 99, 2) := by decide +kernel
theorem dX12_fits_10 : decode cX12_fits 10 = .ok (.invokestatic 82, 3) := by decide +kernel
theorem dX12_fits_13 : decode cX12_fits 13 = .ok (.ifCond .ne 7, 3) := by decide +kernel
theorem dX12_fits_16 : decode cX12_fits 16 = .ok (.iconst 1, 1) := by decide +kernel
theorem dX12_fits_17 : decode cX12_fits 17 = .ok (.goto 4, 3) := by decide +kernel
theorem dX12_fits_20 : decode cX12_fits 20 = .ok (.iconst 0, 1) := by decide +kernel
theorem dX12_fits_21 : decode cX12_fits 21 = .ok (.iconst 1, 1) := by decide +kernel
theorem dX12_fits_22 : decode cX12_fits 22 = .ok (.invokevirtual 86, 3) := by decide +kernel
theorem dX12_fits_25 : decode cX12_fits 25 = .ok (.ifCond .eq 5, 3) := by decide +kernel
theorem dX12_fits_28 : decode cX12_fits 28 = .ok (.iconst 0, 1) := by decide +kernel
theorem dX12_fits_29 : decode cX12_fits 29 = .ok (.ireturn, 1) := by decide +kernel
theorem dX12_fits_30 : decode cX12_fits 30 = .ok (.aload_n 0, 1) := by decide +kernel
theorem dX12_fits_31 : decode cX12_fits 31 = .ok (.iload_n 1, 1) := by decide +kernel
theorem dX12_fits_32 : decode cX12_fits 32 = .ok (.invokevirtual 297, 3) := by decide +kernel
theorem dX12_fits_35 : decode cX12_fits 35 = .ok (.ireturn, 1) := by decide +kernel
theorem dX12_telling_0 : decode cX12_telling 0 = .ok (.aload_n 0, 1) := by decide +kernel
theorem dX12_telling_1 : decode cX12_telling 1 = .ok (.iconst 0, 1) := by decide +kernel
theorem dX12_telling_2 : decode cX12_telling 2 = .ok (.putfield 79, 3) := by decide +kernel
theorem dX12_telling_5 : decode cX12_telling 5 = .ok (.aload_n 0, 1) := by decide +kernel
theorem dX12_telling_6 : decode cX12_telling 6 = .ok (.aload_n 0, 1) := by decide +kernel
theorem dX12_telling_7 : decode cX12_telling 7 = .ok (.getfield 90, 3) := by decide +kernel
theorem dX12_telling_10 : decode cX12_telling 10 = .ok (.ifCond .ne 7, 3) := by decide +kernel
theorem dX12_telling_13 : decode cX12_telling 13 = .ok (.iconst 1, 1) := by decide +kernel
theorem dX12_telling_14 : decode cX12_telling 14 = .ok (.goto 4, 3) := by decide +kernel
theorem dX12_telling_17 : decode cX12_telling 17 = .ok (.iconst 0, 1) := by decide +kernel
theorem dX12_telling_18 : decode cX12_telling 18 = .ok (.iconst 1, 1) := by decide +kernel
theorem dX12_telling_19 : decode cX12_telling 19 = .ok (.invokevirtual 86, 3) := by decide +kernel
theorem dX12_telling_22 : decode cX12_telling 22 = .ok (.ifCond .ne 26, 3) := by decide +kernel
theorem dX12_telling_25 : decode cX12_telling 25 = .ok (.aload_n 0, 1) := by decide +kernel
theorem dX12_telling_26 : decode cX12_telling 26 = .ok (.iload_n 1, 1) := by decide +kernel
theorem dX12_telling_27 : decode cX12_telling 27 = .ok (.iconst 0, 1) := by decide +kernel
theorem dX12_telling_28 : decode cX12_telling 28 = .ok (.bipush 99, 2) := by decide +kernel
theorem dX12_telling_30 : decode cX12_telling 30 = .ok (.invokestatic 82, 3) := by decide +kernel
theorem dX12_telling_33 : decode cX12_telling 33 = .ok (.ifCond .ne 7, 3) := by decide +kernel
theorem dX12_telling_36 : decode cX12_telling 36 = .ok (.iconst 1, 1) := by decide +kernel
theorem dX12_telling_37 : decode cX12_telling 37 = .ok (.goto 4, 3) := by decide +kernel
theorem dX12_telling_40 : decode cX12_telling 40 = .ok (.iconst 0, 1) := by decide +kernel
theorem dX12_telling_41 : decode cX12_telling 41 = .ok (.iconst 2, 1) := by decide +kernel
theorem dX12_telling_42 : decode cX12_telling 42 = .ok (.invokevirtual 86, 3) := by decide +kernel
theorem dX12_telling_45 : decode cX12_telling 45 = .ok (.ifCond .eq 5, 3) := by decide +kernel
theorem dX12_telling_48 : decode cX12_telling 48 = .ok (.iconst 0, 1) := by decide +kernel
theorem dX12_telling_49 : decode cX12_telling 49 = .ok (.ireturn, 1) := by decide +kernel
theorem dX12_telling_50 : decode cX12_telling 50 = .ok (.aload_n 0, 1) := by decide +kernel
theorem dX12_telling_51 : decode cX12_telling 51 = .ok (.iload_n 1, 1) := by decide +kernel
theorem dX12_telling_52 : decode cX12_telling 52 = .ok (.invokevirtual 297, 3) := by decide +kernel
theorem dX12_telling_55 : decode cX12_telling 55 = .ok (.istore_n 2, 1) := by decide +kernel
theorem dX12_telling_56 : decode cX12_telling 56 = .ok (.iconst (-1), 1) := by decide +kernel
theorem dX12_telling_57 : decode cX12_telling 57 = .ok (.istore_n 3, 1) := by decide +kernel
theorem dX12_telling_58 : decode cX12_telling 58 = .ok (.lconst 0, 1) := by decide +kernel
theorem dX12_telling_59 : decode cX12_telling 59 = .ok (.lstore 4, 2) := by decide +kernel
theorem dX12_telling_61 : decode cX12_telling 61 = .ok (.iload_n 2, 1) := by decide +kernel
theorem dX12_telling_62 : decode cX12_telling 62 = .ok (.iload_n 2, 1) := by decide +kernel
theorem dX12_telling_63 : decode cX12_telling 63 = .ok (.iconst 1, 1) := by decide +kernel
theorem dX12_telling_64 : decode cX12_telling 64 = .ok (.isub, 1) := by decide +kernel
theorem dX12_telling_65 : decode cX12_telling 65 = .ok (.iand, 1) := by decide +kernel
theorem dX12_telling_66 : decode cX12_telling 66 = .ok (.ifCond .ne 5, 3) := by decide +kernel
theorem dX12_telling_69 : decode cX12_telling 69 = .ok (.iconst (-1), 1) := by decide +kernel
theorem dX12_telling_70 : decode cX12_telling 70 = .ok (.ireturn, 1) := by decide +kernel
theorem dX12_telling_71 : decode cX12_telling 71 = .ok (.iconst 1, 1) := by decide +kernel
theorem dX12_telling_72 : decode cX12_telling 72 = .ok (.istore 6, 2) := by decide +kernel
theorem dX12_telling_74 : decode cX12_telling 74 = .ok (.iload 6, 2) := by decide +kernel
theorem dX12_telling_76 : decode cX12_telling 76 = .ok (.bipush 100, 2) := by decide +kernel
theorem dX12_telling_78 : decode cX12_telling 78 = .ok (.if_icmp .ge 153, 3) := by decide +kernel
theorem dX12_telling_81 : decode cX12_telling 81 = .ok (.lconst 0, 1) := by decide +kernel
theorem dX12_telling_82 : decode cX12_telling 82 = .ok (.lstore 7, 2) := by decide +kernel
theorem dX12_telling_84 : decode cX12_telling 84 = .ok (.lconst 0, 1) := by decide +kernel
theorem dX12_telling_85 : decode cX12_telling 85 = .ok (.lstore 9, 2) := by decide +kernel
theorem dX12_telling_87 : decode cX12_telling 87 = .ok (.iconst 0, 1) := by decide +kernel
theorem dX12_telling_88 : decode cX12_telling 88 = .ok (.istore 11, 2) := by decide +kernel
theorem dX12_telling_90 : decode cX12_telling 90 = .ok (.iconst 0, 1) := by decide +kernel
theorem dX12_telling_91 : decode cX12_telling 91 = .ok (.istore 12, 2) := by decide +kernel
theorem dX12_telling_93 : decode cX12_telling 93 = .ok (.iload 12, 2) := by decide +kernel
theorem dX12_telling_95 : decode cX12_telling 95 = .ok (.aload_n 0, 1) := by decide +kernel
theorem dX12_telling_96 : decode cX12_telling 96 = .ok (.getfield 223, 3) := by decide +kernel
theorem dX12_telling_99 : decode cX12_telling 99 = .ok (.if_icmp .ge 97, 3) := by decide +kernel
theorem dX12_telling_102 : decode cX12_telling 102 = .ok (.iload_n 2, 1) := by decide +kernel
theorem dX12_telling_103 : decode cX12_telling 103 = .ok (.iload 12, 2) := by decide +kernel
theorem dX12_telling_105 : decode cX12_telling 105 = .ok (.ishr, 1) := by decide +kernel
theorem dX12_telling_106 : decode cX12_telling 106 = .ok (.iconst 1, 1) := by decide +kernel
theorem dX12_telling_107 : decode cX12_telling 107 = .ok (.iand, 1) := by decide +kernel
theorem dX12_telling_108 : decode cX12_telling 108 = .ok (.ifCond .ne 6, 3) := by decide +kernel
theorem dX12_telling_111 : decode cX12_telling 111 = .ok (.goto 79, 3) := by decide +kernel
theorem dX12_telling_114 : decode cX12_telling 114 = .ok (.aload_n 0, 1) := by decide +kernel
theorem dX12_telling_115 : decode cX12_telling 115 = .ok (.aload_n 0, 1) := by decide +kernel
theorem dX12_telling_116 : decode cX12_telling 116 = .ok (.getfield 52, 3) := by decide +kernel
theorem dX12_telling_119 : decode cX12_telling 119 = .ok (.iconst 0, 1) := by decide +kernel
theorem dX12_telling_120 : decode cX12_telling 120 = .ok (.iaload, 1) := by decide +kernel
theorem dX12_telling_121 : decode cX12_telling 121 = .ok (.aload_n 0, 1) := by decide +kernel
theorem dX12_telling_122 : decode cX12_telling 122 = .ok (.getfield 52, 3) := by decide +kernel
theorem dX12_telling_125 : decode cX12_telling 125 = .ok (.iconst 1, 1) := by decide +kernel
theorem dX12_telling_126 : decode cX12_telling 126 = .ok (.iaload, 1) := by decide +kernel
theorem dX12_telling_127 : decode cX12_telling 127 = .ok (.iload 6, 2) := by decide +kernel
theorem dX12_telling_129 : decode cX12_telling 129 = .ok (.iconst (-1), 1) := by decide +kernel
theorem dX12_telling_130 : decode cX12_telling 130 = .ok (.iconst 0, 1) := by decide +kernel
theorem dX12_telling_131 : decode cX12_telling 131 = .ok (.iconst 0, 1) := by decide +kernel
theorem dX12_telling_132 : decode cX12_telling 132 = .ok (.invokevirtual 245, 3) := by decide +kernel
theorem dX12_telling_135 : decode cX12_telling 135 = .ok (.aload_n 0, 1) := by decide +kernel
theorem dX12_telling_136 : decode cX12_telling 136 = .ok (.iload 12, 2) := by decide +kernel
theorem dX12_telling_138 : decode cX12_telling 138 = .ok (.invokevirtual 255, 3) := by decide +kernel
theorem dX12_telling_141 : decode cX12_telling 141 = .ok (.lstore 13, 2) := by decide +kernel
theorem dX12_telling_143 : decode cX12_telling 143 = .ok (.iload 11, 2) := by decide +kernel
theorem dX12_telling_145 : decode cX12_telling 145 = .ok (.ifCond .eq 11, 3) := by decide +kernel
theorem dX12_telling_148 : decode cX12_telling 148 = .ok (.lload 13, 2) := by decide +kernel
theorem dX12_telling_150 : decode cX12_telling 150 = .ok (.lload 7, 2) := by decide +kernel
theorem dX12_telling_152 : decode cX12_telling 152 = .ok (.lcmp, 1) := by decide +kernel
theorem dX12_telling_153 : decode cX12_telling 153 = .ok (.ifCond .ge 8, 3) := by decide +kernel
theorem dX12_telling_156 : decode cX12_telling 156 = .ok (.lload 13, 2) := by decide +kernel
theorem dX12_telling_158 : decode cX12_telling 158 = .ok (.goto 5, 3) := by decide +kernel
theorem dX12_telling_161 : decode cX12_telling 161 = .ok (.lload 7, 2) := by decide +kernel
theorem dX12_telling_163 : decode cX12_telling 163 = .ok (.lstore 7, 2) := by decide +kernel
theorem dX12_telling_165 : decode cX12_telling 165 = .ok (.iload 11, 2) := by decide +kernel
theorem dX12_telling_167 : decode cX12_telling 167 = .ok (.ifCond .eq 11, 3) := by decide +kernel
theorem dX12_telling_170 : decode cX12_telling 170 = .ok (.lload 13, 2) := by decide +kernel
theorem dX12_telling_172 : decode cX12_telling 172 = .ok (.lload 9, 2) := by decide +kernel
theorem dX12_telling_174 : decode cX12_telling 174 = .ok (.lcmp, 1) := by decide +kernel
theorem dX12_telling_175 : decode cX12_telling 175 = .ok (.ifCond .le 8, 3) := by decide +kernel
theorem dX12_telling_178 : decode cX12_telling 178 = .ok (.lload 13, 2) := by decide +kernel
theorem dX12_telling_180 : decode cX12_telling 180 = .ok (.goto 5, 3) := by decide +kernel
theorem dX12_telling_183 : decode cX12_telling 183 = .ok (.lload 9, 2) := by decide +kernel
theorem dX12_telling_185 : decode cX12_telling 185 = .ok (.lstore 9, 2) := by decide +kernel
theorem dX12_telling_187 : decode cX12_telling 187 = .ok (.iconst 1, 1) := by decide +kernel
theorem dX12_telling_188 : decode cX12_telling 188 = .ok (.istore 11, 2) := by decide +kernel
theorem dX12_telling_190 : decode cX12_telling 190 = .ok (.iinc 12 1, 3) := by decide +kernel
theorem dX12_telling_193 : decode cX12_telling 193 = .ok (.goto (-100), 3) := by decide +kernel
theorem dX12_telling_196 : decode cX12_telling 196 = .ok (.iload_n 3, 1) := by decide +kernel
theorem dX12_telling_197 : decode cX12_telling 197 = .ok (.iconst (-1), 1) := by decide +kernel
theorem dX12_telling_198 : decode cX12_telling 198 = .ok (.if_icmp .eq 17, 3) := by decide +kernel
theorem dX12_telling_201 : decode cX12_telling 201 = .ok (.lload 9, 2) := by decide +kernel
theorem dX12_telling_203 : decode cX12_telling 203 = .ok (.lload 7, 2) := by decide +kernel
theorem dX12_telling_205 : decode cX12_telling 205 = .ok (.lsub, 1) := by decide +kernel
theorem dX12_telling_206 : decode cX12_telling 206 = .ok (.lload 4, 2) := by decide +kernel
theorem dX12_telling_208 : decode cX12_telling 208 = .ok (.lcmp, 1) := by decide +kernel
theorem dX12_telling_209 : decode cX12_telling 209 = .ok (.ifCond .gt 6, 3) := by decide +kernel
theorem dX12_telling_212 : decode cX12_telling 212 = .ok (.goto 13, 3) := by decide +kernel
theorem dX12_telling_215 : decode cX12_telling 215 = .ok (.iload 6, 2) := by decide +kernel
theorem dX12_telling_217 : decode cX12_telling 217 = .ok (.istore_n 3, 1) := by decide +kernel
theorem dX12_telling_218 : decode cX12_telling 218 = .ok (.lload 9, 2) := by decide +kernel
theorem dX12_telling_220 : decode cX12_telling 220 = .ok (.lload 7, 2) := by decide +kernel
theorem dX12_telling_222 : decode cX12_telling 222 = .ok (.lsub, 1) := by decide +kernel
theorem dX12_telling_223 : decode cX12_telling 223 = .ok (.lstore 4, 2) := by decide +kernel
theorem dX12_telling_225 : decode cX12_telling 225 = .ok (.iinc 6 1, 3) := by decide +kernel
theorem dX12_telling_228 : decode cX12_telling 228 = .ok (.goto (-154), 3) := by decide +kernel
theorem dX12_telling_231 : decode cX12_telling 231 = .ok (.iload_n 3, 1) := by decide +kernel
theorem dX12_telling_232 : decode cX12_telling 232 = .ok (.ireturn, 1) := by decide +kernel
theorem dX12_earlier_0 : decode cX12_earlier 0 = .ok (.aload_n 0, 1) := by decide +kernel
theorem dX12_earlier_1 : decode cX12_earlier 1 = .ok (.iconst 0, 1) := by decide +kernel
theorem dX12_earlier_2 : decode cX12_earlier 2 = .ok (.putfield 79, 3) := by decide +kernel
theorem dX12_earlier_5 : decode cX12_earlier 5 = .ok (.aload_n 0, 1) := by decide +kernel
theorem dX12_earlier_6 : decode cX12_earlier 6 = .ok (.iload_n 1, 1) := by decide +kernel
theorem dX12_earlier_7 : decode cX12_earlier 7 = .ok (.iconst 1, 1) := by decide +kernel
theorem dX12_earlier_8 : decode cX12_earlier 8 = .ok (.ldc_w 264, 3) := by decide +kernel
theorem dX12_earlier_11 : decode cX12_earlier 11 = .ok (.invokestatic 82, 3) := by decide +kernel
theorem dX12_earlier_14 : decode cX12_earlier 14 = .ok (.ifCond .eq 14, 3) := by decide +kernel
theorem dX12_earlier_17 : decode cX12_earlier 17 = .ok (.iload_n 2, 1) := by decide +kernel
theorem dX12_earlier_18 : decode cX12_earlier 18 = .ok (.iconst 0, 1) := by decide +kernel
theorem dX12_earlier_19 : decode cX12_earlier 19 = .ok (.ldc_w 264, 3) := by decide +kernel
theorem dX12_earlier_22 : decode cX12_earlier 22 = .ok (.invokestatic 82, 3) := by decide +kernel
theorem dX12_earlier_25 : decode cX12_earlier 25 = .ok (.ifCond .ne 7, 3) := by decide +kernel
theorem dX12_earlier_28 : decode cX12_earlier 28 = .ok (.iconst 1, 1) := by decide +kernel
theorem dX12_earlier_29 : decode cX12_earlier 29 = .ok (.goto 4, 3) := by decide +kernel
theorem dX12_earlier_32 : decode cX12_earlier 32 = .ok (.iconst 0, 1) := by decide +kernel
theorem dX12_earlier_33 : decode cX12_earlier 33 = .ok (.iconst 1, 1) := by decide +kernel
theorem dX12_earlier_34 : decode cX12_earlier 34 = .ok (.invokevirtual 86, 3) := by decide +kernel
theorem dX12_earlier_37 : decode cX12_earlier 37 = .ok (.ifCond .eq 5, 3) := by decide +kernel
theorem dX12_earlier_40 : decode cX12_earlier 40 = .ok (.iconst 0, 1) := by decide +kernel
theorem dX12_earlier_41 : decode cX12_earlier 41 = .ok (.ireturn, 1) := by decide +kernel
theorem dX12_earlier_42 : decode cX12_earlier 42 = .ok (.aload_n 0, 1) := by decide +kernel
theorem dX12_earlier_43 : decode cX12_earlier 43 = .ok (.getfield 300, 3) := by decide +kernel
theorem dX12_earlier_46 : decode cX12_earlier 46 = .ok (.bipush 20, 2) := by decide +kernel
theorem dX12_earlier_48 : decode cX12_earlier 48 = .ok (.if_icmp .ne 5, 3) := by decide +kernel
theorem dX12_earlier_51 : decode cX12_earlier 51 = .ok (.iconst (-1), 1) := by decide +kernel
theorem dX12_earlier_52 : decode cX12_earlier 52 = .ok (.ireturn, 1) := by decide +kernel
theorem dX12_earlier_53 : decode cX12_earlier 53 = .ok (.aload_n 0, 1) := by decide +kernel
theorem dX12_earlier_54 : decode cX12_earlier 54 = .ok (.getfield 61, 3) := by decide +kernel
theorem dX12_earlier_57 : decode cX12_earlier 57 = .ok (.aload_n 0, 1) := by decide +kernel
theorem dX12_earlier_58 : decode cX12_earlier 58 = .ok (.getfield 300, 3) := by decide +kernel
theorem dX12_earlier_61 : decode cX12_earlier 61 = .ok (.iload_n 1, 1) := by decide +kernel
theorem dX12_earlier_62 : decode cX12_earlier 62 = .ok (.iastore, 1) := by decide +kernel
theorem dX12_earlier_63 : decode cX12_earlier 63 = .ok (.aload_n 0, 1) := by decide +kernel
theorem dX12_earlier_64 : decode cX12_earlier 64 = .ok (.getfield 64, 3) := by decide +kernel
theorem dX12_earlier_67 : decode cX12_earlier 67 = .ok (.aload_n 0, 1) := by decide +kernel
theorem dX12_earlier_68 : decode cX12_earlier 68 = .ok (.getfield 300, 3) := by decide +kernel
theorem dX12_earlier_71 : decode cX12_earlier 71 = .ok (.iload_n 2, 1) := by decide +kernel
theorem dX12_earlier_72 : decode cX12_earlier 72 = .ok (.iastore, 1) := by decide +kernel
theorem dX12_earlier_73 : decode cX12_earlier 73 = .ok (.aload_n 0, 1) := by decide +kernel
theorem dX12_earlier_74 : decode cX12_earlier 74 = .ok (.dup, 1) := by decide +kernel
theorem dX12_earlier_75 : decode cX12_earlier 75 = .ok (.getfield 300, 3) := by decide +kernel
theorem dX12_earlier_78 : decode cX12_earlier 78 = .ok (.iconst 1, 1) := by decide +kernel
theorem dX12_earlier_79 : decode cX12_earlier 79 = .ok (.iadd, 1) := by decide +kernel
theorem dX12_earlier_80 : decode cX12_earlier 80 = .ok (.putfield 300, 3) := by decide +kernel
theorem dX12_earlier_83 : decode cX12_earlier 83 = .ok (.aload_n 0, 1) := by decide +kernel
theorem dX12_earlier_84 : decode cX12_earlier 84 = .ok (.getfield 300, 3) := by decide +kernel
theorem dX12_earlier_87 : decode cX12_earlier 87 = .ok (.ireturn, 1) := by decide +kernel
theorem dX12_ratioOf_0 : decode cX12_ratioOf 0 = .ok (.ldc2_w 303, 3) := by decide +kernel
theorem dX12_ratioOf_3 : decode cX12_ratioOf 3 = .ok (.aload_n 0, 1) := by decide +kernel
theorem dX12_ratioOf_4 : decode cX12_ratioOf 4 = .ok (.getfield 64, 3) := by decide +kernel
theorem dX12_ratioOf_7 : decode cX12_ratioOf 7 = .ok (.iload_n 1, 1) := by decide +kernel
theorem dX12_ratioOf_8 : decode cX12_ratioOf 8 = .ok (.iaload, 1) := by decide +kernel
theorem dX12_ratioOf_9 : decode cX12_ratioOf 9 = .ok (.i2l, 1) := by decide +kernel
theorem dX12_ratioOf_10 : decode cX12_ratioOf 10 = .ok (.lmul, 1) := by decide +kernel
theorem dX12_ratioOf_11 : decode cX12_ratioOf 11 = .ok (.aload_n 0, 1) := by decide +kernel
theorem dX12_ratioOf_12 : decode cX12_ratioOf 12 = .ok (.getfield 61, 3) := by decide +kernel
theorem dX12_ratioOf_15 : decode cX12_ratioOf 15 = .ok (.iload_n 1, 1) := by decide +kernel
theorem dX12_ratioOf_16 : decode cX12_ratioOf 16 = .ok (.iaload, 1) := by decide +kernel
theorem dX12_ratioOf_17 : decode cX12_ratioOf 17 = .ok (.i2l, 1) := by decide +kernel
theorem dX12_ratioOf_18 : decode cX12_ratioOf 18 = .ok (.ldiv, 1) := by decide +kernel
theorem dX12_ratioOf_19 : decode cX12_ratioOf 19 = .ok (.lconst 0, 1) := by decide +kernel
theorem dX12_ratioOf_20 : decode cX12_ratioOf 20 = .ok (.ldc2_w 305, 3) := by decide +kernel
theorem dX12_ratioOf_23 : decode cX12_ratioOf 23 = .ok (.invokestatic 231, 3) := by decide +kernel
theorem dX12_ratioOf_26 : decode cX12_ratioOf 26 = .ok (.l2i, 1) := by decide +kernel
theorem dX12_ratioOf_27 : decode cX12_ratioOf 27 = .ok (.ireturn, 1) := by decide +kernel
theorem dX12_middle_0 : decode cX12_middle 0 = .ok (.iconst 0, 1) := by decide +kernel
theorem dX12_middle_1 : decode cX12_middle 1 = .ok (.istore_n 1, 1) := by decide +kernel
theorem dX12_middle_2 : decode cX12_middle 2 = .ok (.iload_n 1, 1) := by decide +kernel
theorem dX12_middle_3 : decode cX12_middle 3 = .ok (.aload_n 0, 1) := by decide +kernel
theorem dX12_middle_4 : decode cX12_middle 4 = .ok (.getfield 300, 3) := by decide +kernel
theorem dX12_middle_7 : decode cX12_middle 7 = .ok (.if_icmp .ge 60, 3) := by decide +kernel
theorem dX12_middle_10 : decode cX12_middle 10 = .ok (.aload_n 0, 1) := by decide +kernel
theorem dX12_middle_11 : decode cX12_middle 11 = .ok (.iload_n 1, 1) := by decide +kernel
theorem dX12_middle_12 : decode cX12_middle 12 = .ok (.invokevirtual 307, 3) := by decide +kernel
theorem dX12_middle_15 : decode cX12_middle 15 = .ok (.istore_n 2, 1) := by decide +kernel
theorem dX12_middle_16 : decode cX12_middle 16 = .ok (.iload_n 1, 1) := by decide +kernel
theorem dX12_middle_17 : decode cX12_middle 17 = .ok (.istore_n 3, 1) := by decide +kernel
theorem dX12_middle_18 : decode cX12_middle 18 = .ok (.iload_n 3, 1) := by decide +kernel
theorem dX12_middle_19 : decode cX12_middle 19 = .ok (.ifCond .le 35, 3) := by decide +kernel
theorem dX12_middle_22 : decode cX12_middle 22 = .ok (.aload_n 0, 1) := by decide +kernel
theorem dX12_middle_23 : decode cX12_middle 23 = .ok (.getfield 67, 3) := by decide +kernel
theorem dX12_middle_26 : decode cX12_middle 26 = .ok (.iload_n 3, 1) := by decide +kernel
theorem dX12_middle_27 : decode cX12_middle 27 = .ok (.iconst 1, 1) := by decide +kernel
theorem dX12_middle_28 : decode cX12_middle 28 = .ok (.isub, 1) := by decide +kernel
theorem dX12_middle_29 : decode cX12_middle 29 = .ok (.iaload, 1) := by decide +kernel
theorem dX12_middle_30 : decode cX12_middle 30 = .ok (.iload_n 2, 1) := by decide +kernel
theorem dX12_middle_31 : decode cX12_middle 31 = .ok (.if_icmp .le 23, 3) := by decide +kernel
theorem dX12_middle_34 : decode cX12_middle 34 = .ok (.aload_n 0, 1) := by decide +kernel
theorem dX12_middle_35 : decode cX12_middle 35 = .ok (.getfield 67, 3) := by decide +kernel
theorem dX12_middle_38 : decode cX12_middle 38 = .ok (.iload_n 3, 1) := by decide +kernel
theorem dX12_middle_39 : decode cX12_middle 39 = .ok (.aload_n 0, 1) := by decide +kernel
theorem dX12_middle_40 : decode cX12_middle 40 = .ok (.getfield 67, 3) := by decide +kernel
theorem dX12_middle_43 : decode cX12_middle 43 = .ok (.iload_n 3, 1) := by decide +kernel
theorem dX12_middle_44 : decode cX12_middle 44 = .ok (.iconst 1, 1) := by decide +kernel
theorem dX12_middle_45 : decode cX12_middle 45 = .ok (.isub, 1) := by decide +kernel
theorem dX12_middle_46 : decode cX12_middle 46 = .ok (.iaload, 1) := by decide +kernel
theorem dX12_middle_47 : decode cX12_middle 47 = .ok (.iastore, 1) := by decide +kernel
theorem dX12_middle_48 : decode cX12_middle 48 = .ok (.iinc 3 (-1), 3) := by decide +kernel
theorem dX12_middle_51 : decode cX12_middle 51 = .ok (.goto (-33), 3) := by decide +kernel
theorem dX12_middle_54 : decode cX12_middle 54 = .ok (.aload_n 0, 1) := by decide +kernel
theorem dX12_middle_55 : decode cX12_middle 55 = .ok (.getfield 67, 3) := by decide +kernel
theorem dX12_middle_58 : decode cX12_middle 58 = .ok (.iload_n 3, 1) := by decide +kernel
theorem dX12_middle_59 : decode cX12_middle 59 = .ok (.iload_n 2, 1) := by decide +kernel
theorem dX12_middle_60 : decode cX12_middle 60 = .ok (.iastore, 1) := by decide +kernel
theorem dX12_middle_61 : decode cX12_middle 61 = .ok (.iinc 1 1, 3) := by decide +kernel
theorem dX12_middle_64 : decode cX12_middle 64 = .ok (.goto (-62), 3) := by decide +kernel
theorem dX12_middle_67 : decode cX12_middle 67 = .ok (.aload_n 0, 1) := by decide +kernel
theorem dX12_middle_68 : decode cX12_middle 68 = .ok (.getfield 67, 3) := by decide +kernel
theorem dX12_middle_71 : decode cX12_middle 71 = .ok (.aload_n 0, 1) := by decide +kernel
theorem dX12_middle_72 : decode cX12_middle 72 = .ok (.getfield 300, 3) := by decide +kernel
theorem dX12_middle_75 : decode cX12_middle 75 = .ok (.iconst 1, 1) := by decide +kernel
theorem dX12_middle_76 : decode cX12_middle 76 = .ok (.isub, 1) := by decide +kernel
theorem dX12_middle_77 : decode cX12_middle 77 = .ok (.iconst 2, 1) := by decide +kernel
theorem dX12_middle_78 : decode cX12_middle 78 = .ok (.idiv, 1) := by decide +kernel
theorem dX12_middle_79 : decode cX12_middle 79 = .ok (.iaload, 1) := by decide +kernel
theorem dX12_middle_80 : decode cX12_middle 80 = .ok (.ireturn, 1) := by decide +kernel
theorem dX12_ratio_0 : decode cX12_ratio 0 = .ok (.aload_n 0, 1) := by decide +kernel
theorem dX12_ratio_1 : decode cX12_ratio 1 = .ok (.iconst 0, 1) := by decide +kernel
theorem dX12_ratio_2 : decode cX12_ratio 2 = .ok (.putfield 79, 3) := by decide +kernel
theorem dX12_ratio_5 : decode cX12_ratio 5 = .ok (.aload_n 0, 1) := by decide +kernel
theorem dX12_ratio_6 : decode cX12_ratio 6 = .ok (.iload_n 1, 1) := by decide +kernel
theorem dX12_ratio_7 : decode cX12_ratio 7 = .ok (.iconst (-1), 1) := by decide +kernel
theorem dX12_ratio_8 : decode cX12_ratio 8 = .ok (.aload_n 0, 1) := by decide +kernel
theorem dX12_ratio_9 : decode cX12_ratio 9 = .ok (.getfield 300, 3) := by decide +kernel
theorem dX12_ratio_12 : decode cX12_ratio 12 = .ok (.iconst 1, 1) := by decide +kernel
theorem dX12_ratio_13 : decode cX12_ratio 13 = .ok (.isub, 1) := by decide +kernel
theorem dX12_ratio_14 : decode cX12_ratio 14 = .ok (.invokestatic 82, 3) := by decide +kernel
theorem dX12_ratio_17 : decode cX12_ratio 17 = .ok (.ifCond .eq 10, 3) := by decide +kernel
theorem dX12_ratio_20 : decode cX12_ratio 20 = .ok (.aload_n 0, 1) := by decide +kernel
theorem dX12_ratio_21 : decode cX12_ratio 21 = .ok (.getfield 300, 3) := by decide +kernel
theorem dX12_ratio_24 : decode cX12_ratio 24 = .ok (.ifCond .ne 7, 3) := by decide +kernel
theorem dX12_ratio_27 : decode cX12_ratio 27 = .ok (.iconst 1, 1) := by decide +kernel
theorem dX12_ratio_28 : decode cX12_ratio 28 = .ok (.goto 4, 3) := by decide +kernel
theorem dX12_ratio_31 : decode cX12_ratio 31 = .ok (.iconst 0, 1) := by decide +kernel
theorem dX12_ratio_32 : decode cX12_ratio 32 = .ok (.iconst 1, 1) := by decide +kernel
theorem dX12_ratio_33 : decode cX12_ratio 33 = .ok (.invokevirtual 86, 3) := by decide +kernel
theorem dX12_ratio_36 : decode cX12_ratio 36 = .ok (.ifCond .eq 5, 3) := by decide +kernel
theorem dX12_ratio_39 : decode cX12_ratio 39 = .ok (.iconst 0, 1) := by decide +kernel
theorem dX12_ratio_40 : decode cX12_ratio 40 = .ok (.ireturn, 1) := by decide +kernel
theorem dX12_ratio_41 : decode cX12_ratio 41 = .ok (.iload_n 1, 1) := by decide +kernel
theorem dX12_ratio_42 : decode cX12_ratio 42 = .ok (.iconst (-1), 1) := by decide +kernel
theorem dX12_ratio_43 : decode cX12_ratio 43 = .ok (.if_icmp .ne 10, 3) := by decide +kernel
theorem dX12_ratio_46 : decode cX12_ratio 46 = .ok (.aload_n 0, 1) := by decide +kernel
theorem dX12_ratio_47 : decode cX12_ratio 47 = .ok (.invokevirtual 310, 3) := by decide +kernel
theorem dX12_ratio_50 : decode cX12_ratio 50 = .ok (.goto 8, 3) := by decide +kernel
theorem dX12_ratio_53 : decode cX12_ratio 53 = .ok (.aload_n 0, 1) := by decide +kernel
theorem dX12_ratio_54 : decode cX12_ratio 54 = .ok (.iload_n 1, 1) := by decide +kernel
theorem dX12_ratio_55 : decode cX12_ratio 55 = .ok (.invokevirtual 307, 3) := by decide +kernel
theorem dX12_ratio_58 : decode cX12_ratio 58 = .ok (.ireturn, 1) := by decide +kernel
theorem dX12_isStrange_0 : decode cX12_isStrange 0 = .ok (.aload_n 0, 1) := by decide +kernel
theorem dX12_isStrange_1 : decode cX12_isStrange 1 = .ok (.iload_n 1, 1) := by decide +kernel
theorem dX12_isStrange_2 : decode cX12_isStrange 2 = .ok (.invokevirtual 307, 3) := by decide +kernel
theorem dX12_isStrange_5 : decode cX12_isStrange 5 = .ok (.i2l, 1) := by decide +kernel
theorem dX12_isStrange_6 : decode cX12_isStrange 6 = .ok (.aload_n 0, 1) := by decide +kernel
theorem dX12_isStrange_7 : decode cX12_isStrange 7 = .ok (.invokevirtual 310, 3) := by decide +kernel
theorem dX12_isStrange_10 : decode cX12_isStrange 10 = .ok (.i2l, 1) := by decide +kernel
theorem dX12_isStrange_11 : decode cX12_isStrange 11 = .ok (.lsub, 1) := by decide +kernel
theorem dX12_isStrange_12 : decode cX12_isStrange 12 = .ok (.invokestatic 272, 3) := by decide +kernel
theorem dX12_isStrange_15 : decode cX12_isStrange 15 = .ok (.iload_n 2, 1) := by decide +kernel
theorem dX12_isStrange_16 : decode cX12_isStrange 16 = .ok (.i2l, 1) := by decide +kernel
theorem dX12_isStrange_17 : decode cX12_isStrange 17 = .ok (.lcmp, 1) := by decide +kernel
theorem dX12_isStrange_18 : decode cX12_isStrange 18 = .ok (.ifCond .le 7, 3) := by decide +kernel
theorem dX12_isStrange_21 : decode cX12_isStrange 21 = .ok (.iconst 1, 1) := by decide +kernel
theorem dX12_isStrange_22 : decode cX12_isStrange 22 = .ok (.goto 4, 3) := by decide +kernel
theorem dX12_isStrange_25 : decode cX12_isStrange 25 = .ok (.iconst 0, 1) := by decide +kernel
theorem dX12_isStrange_26 : decode cX12_isStrange 26 = .ok (.ireturn, 1) := by decide +kernel
theorem dX12_strange_0 : decode cX12_strange 0 = .ok (.aload_n 0, 1) := by decide +kernel
theorem dX12_strange_1 : decode cX12_strange 1 = .ok (.iconst 0, 1) := by decide +kernel
theorem dX12_strange_2 : decode cX12_strange 2 = .ok (.putfield 79, 3) := by decide +kernel
theorem dX12_strange_5 : decode cX12_strange 5 = .ok (.aload_n 0, 1) := by decide +kernel
theorem dX12_strange_6 : decode cX12_strange 6 = .ok (.iload_n 1, 1) := by decide +kernel
theorem dX12_strange_7 : decode cX12_strange 7 = .ok (.iconst 0, 1) := by decide +kernel
theorem dX12_strange_8 : decode cX12_strange 8 = .ok (.sipush 9999, 3) := by decide +kernel
theorem dX12_strange_11 : decode cX12_strange 11 = .ok (.invokestatic 82, 3) := by decide +kernel
theorem dX12_strange_14 : decode cX12_strange 14 = .ok (.ifCond .ne 7, 3) := by decide +kernel
theorem dX12_strange_17 : decode cX12_strange 17 = .ok (.iconst 1, 1) := by decide +kernel
theorem dX12_strange_18 : decode cX12_strange 18 = .ok (.goto 4, 3) := by decide +kernel
theorem dX12_strange_21 : decode cX12_strange 21 = .ok (.iconst 0, 1) := by decide +kernel
theorem dX12_strange_22 : decode cX12_strange 22 = .ok (.iconst 1, 1) := by decide +kernel
theorem dX12_strange_23 : decode cX12_strange 23 = .ok (.invokevirtual 86, 3) := by decide +kernel
theorem dX12_strange_26 : decode cX12_strange 26 = .ok (.ifCond .eq 5, 3) := by decide +kernel
theorem dX12_strange_29 : decode cX12_strange 29 = .ok (.iconst 0, 1) := by decide +kernel
theorem dX12_strange_30 : decode cX12_strange 30 = .ok (.ireturn, 1) := by decide +kernel
theorem dX12_strange_31 : decode cX12_strange 31 = .ok (.iconst 0, 1) := by decide +kernel
theorem dX12_strange_32 : decode cX12_strange 32 = .ok (.istore_n 2, 1) := by decide +kernel
theorem dX12_strange_33 : decode cX12_strange 33 = .ok (.iconst 0, 1) := by decide +kernel
theorem dX12_strange_34 : decode cX12_strange 34 = .ok (.istore_n 3, 1) := by decide +kernel
theorem dX12_strange_35 : decode cX12_strange 35 = .ok (.iload_n 3, 1) := by decide +kernel
theorem dX12_strange_36 : decode cX12_strange 36 = .ok (.aload_n 0, 1) := by decide +kernel
theorem dX12_strange_37 : decode cX12_strange 37 = .ok (.getfield 300, 3) := by decide +kernel
theorem dX12_strange_40 : decode cX12_strange 40 = .ok (.if_icmp .ge 28, 3) := by decide +kernel
theorem dX12_strange_43 : decode cX12_strange 43 = .ok (.iload_n 2, 1) := by decide +kernel
theorem dX12_strange_44 : decode cX12_strange 44 = .ok (.aload_n 0, 1) := by decide +kernel
theorem dX12_strange_45 : decode cX12_strange 45 = .ok (.iload_n 3, 1) := by decide +kernel
theorem dX12_strange_46 : decode cX12_strange 46 = .ok (.iload_n 1, 1) := by decide +kernel
theorem dX12_strange_47 : decode cX12_strange 47 = .ok (.invokevirtual 313, 3) := by decide +kernel
theorem dX12_strange_50 : decode cX12_strange 50 = .ok (.ifCond .eq 9, 3) := by decide +kernel
theorem dX12_strange_53 : decode cX12_strange 53 = .ok (.iconst 1, 1) := by decide +kernel
theorem dX12_strange_54 : decode cX12_strange 54 = .ok (.iload_n 3, 1) := by decide +kernel
theorem dX12_strange_55 : decode cX12_strange 55 = .ok (.ishl, 1) := by decide +kernel
theorem dX12_strange_56 : decode cX12_strange 56 = .ok (.goto 4, 3) := by decide +kernel
theorem dX12_strange_59 : decode cX12_strange 59 = .ok (.iconst 0, 1) := by decide +kernel
theorem dX12_strange_60 : decode cX12_strange 60 = .ok (.ior, 1) := by decide +kernel
theorem dX12_strange_61 : decode cX12_strange 61 = .ok (.istore_n 2, 1) := by decide +kernel
theorem dX12_strange_62 : decode cX12_strange 62 = .ok (.iinc 3 1, 3) := by decide +kernel
theorem dX12_strange_65 : decode cX12_strange 65 = .ok (.goto (-30), 3) := by decide +kernel
theorem dX12_strange_68 : decode cX12_strange 68 = .ok (.iload_n 2, 1) := by decide +kernel
theorem dX12_strange_69 : decode cX12_strange 69 = .ok (.ireturn, 1) := by decide +kernel
theorem dX12_span_0 : decode cX12_span 0 = .ok (.aload_n 0, 1) := by decide +kernel
theorem dX12_span_1 : decode cX12_span 1 = .ok (.iconst 0, 1) := by decide +kernel
theorem dX12_span_2 : decode cX12_span 2 = .ok (.putfield 79, 3) := by decide +kernel
theorem dX12_span_5 : decode cX12_span 5 = .ok (.aload_n 0, 1) := by decide +kernel
theorem dX12_span_6 : decode cX12_span 6 = .ok (.iload_n 1, 1) := by decide +kernel
theorem dX12_span_7 : decode cX12_span 7 = .ok (.iconst 0, 1) := by decide +kernel
theorem dX12_span_8 : decode cX12_span 8 = .ok (.ldc_w 264, 3) := by decide +kernel
theorem dX12_span_11 : decode cX12_span 11 = .ok (.invokestatic 82, 3) := by decide +kernel
theorem dX12_span_14 : decode cX12_span 14 = .ok (.ifCond .ne 7, 3) := by decide +kernel
theorem dX12_span_17 : decode cX12_span 17 = .ok (.iconst 1, 1) := by decide +kernel
theorem dX12_span_18 : decode cX12_span 18 = .ok (.goto 4, 3) := by decide +kernel
theorem dX12_span_21 : decode cX12_span 21 = .ok (.iconst 0, 1) := by decide +kernel
theorem dX12_span_22 : decode cX12_span 22 = .ok (.iconst 1, 1) := by decide +kernel
theorem dX12_span_23 : decode cX12_span 23 = .ok (.invokevirtual 86, 3) := by decide +kernel
theorem dX12_span_26 : decode cX12_span 26 = .ok (.ifCond .eq 5, 3) := by decide +kernel
theorem dX12_span_29 : decode cX12_span 29 = .ok (.lconst 0, 1) := by decide +kernel
theorem dX12_span_30 : decode cX12_span 30 = .ok (.lreturn, 1) := by decide +kernel
theorem dX12_span_31 : decode cX12_span 31 = .ok (.iconst (-1), 1) := by decide +kernel
theorem dX12_span_32 : decode cX12_span 32 = .ok (.istore_n 3, 1) := by decide +kernel
theorem dX12_span_33 : decode cX12_span 33 = .ok (.iconst 0, 1) := by decide +kernel
theorem dX12_span_34 : decode cX12_span 34 = .ok (.istore 4, 2) := by decide +kernel
theorem dX12_span_36 : decode cX12_span 36 = .ok (.iload 4, 2) := by decide +kernel
theorem dX12_span_38 : decode cX12_span 38 = .ok (.aload_n 0, 1) := by decide +kernel
theorem dX12_span_39 : decode cX12_span 39 = .ok (.getfield 300, 3) := by decide +kernel
theorem dX12_span_42 : decode cX12_span 42 = .ok (.if_icmp .ge 59, 3) := by decide +kernel
theorem dX12_span_45 : decode cX12_span 45 = .ok (.aload_n 0, 1) := by decide +kernel
theorem dX12_span_46 : decode cX12_span 46 = .ok (.iload 4, 2) := by decide +kernel
theorem dX12_span_48 : decode cX12_span 48 = .ok (.sipush 200, 3) := by decide +kernel
theorem dX12_span_51 : decode cX12_span 51 = .ok (.invokevirtual 313, 3) := by decide +kernel
theorem dX12_span_54 : decode cX12_span 54 = .ok (.ifCond .eq 6, 3) := by decide +kernel
theorem dX12_span_57 : decode cX12_span 57 = .ok (.goto 38, 3) := by decide +kernel
theorem dX12_span_60 : decode cX12_span 60 = .ok (.aload_n 0, 1) := by decide +kernel
theorem dX12_span_61 : decode cX12_span 61 = .ok (.iload 4, 2) := by decide +kernel
theorem dX12_span_63 : decode cX12_span 63 = .ok (.invokevirtual 307, 3) := by decide +kernel
theorem dX12_span_66 : decode cX12_span 66 = .ok (.istore 5, 2) := by decide +kernel
theorem dX12_span_68 : decode cX12_span 68 = .ok (.iload_n 3, 1) := by decide +kernel
theorem dX12_span_69 : decode cX12_span 69 = .ok (.iconst (-1), 1) := by decide +kernel
theorem dX12_span_70 : decode cX12_span 70 = .ok (.if_icmp .eq 22, 3) := by decide +kernel
theorem dX12_span_73 : decode cX12_span 73 = .ok (.iload_n 2, 1) := by decide +kernel
theorem dX12_span_74 : decode cX12_span 74 = .ok (.ifCond .eq 12, 3) := by decide +kernel
theorem dX12_span_77 : decode cX12_span 77 = .ok (.iload 5, 2) := by decide +kernel
theorem dX12_span_79 : decode cX12_span 79 = .ok (.iload_n 3, 1) := by decide +kernel
theorem dX12_span_80 : decode cX12_span 80 = .ok (.if_icmp .le 15, 3) := by decide +kernel
theorem dX12_span_83 : decode cX12_span 83 = .ok (.goto 9, 3) := by decide +kernel
theorem dX12_span_86 : decode cX12_span 86 = .ok (.iload 5, 2) := by decide +kernel
theorem dX12_span_88 : decode cX12_span 88 = .ok (.iload_n 3, 1) := by decide +kernel
theorem dX12_span_89 : decode cX12_span 89 = .ok (.if_icmp .ge 6, 3) := by decide +kernel
theorem dX12_span_92 : decode cX12_span 92 = .ok (.iload 5, 2) := by decide +kernel
theorem dX12_span_94 : decode cX12_span 94 = .ok (.istore_n 3, 1) := by decide +kernel
theorem dX12_span_95 : decode cX12_span 95 = .ok (.iinc 4 1, 3) := by decide +kernel
theorem dX12_span_98 : decode cX12_span 98 = .ok (.goto (-62), 3) := by decide +kernel
theorem dX12_span_101 : decode cX12_span 101 = .ok (.iload_n 3, 1) := by decide +kernel
theorem dX12_span_102 : decode cX12_span 102 = .ok (.iconst (-1), 1) := by decide +kernel
theorem dX12_span_103 : decode cX12_span 103 = .ok (.if_icmp .ne 8, 3) := by decide +kernel
theorem dX12_span_106 : decode cX12_span 106 = .ok (.iload_n 1, 1) := by decide +kernel
theorem dX12_span_107 : decode cX12_span 107 = .ok (.i2l, 1) := by decide +kernel
theorem dX12_span_108 : decode cX12_span 108 = .ok (.goto 12, 3) := by decide +kernel
theorem dX12_span_111 : decode cX12_span 111 = .ok (.iload_n 1, 1) := by decide +kernel
theorem dX12_span_112 : decode cX12_span 112 = .ok (.i2l, 1) := by decide +kernel
theorem dX12_span_113 : decode cX12_span 113 = .ok (.iload_n 3, 1) := by decide +kernel
theorem dX12_span_114 : decode cX12_span 114 = .ok (.i2l, 1) := by decide +kernel
theorem dX12_span_115 : decode cX12_span 115 = .ok (.lmul, 1) := by decide +kernel
theorem dX12_span_116 : decode cX12_span 116 = .ok (.ldc2_w 303, 3) := by decide +kernel
theorem dX12_span_119 : decode cX12_span 119 = .ok (.ldiv, 1) := by decide +kernel
theorem dX12_span_120 : decode cX12_span 120 = .ok (.lreturn, 1) := by decide +kernel
theorem dX12_changes_0 : decode cX12_changes 0 = .ok (.iload_n 1, 1) := by decide +kernel
theorem dX12_changes_1 : decode cX12_changes 1 = .ok (.ifCond .ne 17, 3) := by decide +kernel
theorem dX12_changes_4 : decode cX12_changes 4 = .ok (.aload_n 0, 1) := by decide +kernel
theorem dX12_changes_5 : decode cX12_changes 5 = .ok (.getfield 40, 3) := by decide +kernel
theorem dX12_changes_8 : decode cX12_changes 8 = .ok (.aload_n 0, 1) := by decide +kernel
theorem dX12_changes_9 : decode cX12_changes 9 = .ok (.getfield 52, 3) := by decide +kernel
theorem dX12_changes_12 : decode cX12_changes 12 = .ok (.iconst 0, 1) := by decide +kernel
theorem dX12_changes_13 : decode cX12_changes 13 = .ok (.iaload, 1) := by decide +kernel
theorem dX12_changes_14 : decode cX12_changes 14 = .ok (.aaload, 1) := by decide +kernel
theorem dX12_changes_15 : decode cX12_changes 15 = .ok (.goto 14, 3) := by decide +kernel
theorem dX12_changes_18 : decode cX12_changes 18 = .ok (.aload_n 0, 1) := by decide +kernel
theorem dX12_changes_19 : decode cX12_changes 19 = .ok (.getfield 43, 3) := by decide +kernel
theorem dX12_changes_22 : decode cX12_changes 22 = .ok (.aload_n 0, 1) := by decide +kernel
theorem dX12_changes_23 : decode cX12_changes 23 = .ok (.getfield 52, 3) := by decide +kernel
theorem dX12_changes_26 : decode cX12_changes 26 = .ok (.iconst 0, 1) := by decide +kernel
theorem dX12_changes_27 : decode cX12_changes 27 = .ok (.iaload, 1) := by decide +kernel
theorem dX12_changes_28 : decode cX12_changes 28 = .ok (.aaload, 1) := by decide +kernel
theorem dX12_changes_29 : decode cX12_changes 29 = .ok (.astore 5, 2) := by decide +kernel
theorem dX12_changes_31 : decode cX12_changes 31 = .ok (.aload 5, 2) := by decide +kernel
theorem dX12_changes_33 : decode cX12_changes 33 = .ok (.iload_n 2, 1) := by decide +kernel
theorem dX12_changes_34 : decode cX12_changes 34 = .ok (.iaload, 1) := by decide +kernel
theorem dX12_changes_35 : decode cX12_changes 35 = .ok (.iload 4, 2) := by decide +kernel
theorem dX12_changes_37 : decode cX12_changes 37 = .ok (.isub, 1) := by decide +kernel
theorem dX12_changes_38 : decode cX12_changes 38 = .ok (.iconst 0, 1) := by decide +kernel
theorem dX12_changes_39 : decode cX12_changes 39 = .ok (.bipush 60, 2) := by decide +kernel
theorem dX12_changes_41 : decode cX12_changes 41 = .ok (.invokestatic 82, 3) := by decide +kernel
theorem dX12_changes_44 : decode cX12_changes 44 = .ok (.ifCond .eq 19, 3) := by decide +kernel
theorem dX12_changes_47 : decode cX12_changes 47 = .ok (.aload 5, 2) := by decide +kernel
theorem dX12_changes_49 : decode cX12_changes 49 = .ok (.iload_n 3, 1) := by decide +kernel
theorem dX12_changes_50 : decode cX12_changes 50 = .ok (.iaload, 1) := by decide +kernel
theorem dX12_changes_51 : decode cX12_changes 51 = .ok (.iload 4, 2) := by decide +kernel
theorem dX12_changes_53 : decode cX12_changes 53 = .ok (.iadd, 1) := by decide +kernel
theorem dX12_changes_54 : decode cX12_changes 54 = .ok (.iconst 0, 1) := by decide +kernel
theorem dX12_changes_55 : decode cX12_changes 55 = .ok (.bipush 60, 2) := by decide +kernel
theorem dX12_changes_57 : decode cX12_changes 57 = .ok (.invokestatic 82, 3) := by decide +kernel
theorem dX12_changes_60 : decode cX12_changes 60 = .ok (.ifCond .ne 5, 3) := by decide +kernel
theorem dX12_changes_63 : decode cX12_changes 63 = .ok (.iconst 0, 1) := by decide +kernel
theorem dX12_changes_64 : decode cX12_changes 64 = .ok (.ireturn, 1) := by decide +kernel
theorem dX12_changes_65 : decode cX12_changes 65 = .ok (.aload 5, 2) := by decide +kernel
theorem dX12_changes_67 : decode cX12_changes 67 = .ok (.iload_n 2, 1) := by decide +kernel
theorem dX12_changes_68 : decode cX12_changes 68 = .ok (.dup2, 1) := by decide +kernel
theorem dX12_changes_69 : decode cX12_changes 69 = .ok (.iaload, 1) := by decide +kernel
theorem dX12_changes_70 : decode cX12_changes 70 = .ok (.iload 4, 2) := by decide +kernel
theorem dX12_changes_72 : decode cX12_changes 72 = .ok (.isub, 1) := by decide +kernel
theorem dX12_changes_73 : decode cX12_changes 73 = .ok (.iastore, 1) := by decide +kernel
theorem dX12_changes_74 : decode cX12_changes 74 = .ok (.aload 5, 2) := by decide +kernel
theorem dX12_changes_76 : decode cX12_changes 76 = .ok (.iload_n 3, 1) := by decide +kernel
theorem dX12_changes_77 : decode cX12_changes 77 = .ok (.dup2, 1) := by decide +kernel
theorem dX12_changes_78 : decode cX12_changes 78 = .ok (.iaload, 1) := by decide +kernel
theorem dX12_changes_79 : decode cX12_changes 79 = .ok (.iload 4, 2) := by decide +kernel
theorem dX12_changes_81 : decode cX12_changes 81 = .ok (.iadd, 1) := by decide +kernel
theorem dX12_changes_82 : decode cX12_changes 82 = .ok (.iastore, 1) := by decide +kernel
theorem dX12_changes_83 : decode cX12_changes 83 = .ok (.iconst 1, 1) := by decide +kernel
theorem dX12_changes_84 : decode cX12_changes 84 = .ok (.ireturn, 1) := by decide +kernel
theorem dX12_findBetter_0 : decode cX12_findBetter 0 = .ok (.aload_n 0, 1) := by decide +kernel
theorem dX12_findBetter_1 : decode cX12_findBetter 1 = .ok (.getfield 37, 3) := by decide +kernel
theorem dX12_findBetter_4 : decode cX12_findBetter 4 = .ok (.aload_n 0, 1) := by decide +kernel
theorem dX12_findBetter_5 : decode cX12_findBetter 5 = .ok (.getfield 52, 3) := by decide +kernel
theorem dX12_findBetter_8 : decode cX12_findBetter 8 = .ok (.iconst 0, 1) := by decide +kernel
theorem dX12_findBetter_9 : decode cX12_findBetter 9 = .ok (.iaload, 1) := by decide +kernel
theorem dX12_findBetter_10 : decode cX12_findBetter 10 = .ok (.iaload, 1) := by decide +kernel
theorem dX12_findBetter_11 : decode cX12_findBetter 11 = .ok (.istore_n 2, 1) := by decide +kernel
theorem dX12_findBetter_12 : decode cX12_findBetter 12 = .ok (.aload_n 0, 1) := by decide +kernel
theorem dX12_findBetter_13 : decode cX12_findBetter 13 = .ok (.aload_n 0, 1) := by decide +kernel
theorem dX12_findBetter_14 : decode cX12_findBetter 14 = .ok (.getfield 52, 3) := by decide +kernel
theorem dX12_findBetter_17 : decode cX12_findBetter 17 = .ok (.iconst 0, 1) := by decide +kernel
theorem dX12_findBetter_18 : decode cX12_findBetter 18 = .ok (.iaload, 1) := by decide +kernel
theorem dX12_findBetter_19 : decode cX12_findBetter 19 = .ok (.iconst 1, 1) := by decide +kernel
theorem dX12_findBetter_20 : decode cX12_findBetter 20 = .ok (.iconst 2, 1) := by decide +kernel
theorem dX12_findBetter_21 : decode cX12_findBetter 21 = .ok (.invokevirtual 101, 3) := by decide +kernel
theorem dX12_findBetter_24 : decode cX12_findBetter 24 = .ok (.lstore_n 3, 1) := by decide +kernel
theorem dX12_findBetter_25 : decode cX12_findBetter 25 = .ok (.aload_n 0, 1) := by decide +kernel
theorem dX12_findBetter_26 : decode cX12_findBetter 26 = .ok (.invokevirtual 249, 3) := by decide +kernel
theorem dX12_findBetter_29 : decode cX12_findBetter 29 = .ok (.aload_n 0, 1) := by decide +kernel
theorem dX12_findBetter_30 : decode cX12_findBetter 30 = .ok (.aload_n 0, 1) := by decide +kernel
theorem dX12_findBetter_31 : decode cX12_findBetter 31 = .ok (.iload_n 1, 1) := by decide +kernel
theorem dX12_findBetter_32 : decode cX12_findBetter 32 = .ok (.invokevirtual 255, 3) := by decide +kernel
theorem dX12_findBetter_35 : decode cX12_findBetter 35 = .ok (.putfield 316, 3) := by decide +kernel
theorem dX12_findBetter_38 : decode cX12_findBetter 38 = .ok (.aload_n 0, 1) := by decide +kernel
theorem dX12_findBetter_39 : decode cX12_findBetter 39 = .ok (.iconst (-1), 1) := by decide +kernel
theorem dX12_findBetter_40 : decode cX12_findBetter 40 = .ok (.putfield 320, 3) := by decide +kernel
theorem dX12_findBetter_43 : decode cX12_findBetter 43 = .ok (.iconst 0, 1) := by decide +kernel
theorem dX12_findBetter_44 : decode cX12_findBetter 44 = .ok (.istore 5, 2) := by decide +kernel
theorem dX12_findBetter_46 : decode cX12_findBetter 46 = .ok (.iload 5, 2) := by decide +kernel
theorem dX12_findBetter_48 : decode cX12_findBetter 48 = .ok (.iconst 2, 1) := by decide +kernel
theorem dX12_findBetter_49 : decode cX12_findBetter 49 = .ok (.iload_n 2, 1) := by decide +kernel
theorem dX12_findBetter_50 : decode cX12_findBetter 50 = .ok (.imul, 1) := by decide +kernel
theorem dX12_findBetter_51 : decode cX12_findBetter 51 = .ok (.iload_n 2, 1) := by decide +kernel
theorem dX12_findBetter_52 : decode cX12_findBetter 52 = .ok (.imul, 1) := by decide +kernel
theorem dX12_findBetter_53 : decode cX12_findBetter 53 = .ok (.if_icmp .ge 129, 3) := by decide +kernel
theorem dX12_findBetter_56 : decode cX12_findBetter 56 = .ok (.iload 5, 2) := by decide +kernel
theorem dX12_findBetter_58 : decode cX12_findBetter 58 = .ok (.iload_n 2, 1) := by decide +kernel
theorem dX12_findBetter_59 : decode cX12_findBetter 59 = .ok (.iload_n 2, 1) := by decide +kernel
theorem dX12_findBetter_60 : decode cX12_findBetter 60 = .ok (.imul, 1) := by decide +kernel
theorem dX12_findBetter_61 : decode cX12_findBetter 61 = .ok (.idiv, 1) := by decide +kernel
theorem dX12_findBetter_62 : decode cX12_findBetter 62 = .ok (.istore 6, 2) := by decide +kernel
theorem dX12_findBetter_64 : decode cX12_findBetter 64 = .ok (.iload 5, 2) := by decide +kernel
theorem dX12_findBetter_66 : decode cX12_findBetter 66 = .ok (.iload_n 2, 1) := by decide +kernel
theorem dX12_findBetter_67 : decode cX12_findBetter 67 = .ok (.idiv, 1) := by decide +kernel
theorem dX12_findBetter_68 : decode cX12_findBetter 68 = .ok (.iload_n 2, 1) := by decide +kernel
theorem dX12_findBetter_69 : decode cX12_findBetter 69 = .ok (.irem, 1) := by decide +kernel
theorem dX12_findBetter_70 : decode cX12_findBetter 70 = .ok (.istore 7, 2) := by decide +kernel
theorem dX12_findBetter_72 : decode cX12_findBetter 72 = .ok (.iload 5, 2) := by decide +kernel
theorem dX12_findBetter_74 : decode cX12_findBetter 74 = .ok (.iload_n 2, 1) := by decide +kernel
theorem dX12_findBetter_75 : decode cX12_findBetter 75 = .ok (.irem, 1) := by decide +kernel
theorem dX12_findBetter_76 : decode cX12_findBetter 76 = .ok (.istore 8, 2) := by decide +kernel
theorem dX12_findBetter_78 : decode cX12_findBetter 78 = .ok (.iload 7, 2) := by decide +kernel
theorem dX12_findBetter_80 : decode cX12_findBetter 80 = .ok (.iload 8, 2) := by decide +kernel
theorem dX12_findBetter_82 : decode cX12_findBetter 82 = .ok (.if_icmp .eq 94, 3) := by decide +kernel
theorem dX12_findBetter_85 : decode cX12_findBetter 85 = .ok (.aload_n 0, 1) := by decide +kernel
theorem dX12_findBetter_86 : decode cX12_findBetter 86 = .ok (.iload 6, 2) := by decide +kernel
theorem dX12_findBetter_88 : decode cX12_findBetter 88 = .ok (.iload 7, 2) := by decide +kernel
theorem dX12_findBetter_90 : decode cX12_findBetter 90 = .ok (.iload 8, 2) := by decide +kernel
theorem dX12_findBetter_92 : decode cX12_findBetter 92 = .ok (.iconst 1, 1) := by decide +kernel
theorem dX12_findBetter_93 : decode cX12_findBetter 93 = .ok (.invokevirtual 323, 3) := by decide +kernel
theorem dX12_findBetter_96 : decode cX12_findBetter 96 = .ok (.ifCond .ne 6, 3) := by decide +kernel
theorem dX12_findBetter_99 : decode cX12_findBetter 99 = .ok (.goto 77, 3) := by decide +kernel
theorem dX12_findBetter_102 : decode cX12_findBetter 102 = .ok (.aload_n 0, 1) := by decide +kernel
theorem dX12_findBetter_103 : decode cX12_findBetter 103 = .ok (.invokevirtual 249, 3) := by decide +kernel
theorem dX12_findBetter_106 : decode cX12_findBetter 106 = .ok (.aload_n 0, 1) := by decide +kernel
theorem dX12_findBetter_107 : decode cX12_findBetter 107 = .ok (.iload_n 1, 1) := by decide +kernel
theorem dX12_findBetter_108 : decode cX12_findBetter 108 = .ok (.invokevirtual 255, 3) := by decide +kernel
theorem dX12_findBetter_111 : decode cX12_findBetter 111 = .ok (.lstore 9, 2) := by decide +kernel
theorem dX12_findBetter_113 : decode cX12_findBetter 113 = .ok (.aload_n 0, 1) := by decide +kernel
theorem dX12_findBetter_114 : decode cX12_findBetter 114 = .ok (.aload_n 0, 1) := by decide +kernel
theorem dX12_findBetter_115 : decode cX12_findBetter 115 = .ok (.getfield 52, 3) := by decide +kernel
theorem dX12_findBetter_118 : decode cX12_findBetter 118 = .ok (.iconst 0, 1) := by decide +kernel
theorem dX12_findBetter_119 : decode cX12_findBetter 119 = .ok (.iaload, 1) := by decide +kernel
theorem dX12_findBetter_120 : decode cX12_findBetter 120 = .ok (.iconst 1, 1) := by decide +kernel
theorem dX12_findBetter_121 : decode cX12_findBetter 121 = .ok (.iconst 2, 1) := by decide +kernel
theorem dX12_findBetter_122 : decode cX12_findBetter 122 = .ok (.invokevirtual 101, 3) := by decide +kernel
theorem dX12_findBetter_125 : decode cX12_findBetter 125 = .ok (.lload_n 3, 1) := by decide +kernel
theorem dX12_findBetter_126 : decode cX12_findBetter 126 = .ok (.lcmp, 1) := by decide +kernel
theorem dX12_findBetter_127 : decode cX12_findBetter 127 = .ok (.ifCond .lt 37, 3) := by decide +kernel
theorem dX12_findBetter_130 : decode cX12_findBetter 130 = .ok (.lload 9, 2) := by decide +kernel
theorem dX12_findBetter_132 : decode cX12_findBetter 132 = .ok (.aload_n 0, 1) := by decide +kernel
theorem dX12_findBetter_133 : decode cX12_findBetter 133 = .ok (.getfield 316, 3) := by decide +kernel
theorem dX12_findBetter_136 : decode cX12_findBetter 136 = .ok (.lcmp, 1) := by decide +kernel
theorem dX12_findBetter_137 : decode cX12_findBetter 137 = .ok (.ifCond .ge 27, 3) := by decide +kernel
theorem dX12_findBetter_140 : decode cX12_findBetter 140 = .ok (.aload_n 0, 1) := by decide +kernel
theorem dX12_findBetter_141 : decode cX12_findBetter 141 = .ok (.lload 9, 2) := by decide +kernel
theorem dX12_findBetter_143 : decode cX12_findBetter 143 = .ok (.putfield 316, 3) := by decide +kernel
theorem dX12_findBetter_146 : decode cX12_findBetter 146 = .ok (.aload_n 0, 1) := by decide +kernel
theorem dX12_findBetter_147 : decode cX12_findBetter 147 = .ok (.iload 6, 2) := by decide +kernel
theorem dX12_findBetter_149 : decode cX12_findBetter 149 = .ok (.putfield 320, 3) := by decide +kernel
theorem dX12_findBetter_152 : decode cX12_findBetter 152 = .ok (.aload_n 0, 1) := by decide +kernel
theorem dX12_findBetter_153 : decode cX12_findBetter 153 = .ok (.iload 7, 2) := by decide +kernel
theorem dX12_findBetter_155 : decode cX12_findBetter 155 = .ok (.putfield 327, 3) := by decide +kernel
theorem dX12_findBetter_158 : decode cX12_findBetter 158 = .ok (.aload_n 0, 1) := by decide +kernel
theorem dX12_findBetter_159 : decode cX12_findBetter 159 = .ok (.iload 8, 2) := by decide +kernel
theorem dX12_findBetter_161 : decode cX12_findBetter 161 = .ok (.putfield 330, 3) := by decide +kernel
theorem dX12_findBetter_164 : decode cX12_findBetter 164 = .ok (.aload_n 0, 1) := by decide +kernel
theorem dX12_findBetter_165 : decode cX12_findBetter 165 = .ok (.iload 6, 2) := by decide +kernel
theorem dX12_findBetter_167 : decode cX12_findBetter 167 = .ok (.iload 7, 2) := by decide +kernel
theorem dX12_findBetter_169 : decode cX12_findBetter 169 = .ok (.iload 8, 2) := by decide +kernel
theorem dX12_findBetter_171 : decode cX12_findBetter 171 = .ok (.iconst (-1), 1) := by decide +kernel
theorem dX12_findBetter_172 : decode cX12_findBetter 172 = .ok (.invokevirtual 323, 3) := by decide +kernel
theorem dX12_findBetter_175 : decode cX12_findBetter 175 = .ok (.pop, 1) := by decide +kernel
theorem dX12_findBetter_176 : decode cX12_findBetter 176 = .ok (.iinc 5 1, 3) := by decide +kernel
theorem dX12_findBetter_179 : decode cX12_findBetter 179 = .ok (.goto (-133), 3) := by decide +kernel
theorem dX12_findBetter_182 : decode cX12_findBetter 182 = .ok (.return_, 1) := by decide +kernel
theorem dX12_better_0 : decode cX12_better 0 = .ok (.aload_n 0, 1) := by decide +kernel
theorem dX12_better_1 : decode cX12_better 1 = .ok (.iconst 0, 1) := by decide +kernel
theorem dX12_better_2 : decode cX12_better 2 = .ok (.putfield 79, 3) := by decide +kernel
theorem dX12_better_5 : decode cX12_better 5 = .ok (.aload_n 0, 1) := by decide +kernel
theorem dX12_better_6 : decode cX12_better 6 = .ok (.aload_n 0, 1) := by decide +kernel
theorem dX12_better_7 : decode cX12_better 7 = .ok (.getfield 90, 3) := by decide +kernel
theorem dX12_better_10 : decode cX12_better 10 = .ok (.ifCond .ne 7, 3) := by decide +kernel
theorem dX12_better_13 : decode cX12_better 13 = .ok (.iconst 1, 1) := by decide +kernel
theorem dX12_better_14 : decode cX12_better 14 = .ok (.goto 4, 3) := by decide +kernel
theorem dX12_better_17 : decode cX12_better 17 = .ok (.iconst 0, 1) := by decide +kernel
theorem dX12_better_18 : decode cX12_better 18 = .ok (.iconst 1, 1) := by decide +kernel
theorem dX12_better_19 : decode cX12_better 19 = .ok (.invokevirtual 86, 3) := by decide +kernel
theorem dX12_better_22 : decode cX12_better 22 = .ok (.ifCond .ne 46, 3) := by decide +kernel
theorem dX12_better_25 : decode cX12_better 25 = .ok (.aload_n 0, 1) := by decide +kernel
theorem dX12_better_26 : decode cX12_better 26 = .ok (.aload_n 0, 1) := by decide +kernel
theorem dX12_better_27 : decode cX12_better 27 = .ok (.iload_n 1, 1) := by decide +kernel
theorem dX12_better_28 : decode cX12_better 28 = .ok (.invokevirtual 252, 3) := by decide +kernel
theorem dX12_better_31 : decode cX12_better 31 = .ok (.ifCond .ne 7, 3) := by decide +kernel
theorem dX12_better_34 : decode cX12_better 34 = .ok (.iconst 1, 1) := by decide +kernel
theorem dX12_better_35 : decode cX12_better 35 = .ok (.goto 4, 3) := by decide +kernel
theorem dX12_better_38 : decode cX12_better 38 = .ok (.iconst 0, 1) := by decide +kernel
theorem dX12_better_39 : decode cX12_better 39 = .ok (.iconst 2, 1) := by decide +kernel
theorem dX12_better_40 : decode cX12_better 40 = .ok (.invokevirtual 86, 3) := by decide +kernel
theorem dX12_better_43 : decode cX12_better 43 = .ok (.ifCond .ne 25, 3) := by decide +kernel
theorem dX12_better_46 : decode cX12_better 46 = .ok (.aload_n 0, 1) := by decide +kernel
theorem dX12_better_47 : decode cX12_better 47 = .ok (.iload_n 2, 1) := by decide +kernel
theorem dX12_better_48 : decode cX12_better 48 = .ok (.iconst (-1), 1) := by decide +kernel
theorem dX12_better_49 : decode cX12_better 49 = .ok (.iconst 2, 1) := by decide +kernel
theorem dX12_better_50 : decode cX12_better 50 = .ok (.invokestatic 82, 3) := by decide +kernel
theorem dX12_better_53 : decode cX12_better 53 = .ok (.ifCond .ne 7, 3) := by decide +kernel
theorem dX12_better_56 : decode cX12_better 56 = .ok (.iconst 1, 1) := by decide +kernel
theorem dX12_better_57 : decode cX12_better 57 = .ok (.goto 4, 3) := by decide +kernel
theorem dX12_better_60 : decode cX12_better 60 = .ok (.iconst 0, 1) := by decide +kernel
theorem dX12_better_61 : decode cX12_better 61 = .ok (.iconst 3, 1) := by decide +kernel
theorem dX12_better_62 : decode cX12_better 62 = .ok (.invokevirtual 86, 3) := by decide +kernel
theorem dX12_better_65 : decode cX12_better 65 = .ok (.ifCond .eq 5, 3) := by decide +kernel
theorem dX12_better_68 : decode cX12_better 68 = .ok (.lconst 0, 1) := by decide +kernel
theorem dX12_better_69 : decode cX12_better 69 = .ok (.lreturn, 1) := by decide +kernel
theorem dX12_better_70 : decode cX12_better 70 = .ok (.aload_n 0, 1) := by decide +kernel
theorem dX12_better_71 : decode cX12_better 71 = .ok (.iload_n 1, 1) := by decide +kernel
theorem dX12_better_72 : decode cX12_better 72 = .ok (.invokevirtual 333, 3) := by decide +kernel
theorem dX12_better_75 : decode cX12_better 75 = .ok (.aload_n 0, 1) := by decide +kernel
theorem dX12_better_76 : decode cX12_better 76 = .ok (.getfield 320, 3) := by decide +kernel
theorem dX12_better_79 : decode cX12_better 79 = .ok (.iconst (-1), 1) := by decide +kernel
theorem dX12_better_80 : decode cX12_better 80 = .ok (.if_icmp .ne 7, 3) := by decide +kernel
theorem dX12_better_83 : decode cX12_better 83 = .ok (.ldc2_w 336, 3) := by decide +kernel
theorem dX12_better_86 : decode cX12_better 86 = .ok (.lreturn, 1) := by decide +kernel
theorem dX12_better_87 : decode cX12_better 87 = .ok (.iload_n 2, 1) := by decide +kernel
theorem dX12_better_88 : decode cX12_better 88 = .ok (.iconst (-1), 1) := by decide +kernel
theorem dX12_better_89 : decode cX12_better 89 = .ok (.if_icmp .ne 10, 3) := by decide +kernel
theorem dX12_better_92 : decode cX12_better 92 = .ok (.aload_n 0, 1) := by decide +kernel
theorem dX12_better_93 : decode cX12_better 93 = .ok (.getfield 316, 3) := by decide +kernel
theorem dX12_better_96 : decode cX12_better 96 = .ok (.goto 33, 3) := by decide +kernel
theorem dX12_better_99 : decode cX12_better 99 = .ok (.iload_n 2, 1) := by decide +kernel
theorem dX12_better_100 : decode cX12_better 100 = .ok (.ifCond .ne 11, 3) := by decide +kernel
theorem dX12_better_103 : decode cX12_better 103 = .ok (.aload_n 0, 1) := by decide +kernel
theorem dX12_better_104 : decode cX12_better 104 = .ok (.getfield 320, 3) := by decide +kernel
theorem dX12_better_107 : decode cX12_better 107 = .ok (.i2l, 1) := by decide +kernel
theorem dX12_better_108 : decode cX12_better 108 = .ok (.goto 21, 3) := by decide +kernel
theorem dX12_better_111 : decode cX12_better 111 = .ok (.iload_n 2, 1) := by decide +kernel
theorem dX12_better_112 : decode cX12_better 112 = .ok (.iconst 1, 1) := by decide +kernel
theorem dX12_better_113 : decode cX12_better 113 = .ok (.if_icmp .ne 11, 3) := by decide +kernel
theorem dX12_better_116 : decode cX12_better 116 = .ok (.aload_n 0, 1) := by decide +kernel
theorem dX12_better_117 : decode cX12_better 117 = .ok (.getfield 327, 3) := by decide +kernel
theorem dX12_better_120 : decode cX12_better 120 = .ok (.i2l, 1) := by decide +kernel
theorem dX12_better_121 : decode cX12_better 121 = .ok (.goto 8, 3) := by decide +kernel
theorem dX12_better_124 : decode cX12_better 124 = .ok (.aload_n 0, 1) := by decide +kernel
theorem dX12_better_125 : decode cX12_better 125 = .ok (.getfield 330, 3) := by decide +kernel
theorem dX12_better_128 : decode cX12_better 128 = .ok (.i2l, 1) := by decide +kernel
theorem dX12_better_129 : decode cX12_better 129 = .ok (.lreturn, 1) := by decide +kernel
theorem dX12_lines_0 : decode cX12_lines 0 = .ok (.aload_n 0, 1) := by decide +kernel
theorem dX12_lines_1 : decode cX12_lines 1 = .ok (.iconst 0, 1) := by decide +kernel
theorem dX12_lines_2 : decode cX12_lines 2 = .ok (.putfield 79, 3) := by decide +kernel
theorem dX12_lines_5 : decode cX12_lines 5 = .ok (.aload_n 0, 1) := by decide +kernel
theorem dX12_lines_6 : decode cX12_lines 6 = .ok (.aload_n 0, 1) := by decide +kernel
theorem dX12_lines_7 : decode cX12_lines 7 = .ok (.getfield 90, 3) := by decide +kernel
theorem dX12_lines_10 : decode cX12_lines 10 = .ok (.ifCond .ne 7, 3) := by decide +kernel
theorem dX12_lines_13 : decode cX12_lines 13 = .ok (.iconst 1, 1) := by decide +kernel
theorem dX12_lines_14 : decode cX12_lines 14 = .ok (.goto 4, 3) := by decide +kernel
theorem dX12_lines_17 : decode cX12_lines 17 = .ok (.iconst 0, 1) := by decide +kernel
theorem dX12_lines_18 : decode cX12_lines 18 = .ok (.iconst 1, 1) := by decide +kernel
theorem dX12_lines_19 : decode cX12_lines 19 = .ok (.invokevirtual 86, 3) := by decide +kernel
theorem dX12_lines_22 : decode cX12_lines 22 = .ok (.ifCond .ne 47, 3) := by decide +kernel
theorem dX12_lines_25 : decode cX12_lines 25 = .ok (.aload_n 0, 1) := by decide +kernel
theorem dX12_lines_26 : decode cX12_lines 26 = .ok (.aload_n 0, 1) := by decide +kernel
theorem dX12_lines_27 : decode cX12_lines 27 = .ok (.iload_n 1, 1) := by decide +kernel
theorem dX12_lines_28 : decode cX12_lines 28 = .ok (.invokevirtual 252, 3) := by decide +kernel
theorem dX12_lines_31 : decode cX12_lines 31 = .ok (.ifCond .ne 7, 3) := by decide +kernel
theorem dX12_lines_34 : decode cX12_lines 34 = .ok (.iconst 1, 1) := by decide +kernel
theorem dX12_lines_35 : decode cX12_lines 35 = .ok (.goto 4, 3) := by decide +kernel
theorem dX12_lines_38 : decode cX12_lines 38 = .ok (.iconst 0, 1) := by decide +kernel
theorem dX12_lines_39 : decode cX12_lines 39 = .ok (.iconst 2, 1) := by decide +kernel
theorem dX12_lines_40 : decode cX12_lines 40 = .ok (.invokevirtual 86, 3) := by decide +kernel
theorem dX12_lines_43 : decode cX12_lines 43 = .ok (.ifCond .ne 26, 3) := by decide +kernel
theorem dX12_lines_46 : decode cX12_lines 46 = .ok (.aload_n 0, 1) := by decide +kernel
theorem dX12_lines_47 : decode cX12_lines 47 = .ok (.iload_n 2, 1) := by decide +kernel
theorem dX12_lines_48 : decode cX12_lines 48 = .ok (.iconst 0, 1) := by decide +kernel
theorem dX12_lines_49 : decode cX12_lines 49 = .ok (.bipush 20, 2) := by decide +kernel
theorem dX12_lines_51 : decode cX12_lines 51 = .ok (.invokestatic 82, 3) := by decide +kernel
theorem dX12_lines_54 : decode cX12_lines 54 = .ok (.ifCond .ne 7, 3) := by decide +kernel
theorem dX12_lines_57 : decode cX12_lines 57 = .ok (.iconst 1, 1) := by decide +kernel
theorem dX12_lines_58 : decode cX12_lines 58 = .ok (.goto 4, 3) := by decide +kernel
theorem dX12_lines_61 : decode cX12_lines 61 = .ok (.iconst 0, 1) := by decide +kernel
theorem dX12_lines_62 : decode cX12_lines 62 = .ok (.iconst 3, 1) := by decide +kernel
theorem dX12_lines_63 : decode cX12_lines 63 = .ok (.invokevirtual 86, 3) := by decide +kernel
theorem dX12_lines_66 : decode cX12_lines 66 = .ok (.ifCond .eq 5, 3) := by decide +kernel
theorem dX12_lines_69 : decode cX12_lines 69 = .ok (.iconst 0, 1) := by decide +kernel
theorem dX12_lines_70 : decode cX12_lines 70 = .ok (.ireturn, 1) := by decide +kernel
theorem dX12_lines_71 : decode cX12_lines 71 = .ok (.iconst 0, 1) := by decide +kernel
theorem dX12_lines_72 : decode cX12_lines 72 = .ok (.istore_n 3, 1) := by decide +kernel
theorem dX12_lines_73 : decode cX12_lines 73 = .ok (.iload_n 3, 1) := by decide +kernel
theorem dX12_lines_74 : decode cX12_lines 74 = .ok (.iload_n 2, 1) := by decide +kernel
theorem dX12_lines_75 : decode cX12_lines 75 = .ok (.if_icmp .ge 42, 3) := by decide +kernel
theorem dX12_lines_78 : decode cX12_lines 78 = .ok (.aload_n 0, 1) := by decide +kernel
theorem dX12_lines_79 : decode cX12_lines 79 = .ok (.iload_n 1, 1) := by decide +kernel
theorem dX12_lines_80 : decode cX12_lines 80 = .ok (.invokevirtual 333, 3) := by decide +kernel
theorem dX12_lines_83 : decode cX12_lines 83 = .ok (.aload_n 0, 1) := by decide +kernel
theorem dX12_lines_84 : decode cX12_lines 84 = .ok (.getfield 320, 3) := by decide +kernel
theorem dX12_lines_87 : decode cX12_lines 87 = .ok (.iconst (-1), 1) := by decide +kernel
theorem dX12_lines_88 : decode cX12_lines 88 = .ok (.if_icmp .ne 5, 3) := by decide +kernel
theorem dX12_lines_91 : decode cX12_lines 91 = .ok (.iload_n 3, 1) := by decide +kernel
theorem dX12_lines_92 : decode cX12_lines 92 = .ok (.ireturn, 1) := by decide +kernel
theorem dX12_lines_93 : decode cX12_lines 93 = .ok (.aload_n 0, 1) := by decide +kernel
theorem dX12_lines_94 : decode cX12_lines 94 = .ok (.aload_n 0, 1) := by decide +kernel
theorem dX12_lines_95 : decode cX12_lines 95 = .ok (.getfield 320, 3) := by decide +kernel
theorem dX12_lines_98 : decode cX12_lines 98 = .ok (.aload_n 0, 1) := by decide +kernel
theorem dX12_lines_99 : decode cX12_lines 99 = .ok (.getfield 327, 3) := by decide +kernel
theorem dX12_lines_102 : decode cX12_lines 102 = .ok (.aload_n 0, 1) := by decide +kernel
theorem dX12_lines_103 : decode cX12_lines 103 = .ok (.getfield 330, 3) := by decide +kernel
theorem dX12_lines_106 : decode cX12_lines 106 = .ok (.iconst 1, 1) := by decide +kernel
theorem dX12_lines_107 : decode cX12_lines 107 = .ok (.invokevirtual 323, 3) := by decide +kernel
theorem dX12_lines_110 : decode cX12_lines 110 = .ok (.pop, 1) := by decide +kernel
theorem dX12_lines_111 : decode cX12_lines 111 = .ok (.iinc 3 1, 3) := by decide +kernel
theorem dX12_lines_114 : decode cX12_lines 114 = .ok (.goto (-41), 3) := by decide +kernel
theorem dX12_lines_117 : decode cX12_lines 117 = .ok (.iload_n 2, 1) := by decide +kernel
theorem dX12_lines_118 : decode cX12_lines 118 = .ok (.ireturn, 1) := by decide +kernel
theorem dX12_mile_0 : decode cX12_mile 0 = .ok (.aload_n 0, 1) := by decide +kernel
theorem dX12_mile_1 : decode cX12_mile 1 = .ok (.iconst 0, 1) := by decide +kernel
theorem dX12_mile_2 : decode cX12_mile 2 = .ok (.putfield 79, 3) := by decide +kernel
theorem dX12_mile_5 : decode cX12_mile 5 = .ok (.aload_n 0, 1) := by decide +kernel
theorem dX12_mile_6 : decode cX12_mile 6 = .ok (.iload_n 1, 1) := by decide +kernel
theorem dX12_mile_7 : decode cX12_mile 7 = .ok (.iconst 0, 1) := by decide +kernel
theorem dX12_mile_8 : decode cX12_mile 8 = .ok (.sipush 999, 3) := by decide +kernel
theorem dX12_mile_11 : decode cX12_mile 11 = .ok (.invokestatic 82, 3) := by decide +kernel
theorem dX12_mile_14 : decode cX12_mile 14 = .ok (.ifCond .eq 14, 3) := by decide +kernel
theorem dX12_mile_17 : decode cX12_mile 17 = .ok (.iload_n 2, 1) := by decide +kernel
theorem dX12_mile_18 : decode cX12_mile 18 = .ok (.bipush (-99), 2) := by decide +kernel
theorem dX12_mile_20 : decode cX12_mile 20 = .ok (.bipush 99, 2) := by decide +kernel
theorem dX12_mile_22 : decode cX12_mile 22 = .ok (.invokestatic 82, 3) := by decide +kernel
theorem dX12_mile_25 : decode cX12_mile 25 = .ok (.ifCond .ne 7, 3) := by decide +kernel
theorem dX12_mile_28 : decode cX12_mile 28 = .ok (.iconst 1, 1) := by decide +kernel
theorem dX12_mile_29 : decode cX12_mile 29 = .ok (.goto 4, 3) := by decide +kernel
theorem dX12_mile_32 : decode cX12_mile 32 = .ok (.iconst 0, 1) := by decide +kernel
theorem dX12_mile_33 : decode cX12_mile 33 = .ok (.iconst 1, 1) := by decide +kernel
theorem dX12_mile_34 : decode cX12_mile 34 = .ok (.invokevirtual 86, 3) := by decide +kernel
theorem dX12_mile_37 : decode cX12_mile 37 = .ok (.ifCond .eq 5, 3) := by decide +kernel
theorem dX12_mile_40 : decode cX12_mile 40 = .ok (.iconst 0, 1) := by decide +kernel
theorem dX12_mile_41 : decode cX12_mile 41 = .ok (.ireturn, 1) := by decide +kernel
theorem dX12_mile_42 : decode cX12_mile 42 = .ok (.aload_n 0, 1) := by decide +kernel
theorem dX12_mile_43 : decode cX12_mile 43 = .ok (.getfield 338, 3) := by decide +kernel
theorem dX12_mile_46 : decode cX12_mile 46 = .ok (.bipush 6, 2) := by decide +kernel
theorem dX12_mile_48 : decode cX12_mile 48 = .ok (.if_icmp .ne 5, 3) := by decide +kernel
theorem dX12_mile_51 : decode cX12_mile 51 = .ok (.iconst (-1), 1) := by decide +kernel
theorem dX12_mile_52 : decode cX12_mile 52 = .ok (.ireturn, 1) := by decide +kernel
theorem dX12_mile_53 : decode cX12_mile 53 = .ok (.aload_n 0, 1) := by decide +kernel
theorem dX12_mile_54 : decode cX12_mile 54 = .ok (.getfield 70, 3) := by decide +kernel
theorem dX12_mile_57 : decode cX12_mile 57 = .ok (.aload_n 0, 1) := by decide +kernel
theorem dX12_mile_58 : decode cX12_mile 58 = .ok (.getfield 338, 3) := by decide +kernel
theorem dX12_mile_61 : decode cX12_mile 61 = .ok (.aaload, 1) := by decide +kernel
theorem dX12_mile_62 : decode cX12_mile 62 = .ok (.iconst 0, 1) := by decide +kernel
theorem dX12_mile_63 : decode cX12_mile 63 = .ok (.iload_n 1, 1) := by decide +kernel
theorem dX12_mile_64 : decode cX12_mile 64 = .ok (.iastore, 1) := by decide +kernel
theorem dX12_mile_65 : decode cX12_mile 65 = .ok (.aload_n 0, 1) := by decide +kernel
theorem dX12_mile_66 : decode cX12_mile 66 = .ok (.getfield 70, 3) := by decide +kernel
theorem dX12_mile_69 : decode cX12_mile 69 = .ok (.aload_n 0, 1) := by decide +kernel
theorem dX12_mile_70 : decode cX12_mile 70 = .ok (.getfield 338, 3) := by decide +kernel
theorem dX12_mile_73 : decode cX12_mile 73 = .ok (.aaload, 1) := by decide +kernel
theorem dX12_mile_74 : decode cX12_mile 74 = .ok (.iconst 1, 1) := by decide +kernel
theorem dX12_mile_75 : decode cX12_mile 75 = .ok (.iload_n 2, 1) := by decide +kernel
theorem dX12_mile_76 : decode cX12_mile 76 = .ok (.iastore, 1) := by decide +kernel
theorem dX12_mile_77 : decode cX12_mile 77 = .ok (.aload_n 0, 1) := by decide +kernel
theorem dX12_mile_78 : decode cX12_mile 78 = .ok (.dup, 1) := by decide +kernel
theorem dX12_mile_79 : decode cX12_mile 79 = .ok (.getfield 338, 3) := by decide +kernel
theorem dX12_mile_82 : decode cX12_mile 82 = .ok (.iconst 1, 1) := by decide +kernel
theorem dX12_mile_83 : decode cX12_mile 83 = .ok (.iadd, 1) := by decide +kernel
theorem dX12_mile_84 : decode cX12_mile 84 = .ok (.putfield 338, 3) := by decide +kernel
theorem dX12_mile_87 : decode cX12_mile 87 = .ok (.aload_n 0, 1) := by decide +kernel
theorem dX12_mile_88 : decode cX12_mile 88 = .ok (.getfield 338, 3) := by decide +kernel
theorem dX12_mile_91 : decode cX12_mile 91 = .ok (.ireturn, 1) := by decide +kernel
theorem dX12_often_0 : decode cX12_often 0 = .ok (.iconst 1, 1) := by decide +kernel
theorem dX12_often_1 : decode cX12_often 1 = .ok (.istore_n 2, 1) := by decide +kernel
theorem dX12_often_2 : decode cX12_often 2 = .ok (.iconst 1, 1) := by decide +kernel
theorem dX12_often_3 : decode cX12_often 3 = .ok (.istore_n 3, 1) := by decide +kernel
theorem dX12_often_4 : decode cX12_often 4 = .ok (.iload_n 3, 1) := by decide +kernel
theorem dX12_often_5 : decode cX12_often 5 = .ok (.iload_n 1, 1) := by decide +kernel
theorem dX12_often_6 : decode cX12_often 6 = .ok (.if_icmp .gt 17, 3) := by decide +kernel
theorem dX12_often_9 : decode cX12_often 9 = .ok (.iload_n 2, 1) := by decide +kernel
theorem dX12_often_10 : decode cX12_often 10 = .ok (.iload_n 0, 1) := by decide +kernel
theorem dX12_often_11 : decode cX12_often 11 = .ok (.iload_n 3, 1) := by decide +kernel
theorem dX12_often_12 : decode cX12_often 12 = .ok (.isub, 1) := by decide +kernel
theorem dX12_often_13 : decode cX12_often 13 = .ok (.imul, 1) := by decide +kernel
theorem dX12_often_14 : decode cX12_often 14 = .ok (.iload_n 3, 1) := by decide +kernel
theorem dX12_often_15 : decode cX12_often 15 = .ok (.idiv, 1) := by decide +kernel
theorem dX12_often_16 : decode cX12_often 16 = .ok (.istore_n 2, 1) := by decide +kernel
theorem dX12_often_17 : decode cX12_often 17 = .ok (.iinc 3 1, 3) := by decide +kernel
theorem dX12_often_20 : decode cX12_often 20 = .ok (.goto (-16), 3) := by decide +kernel
theorem dX12_often_23 : decode cX12_often 23 = .ok (.iload_n 2, 1) := by decide +kernel
theorem dX12_often_24 : decode cX12_often 24 = .ok (.ireturn, 1) := by decide +kernel
theorem dX12_mean_0 : decode cX12_mean 0 = .ok (.aload_n 0, 1) := by decide +kernel
theorem dX12_mean_1 : decode cX12_mean 1 = .ok (.iconst 0, 1) := by decide +kernel
theorem dX12_mean_2 : decode cX12_mean 2 = .ok (.putfield 79, 3) := by decide +kernel
theorem dX12_mean_5 : decode cX12_mean 5 = .ok (.aload_n 0, 1) := by decide +kernel
theorem dX12_mean_6 : decode cX12_mean 6 = .ok (.getfield 338, 3) := by decide +kernel
theorem dX12_mean_9 : decode cX12_mean 9 = .ok (.iconst 2, 1) := by decide +kernel
theorem dX12_mean_10 : decode cX12_mean 10 = .ok (.if_icmp .ge 7, 3) := by decide +kernel
theorem dX12_mean_13 : decode cX12_mean 13 = .ok (.ldc_w 341, 3) := by decide +kernel
theorem dX12_mean_16 : decode cX12_mean 16 = .ok (.ireturn, 1) := by decide +kernel
theorem dX12_mean_17 : decode cX12_mean 17 = .ok (.iconst 0, 1) := by decide +kernel
theorem dX12_mean_18 : decode cX12_mean 18 = .ok (.istore_n 2, 1) := by decide +kernel
theorem dX12_mean_19 : decode cX12_mean 19 = .ok (.iconst 0, 1) := by decide +kernel
theorem dX12_mean_20 : decode cX12_mean 20 = .ok (.istore_n 3, 1) := by decide +kernel
theorem dX12_mean_21 : decode cX12_mean 21 = .ok (.iload_n 3, 1) := by decide +kernel
theorem dX12_mean_22 : decode cX12_mean 22 = .ok (.aload_n 0, 1) := by decide +kernel
theorem dX12_mean_23 : decode cX12_mean 23 = .ok (.getfield 338, 3) := by decide +kernel
theorem dX12_mean_26 : decode cX12_mean 26 = .ok (.if_icmp .ge 62, 3) := by decide +kernel
theorem dX12_mean_29 : decode cX12_mean 29 = .ok (.aload_n 0, 1) := by decide +kernel
theorem dX12_mean_30 : decode cX12_mean 30 = .ok (.getfield 338, 3) := by decide +kernel
theorem dX12_mean_33 : decode cX12_mean 33 = .ok (.iload_n 3, 1) := by decide +kernel
theorem dX12_mean_34 : decode cX12_mean 34 = .ok (.invokestatic 342, 3) := by decide +kernel
theorem dX12_mean_37 : decode cX12_mean 37 = .ok (.aload_n 0, 1) := by decide +kernel
theorem dX12_mean_38 : decode cX12_mean 38 = .ok (.getfield 70, 3) := by decide +kernel
theorem dX12_mean_41 : decode cX12_mean 41 = .ok (.iload_n 3, 1) := by decide +kernel
theorem dX12_mean_42 : decode cX12_mean 42 = .ok (.aaload, 1) := by decide +kernel
theorem dX12_mean_43 : decode cX12_mean 43 = .ok (.iconst 0, 1) := by decide +kernel
theorem dX12_mean_44 : decode cX12_mean 44 = .ok (.iaload, 1) := by decide +kernel
theorem dX12_mean_45 : decode cX12_mean 45 = .ok (.aload_n 0, 1) := by decide +kernel
theorem dX12_mean_46 : decode cX12_mean 46 = .ok (.getfield 70, 3) := by decide +kernel
theorem dX12_mean_49 : decode cX12_mean 49 = .ok (.iload_n 3, 1) := by decide +kernel
theorem dX12_mean_50 : decode cX12_mean 50 = .ok (.aaload, 1) := by decide +kernel
theorem dX12_mean_51 : decode cX12_mean 51 = .ok (.iconst 1, 1) := by decide +kernel
theorem dX12_mean_52 : decode cX12_mean 52 = .ok (.iaload, 1) := by decide +kernel
theorem dX12_mean_53 : decode cX12_mean 53 = .ok (.bipush 10, 2) := by decide +kernel
theorem dX12_mean_55 : decode cX12_mean 55 = .ok (.idiv, 1) := by decide +kernel
theorem dX12_mean_56 : decode cX12_mean 56 = .ok (.iadd, 1) := by decide +kernel
theorem dX12_mean_57 : decode cX12_mean 57 = .ok (.imul, 1) := by decide +kernel
theorem dX12_mean_58 : decode cX12_mean 58 = .ok (.istore 4, 2) := by decide +kernel
theorem dX12_mean_60 : decode cX12_mean 60 = .ok (.iload_n 2, 1) := by decide +kernel
theorem dX12_mean_61 : decode cX12_mean 61 = .ok (.iload_n 1, 1) := by decide +kernel
theorem dX12_mean_62 : decode cX12_mean 62 = .ok (.ifCond .eq 16, 3) := by decide +kernel
theorem dX12_mean_65 : decode cX12_mean 65 = .ok (.iload_n 3, 1) := by decide +kernel
theorem dX12_mean_66 : decode cX12_mean 66 = .ok (.iconst 2, 1) := by decide +kernel
theorem dX12_mean_67 : decode cX12_mean 67 = .ok (.irem, 1) := by decide +kernel
theorem dX12_mean_68 : decode cX12_mean 68 = .ok (.iconst 1, 1) := by decide +kernel
theorem dX12_mean_69 : decode cX12_mean 69 = .ok (.if_icmp .ne 9, 3) := by decide +kernel
theorem dX12_mean_72 : decode cX12_mean 72 = .ok (.iload 4, 2) := by decide +kernel
theorem dX12_mean_74 : decode cX12_mean 74 = .ok (.ineg, 1) := by decide +kernel
theorem dX12_mean_75 : decode cX12_mean 75 = .ok (.goto 5, 3) := by decide +kernel
theorem dX12_mean_78 : decode cX12_mean 78 = .ok (.iload 4, 2) := by decide +kernel
theorem dX12_mean_80 : decode cX12_mean 80 = .ok (.iadd, 1) := by decide +kernel
theorem dX12_mean_81 : decode cX12_mean 81 = .ok (.istore_n 2, 1) := by decide +kernel
theorem dX12_mean_82 : decode cX12_mean 82 = .ok (.iinc 3 1, 3) := by decide +kernel
theorem dX12_mean_85 : decode cX12_mean 85 = .ok (.goto (-64), 3) := by decide +kernel
theorem dX12_mean_88 : decode cX12_mean 88 = .ok (.iload_n 2, 1) := by decide +kernel
theorem dX12_mean_89 : decode cX12_mean 89 = .ok (.ireturn, 1) := by decide +kernel
theorem dX12_anew_0 : decode cX12_anew 0 = .ok (.aload_n 0, 1) := by decide +kernel
theorem dX12_anew_1 : decode cX12_anew 1 = .ok (.iconst 0, 1) := by decide +kernel
theorem dX12_anew_2 : decode cX12_anew 2 = .ok (.putfield 79, 3) := by decide +kernel
theorem dX12_anew_5 : decode cX12_anew 5 = .ok (.aload_n 0, 1) := by decide +kernel
theorem dX12_anew_6 : decode cX12_anew 6 = .ok (.getfield 338, 3) := by decide +kernel
theorem dX12_anew_9 : decode cX12_anew 9 = .ok (.istore_n 1, 1) := by decide +kernel
theorem dX12_anew_10 : decode cX12_anew 10 = .ok (.aload_n 0, 1) := by decide +kernel
theorem dX12_anew_11 : decode cX12_anew 11 = .ok (.iconst 0, 1) := by decide +kernel
theorem dX12_anew_12 : decode cX12_anew 12 = .ok (.putfield 338, 3) := by decide +kernel
theorem dX12_anew_15 : decode cX12_anew 15 = .ok (.iload_n 1, 1) := by decide +kernel
theorem dX12_anew_16 : decode cX12_anew 16 = .ok (.ireturn, 1) := by decide +kernel
theorem dX12_oddsOf_0 : decode cX12_oddsOf 0 = .ok (.iconst 0, 1) := by decide +kernel
theorem dX12_oddsOf_1 : decode cX12_oddsOf 1 = .ok (.istore 4, 2) := by decide +kernel
theorem dX12_oddsOf_3 : decode cX12_oddsOf 3 = .ok (.iconst 0, 1) := by decide +kernel
theorem dX12_oddsOf_4 : decode cX12_oddsOf 4 = .ok (.istore 5, 2) := by decide +kernel
theorem dX12_oddsOf_6 : decode cX12_oddsOf 6 = .ok (.iload 5, 2) := by decide +kernel
theorem dX12_oddsOf_8 : decode cX12_oddsOf 8 = .ok (.aload_n 0, 1) := by decide +kernel
theorem dX12_oddsOf_9 : decode cX12_oddsOf 9 = .ok (.getfield 300, 3) := by decide +kernel
theorem dX12_oddsOf_12 : decode cX12_oddsOf 12 = .ok (.if_icmp .ge 60, 3) := by decide +kernel
theorem dX12_oddsOf_15 : decode cX12_oddsOf 15 = .ok (.aload_n 0, 1) := by decide +kernel
theorem dX12_oddsOf_16 : decode cX12_oddsOf 16 = .ok (.iload 5, 2) := by decide +kernel
theorem dX12_oddsOf_18 : decode cX12_oddsOf 18 = .ok (.sipush 200, 3) := by decide +kernel
theorem dX12_oddsOf_21 : decode cX12_oddsOf 21 = .ok (.invokevirtual 313, 3) := by decide +kernel
theorem dX12_oddsOf_24 : decode cX12_oddsOf 24 = .ok (.ifCond .ne 42, 3) := by decide +kernel
theorem dX12_oddsOf_27 : decode cX12_oddsOf 27 = .ok (.iload 4, 2) := by decide +kernel
theorem dX12_oddsOf_29 : decode cX12_oddsOf 29 = .ok (.iload_n 1, 1) := by decide +kernel
theorem dX12_oddsOf_30 : decode cX12_oddsOf 30 = .ok (.i2l, 1) := by decide +kernel
theorem dX12_oddsOf_31 : decode cX12_oddsOf 31 = .ok (.aload_n 0, 1) := by decide +kernel
theorem dX12_oddsOf_32 : decode cX12_oddsOf 32 = .ok (.iload 5, 2) := by decide +kernel
theorem dX12_oddsOf_34 : decode cX12_oddsOf 34 = .ok (.invokevirtual 307, 3) := by decide +kernel
theorem dX12_oddsOf_37 : decode cX12_oddsOf 37 = .ok (.i2l, 1) := by decide +kernel
theorem dX12_oddsOf_38 : decode cX12_oddsOf 38 = .ok (.lmul, 1) := by decide +kernel
theorem dX12_oddsOf_39 : decode cX12_oddsOf 39 = .ok (.ldc2_w 303, 3) := by decide +kernel
theorem dX12_oddsOf_42 : decode cX12_oddsOf 42 = .ok (.ldiv, 1) := by decide +kernel
theorem dX12_oddsOf_43 : decode cX12_oddsOf 43 = .ok (.iload_n 2, 1) := by decide +kernel
theorem dX12_oddsOf_44 : decode cX12_oddsOf 44 = .ok (.i2l, 1) := by decide +kernel
theorem dX12_oddsOf_45 : decode cX12_oddsOf 45 = .ok (.lcmp, 1) := by decide +kernel
theorem dX12_oddsOf_46 : decode cX12_oddsOf 46 = .ok (.ifCond .gt 7, 3) := by decide +kernel
theorem dX12_oddsOf_49 : decode cX12_oddsOf 49 = .ok (.iconst 1, 1) := by decide +kernel
theorem dX12_oddsOf_50 : decode cX12_oddsOf 50 = .ok (.goto 4, 3) := by decide +kernel
theorem dX12_oddsOf_53 : decode cX12_oddsOf 53 = .ok (.iconst 0, 1) := by decide +kernel
theorem dX12_oddsOf_54 : decode cX12_oddsOf 54 = .ok (.iload_n 3, 1) := by decide +kernel
theorem dX12_oddsOf_55 : decode cX12_oddsOf 55 = .ok (.if_icmp .ne 7, 3) := by decide +kernel
theorem dX12_oddsOf_58 : decode cX12_oddsOf 58 = .ok (.iconst 1, 1) := by decide +kernel
theorem dX12_oddsOf_59 : decode cX12_oddsOf 59 = .ok (.goto 4, 3) := by decide +kernel
theorem dX12_oddsOf_62 : decode cX12_oddsOf 62 = .ok (.iconst 0, 1) := by decide +kernel
theorem dX12_oddsOf_63 : decode cX12_oddsOf 63 = .ok (.iadd, 1) := by decide +kernel
theorem dX12_oddsOf_64 : decode cX12_oddsOf 64 = .ok (.istore 4, 2) := by decide +kernel
theorem dX12_oddsOf_66 : decode cX12_oddsOf 66 = .ok (.iinc 5 1, 3) := by decide +kernel
theorem dX12_oddsOf_69 : decode cX12_oddsOf 69 = .ok (.goto (-63), 3) := by decide +kernel
theorem dX12_oddsOf_72 : decode cX12_oddsOf 72 = .ok (.iload 4, 2) := by decide +kernel
theorem dX12_oddsOf_74 : decode cX12_oddsOf 74 = .ok (.ireturn, 1) := by decide +kernel
theorem dX12_odds_0 : decode cX12_odds 0 = .ok (.aload_n 0, 1) := by decide +kernel
theorem dX12_odds_1 : decode cX12_odds 1 = .ok (.iconst 0, 1) := by decide +kernel
theorem dX12_odds_2 : decode cX12_odds 2 = .ok (.putfield 79, 3) := by decide +kernel
theorem dX12_odds_5 : decode cX12_odds 5 = .ok (.aload_n 0, 1) := by decide +kernel
theorem dX12_odds_6 : decode cX12_odds 6 = .ok (.iload_n 1, 1) := by decide +kernel
theorem dX12_odds_7 : decode cX12_odds 7 = .ok (.iconst 0, 1) := by decide +kernel
theorem dX12_odds_8 : decode cX12_odds 8 = .ok (.ldc_w 264, 3) := by decide +kernel
theorem dX12_odds_11 : decode cX12_odds 11 = .ok (.invokestatic 82, 3) := by decide +kernel
theorem dX12_odds_14 : decode cX12_odds 14 = .ok (.ifCond .eq 14, 3) := by decide +kernel
theorem dX12_odds_17 : decode cX12_odds 17 = .ok (.iload_n 2, 1) := by decide +kernel
theorem dX12_odds_18 : decode cX12_odds 18 = .ok (.iconst 0, 1) := by decide +kernel
theorem dX12_odds_19 : decode cX12_odds 19 = .ok (.ldc_w 264, 3) := by decide +kernel
theorem dX12_odds_22 : decode cX12_odds 22 = .ok (.invokestatic 82, 3) := by decide +kernel
theorem dX12_odds_25 : decode cX12_odds 25 = .ok (.ifCond .ne 7, 3) := by decide +kernel
theorem dX12_odds_28 : decode cX12_odds 28 = .ok (.iconst 1, 1) := by decide +kernel
theorem dX12_odds_29 : decode cX12_odds 29 = .ok (.goto 4, 3) := by decide +kernel
theorem dX12_odds_32 : decode cX12_odds 32 = .ok (.iconst 0, 1) := by decide +kernel
theorem dX12_odds_33 : decode cX12_odds 33 = .ok (.iconst 1, 1) := by decide +kernel
theorem dX12_odds_34 : decode cX12_odds 34 = .ok (.invokevirtual 86, 3) := by decide +kernel
theorem dX12_odds_37 : decode cX12_odds 37 = .ok (.ifCond .eq 5, 3) := by decide +kernel
theorem dX12_odds_40 : decode cX12_odds 40 = .ok (.iconst 0, 1) := by decide +kernel
theorem dX12_odds_41 : decode cX12_odds 41 = .ok (.ireturn, 1) := by decide +kernel
theorem dX12_odds_42 : decode cX12_odds 42 = .ok (.aload_n 0, 1) := by decide +kernel
theorem dX12_odds_43 : decode cX12_odds 43 = .ok (.iload_n 1, 1) := by decide +kernel
theorem dX12_odds_44 : decode cX12_odds 44 = .ok (.iload_n 2, 1) := by decide +kernel
theorem dX12_odds_45 : decode cX12_odds 45 = .ok (.iconst 1, 1) := by decide +kernel
theorem dX12_odds_46 : decode cX12_odds 46 = .ok (.invokevirtual 345, 3) := by decide +kernel
theorem dX12_odds_49 : decode cX12_odds 49 = .ok (.ireturn, 1) := by decide +kernel
theorem dX12_price_0 : decode cX12_price 0 = .ok (.aload_n 0, 1) := by decide +kernel
theorem dX12_price_1 : decode cX12_price 1 = .ok (.iconst 0, 1) := by decide +kernel
theorem dX12_price_2 : decode cX12_price 2 = .ok (.putfield 79, 3) := by decide +kernel
theorem dX12_price_5 : decode cX12_price 5 = .ok (.aload_n 0, 1) := by decide +kernel
theorem dX12_price_6 : decode cX12_price 6 = .ok (.iload_n 1, 1) := by decide +kernel
theorem dX12_price_7 : decode cX12_price 7 = .ok (.iconst 0, 1) := by decide +kernel
theorem dX12_price_8 : decode cX12_price 8 = .ok (.ldc_w 264, 3) := by decide +kernel
theorem dX12_price_11 : decode cX12_price 11 = .ok (.invokestatic 82, 3) := by decide +kernel
theorem dX12_price_14 : decode cX12_price 14 = .ok (.ifCond .eq 37, 3) := by decide +kernel
theorem dX12_price_17 : decode cX12_price 17 = .ok (.iload_n 2, 1) := by decide +kernel
theorem dX12_price_18 : decode cX12_price 18 = .ok (.iconst 0, 1) := by decide +kernel
theorem dX12_price_19 : decode cX12_price 19 = .ok (.ldc_w 264, 3) := by decide +kernel
theorem dX12_price_22 : decode cX12_price 22 = .ok (.invokestatic 82, 3) := by decide +kernel
theorem dX12_price_25 : decode cX12_price 25 = .ok (.ifCond .eq 26, 3) := by decide +kernel
theorem dX12_price_28 : decode cX12_price 28 = .ok (.iload_n 3, 1) := by decide +kernel
theorem dX12_price_29 : decode cX12_price 29 = .ok (.iconst 0, 1) := by decide +kernel
theorem dX12_price_30 : decode cX12_price 30 = .ok (.sipush 9999, 3) := by decide +kernel
theorem dX12_price_33 : decode cX12_price 33 = .ok (.invokestatic 82, 3) := by decide +kernel
theorem dX12_price_36 : decode cX12_price 36 = .ok (.ifCond .eq 15, 3) := by decide +kernel
theorem dX12_price_39 : decode cX12_price 39 = .ok (.iload 4, 2) := by decide +kernel
theorem dX12_price_41 : decode cX12_price 41 = .ok (.iconst 0, 1) := by decide +kernel
theorem dX12_price_42 : decode cX12_price 42 = .ok (.sipush 9999, 3) := by decide +kernel
theorem dX12_price_45 : decode cX12_price 45 = .ok (.invokestatic 82, 3) := by decide +kernel
theorem dX12_price_48 : decode cX12_price 48 = .ok (.ifCond .ne 7, 3) := by decide +kernel
theorem dX12_price_51 : decode cX12_price 51 = .ok (.iconst 1, 1) := by decide +kernel
theorem dX12_price_52 : decode cX12_price 52 = .ok (.goto 4, 3) := by decide +kernel
theorem dX12_price_55 : decode cX12_price 55 = .ok (.iconst 0, 1) := by decide +kernel
theorem dX12_price_56 : decode cX12_price 56 = .ok (.iconst 1, 1) := by decide +kernel
theorem dX12_price_57 : decode cX12_price 57 = .ok (.invokevirtual 86, 3) := by decide +kernel
theorem dX12_price_60 : decode cX12_price 60 = .ok (.ifCond .eq 5, 3) := by decide +kernel
theorem dX12_price_63 : decode cX12_price 63 = .ok (.iconst 0, 1) := by decide +kernel
theorem dX12_price_64 : decode cX12_price 64 = .ok (.ireturn, 1) := by decide +kernel
theorem dX12_price_65 : decode cX12_price 65 = .ok (.iload_n 3, 1) := by decide +kernel
theorem dX12_price_66 : decode cX12_price 66 = .ok (.aload_n 0, 1) := by decide +kernel
theorem dX12_price_67 : decode cX12_price 67 = .ok (.iload_n 1, 1) := by decide +kernel
theorem dX12_price_68 : decode cX12_price 68 = .ok (.iload_n 2, 1) := by decide +kernel
theorem dX12_price_69 : decode cX12_price 69 = .ok (.iconst 1, 1) := by decide +kernel
theorem dX12_price_70 : decode cX12_price 70 = .ok (.invokevirtual 345, 3) := by decide +kernel
theorem dX12_price_73 : decode cX12_price 73 = .ok (.imul, 1) := by decide +kernel
theorem dX12_price_74 : decode cX12_price 74 = .ok (.iload 4, 2) := by decide +kernel
theorem dX12_price_76 : decode cX12_price 76 = .ok (.aload_n 0, 1) := by decide +kernel
theorem dX12_price_77 : decode cX12_price 77 = .ok (.iload_n 1, 1) := by decide +kernel
theorem dX12_price_78 : decode cX12_price 78 = .ok (.iload_n 2, 1) := by decide +kernel
theorem dX12_price_79 : decode cX12_price 79 = .ok (.iconst 0, 1) := by decide +kernel
theorem dX12_price_80 : decode cX12_price 80 = .ok (.invokevirtual 345, 3) := by decide +kernel
theorem dX12_price_83 : decode cX12_price 83 = .ok (.imul, 1) := by decide +kernel
theorem dX12_price_84 : decode cX12_price 84 = .ok (.isub, 1) := by decide +kernel
theorem dX12_price_85 : decode cX12_price 85 = .ok (.ireturn, 1) := by decide +kernel
theorem dX12_foul_0 : decode cX12_foul 0 = .ok (.aload_n 0, 1) := by decide +kernel
theorem dX12_foul_1 : decode cX12_foul 1 = .ok (.iconst 0, 1) := by decide +kernel
theorem dX12_foul_2 : decode cX12_foul 2 = .ok (.putfield 79, 3) := by decide +kernel
theorem dX12_foul_5 : decode cX12_foul 5 = .ok (.aload_n 0, 1) := by decide +kernel
theorem dX12_foul_6 : decode cX12_foul 6 = .ok (.iload_n 1, 1) := by decide +kernel
theorem dX12_foul_7 : decode cX12_foul 7 = .ok (.iconst 0, 1) := by decide +kernel
theorem dX12_foul_8 : decode cX12_foul 8 = .ok (.sipush 999, 3) := by decide +kernel
theorem dX12_foul_11 : decode cX12_foul 11 = .ok (.invokestatic 82, 3) := by decide +kernel
theorem dX12_foul_14 : decode cX12_foul 14 = .ok (.ifCond .eq 14, 3) := by decide +kernel
theorem dX12_foul_17 : decode cX12_foul 17 = .ok (.iload_n 2, 1) := by decide +kernel
theorem dX12_foul_18 : decode cX12_foul 18 = .ok (.iconst 0, 1) := by decide +kernel
theorem dX12_foul_19 : decode cX12_foul 19 = .ok (.sipush 999, 3) := by decide +kernel
theorem dX12_foul_22 : decode cX12_foul 22 = .ok (.invokestatic 82, 3) := by decide +kernel
theorem dX12_foul_25 : decode cX12_foul 25 = .ok (.ifCond .ne 7, 3) := by decide +kernel
theorem dX12_foul_28 : decode cX12_foul 28 = .ok (.iconst 1, 1) := by decide +kernel
theorem dX12_foul_29 : decode cX12_foul 29 = .ok (.goto 4, 3) := by decide +kernel
theorem dX12_foul_32 : decode cX12_foul 32 = .ok (.iconst 0, 1) := by decide +kernel
theorem dX12_foul_33 : decode cX12_foul 33 = .ok (.iconst 1, 1) := by decide +kernel
theorem dX12_foul_34 : decode cX12_foul 34 = .ok (.invokevirtual 86, 3) := by decide +kernel
theorem dX12_foul_37 : decode cX12_foul 37 = .ok (.ifCond .eq 5, 3) := by decide +kernel
theorem dX12_foul_40 : decode cX12_foul 40 = .ok (.iconst 0, 1) := by decide +kernel
theorem dX12_foul_41 : decode cX12_foul 41 = .ok (.ireturn, 1) := by decide +kernel
theorem dX12_foul_42 : decode cX12_foul 42 = .ok (.aload_n 0, 1) := by decide +kernel
theorem dX12_foul_43 : decode cX12_foul 43 = .ok (.getfield 349, 3) := by decide +kernel
theorem dX12_foul_46 : decode cX12_foul 46 = .ok (.bipush 8, 2) := by decide +kernel
theorem dX12_foul_48 : decode cX12_foul 48 = .ok (.if_icmp .ne 5, 3) := by decide +kernel
theorem dX12_foul_51 : decode cX12_foul 51 = .ok (.iconst (-1), 1) := by decide +kernel
theorem dX12_foul_52 : decode cX12_foul 52 = .ok (.ireturn, 1) := by decide +kernel
theorem dX12_foul_53 : decode cX12_foul 53 = .ok (.aload_n 0, 1) := by decide +kernel
theorem dX12_foul_54 : decode cX12_foul 54 = .ok (.getfield 349, 3) := by decide +kernel
theorem dX12_foul_57 : decode cX12_foul 57 = .ok (.ifCond .le 23, 3) := by decide +kernel
theorem dX12_foul_60 : decode cX12_foul 60 = .ok (.iload_n 1, 1) := by decide +kernel
theorem dX12_foul_61 : decode cX12_foul 61 = .ok (.aload_n 0, 1) := by decide +kernel
theorem dX12_foul_62 : decode cX12_foul 62 = .ok (.getfield 73, 3) := by decide +kernel
theorem dX12_foul_65 : decode cX12_foul 65 = .ok (.aload_n 0, 1) := by decide +kernel
theorem dX12_foul_66 : decode cX12_foul 66 = .ok (.getfield 349, 3) := by decide +kernel
theorem dX12_foul_69 : decode cX12_foul 69 = .ok (.iconst 1, 1) := by decide +kernel
theorem dX12_foul_70 : decode cX12_foul 70 = .ok (.isub, 1) := by decide +kernel
theorem dX12_foul_71 : decode cX12_foul 71 = .ok (.aaload, 1) := by decide +kernel
theorem dX12_foul_72 : decode cX12_foul 72 = .ok (.iconst 0, 1) := by decide +kernel
theorem dX12_foul_73 : decode cX12_foul 73 = .ok (.iaload, 1) := by decide +kernel
theorem dX12_foul_74 : decode cX12_foul 74 = .ok (.if_icmp .gt 6, 3) := by decide +kernel
theorem dX12_foul_77 : decode cX12_foul 77 = .ok (.bipush (-2), 2) := by decide +kernel
theorem dX12_foul_79 : decode cX12_foul 79 = .ok (.ireturn, 1) := by decide +kernel
theorem dX12_foul_80 : decode cX12_foul 80 = .ok (.aload_n 0, 1) := by decide +kernel
theorem dX12_foul_81 : decode cX12_foul 81 = .ok (.getfield 73, 3) := by decide +kernel
theorem dX12_foul_84 : decode cX12_foul 84 = .ok (.aload_n 0, 1) := by decide +kernel
theorem dX12_foul_85 : decode cX12_foul 85 = .ok (.getfield 349, 3) := by decide +kernel
theorem dX12_foul_88 : decode cX12_foul 88 = .ok (.aaload, 1) := by decide +kernel
theorem dX12_foul_89 : decode cX12_foul 89 = .ok (.iconst 0, 1) := by decide +kernel
theorem dX12_foul_90 : decode cX12_foul 90 = .ok (.iload_n 1, 1) := by decide +kernel
theorem dX12_foul_91 : decode cX12_foul 91 = .ok (.iastore, 1) := by decide +kernel
theorem dX12_foul_92 : decode cX12_foul 92 = .ok (.aload_n 0, 1) := by decide +kernel
theorem dX12_foul_93 : decode cX12_foul 93 = .ok (.getfield 73, 3) := by decide +kernel
theorem dX12_foul_96 : decode cX12_foul 96 = .ok (.aload_n 0, 1) := by decide +kernel
theorem dX12_foul_97 : decode cX12_foul 97 = .ok (.getfield 349, 3) := by decide +kernel
theorem dX12_foul_100 : decode cX12_foul 100 = .ok (.aaload, 1) := by decide +kernel
theorem dX12_foul_101 : decode cX12_foul 101 = .ok (.iconst 1, 1) := by decide +kernel
theorem dX12_foul_102 : decode cX12_foul 102 = .ok (.iload_n 2, 1) := by decide +kernel
theorem dX12_foul_103 : decode cX12_foul 103 = .ok (.iastore, 1) := by decide +kernel
theorem dX12_foul_104 : decode cX12_foul 104 = .ok (.aload_n 0, 1) := by decide +kernel
theorem dX12_foul_105 : decode cX12_foul 105 = .ok (.dup, 1) := by decide +kernel
theorem dX12_foul_106 : decode cX12_foul 106 = .ok (.getfield 349, 3) := by decide +kernel
theorem dX12_foul_109 : decode cX12_foul 109 = .ok (.iconst 1, 1) := by decide +kernel
theorem dX12_foul_110 : decode cX12_foul 110 = .ok (.iadd, 1) := by decide +kernel
theorem dX12_foul_111 : decode cX12_foul 111 = .ok (.putfield 349, 3) := by decide +kernel
theorem dX12_foul_114 : decode cX12_foul 114 = .ok (.aload_n 0, 1) := by decide +kernel
theorem dX12_foul_115 : decode cX12_foul 115 = .ok (.getfield 349, 3) := by decide +kernel
theorem dX12_foul_118 : decode cX12_foul 118 = .ok (.ireturn, 1) := by decide +kernel
theorem dX12_grown_0 : decode cX12_grown 0 = .ok (.aload_n 0, 1) := by decide +kernel
theorem dX12_grown_1 : decode cX12_grown 1 = .ok (.iconst 0, 1) := by decide +kernel
theorem dX12_grown_2 : decode cX12_grown 2 = .ok (.putfield 79, 3) := by decide +kernel
theorem dX12_grown_5 : decode cX12_grown 5 = .ok (.aload_n 0, 1) := by decide +kernel
theorem dX12_grown_6 : decode cX12_grown 6 = .ok (.iload_n 1, 1) := by decide +kernel
theorem dX12_grown_7 : decode cX12_grown 7 = .ok (.iconst 0, 1) := by decide +kernel
theorem dX12_grown_8 : decode cX12_grown 8 = .ok (.sipush 999, 3) := by decide +kernel
theorem dX12_grown_11 : decode cX12_grown 11 = .ok (.invokestatic 82, 3) := by decide +kernel
theorem dX12_grown_14 : decode cX12_grown 14 = .ok (.ifCond .ne 7, 3) := by decide +kernel
theorem dX12_grown_17 : decode cX12_grown 17 = .ok (.iconst 1, 1) := by decide +kernel
theorem dX12_grown_18 : decode cX12_grown 18 = .ok (.goto 4, 3) := by decide +kernel
theorem dX12_grown_21 : decode cX12_grown 21 = .ok (.iconst 0, 1) := by decide +kernel
theorem dX12_grown_22 : decode cX12_grown 22 = .ok (.iconst 1, 1) := by decide +kernel
theorem dX12_grown_23 : decode cX12_grown 23 = .ok (.invokevirtual 86, 3) := by decide +kernel
theorem dX12_grown_26 : decode cX12_grown 26 = .ok (.ifCond .eq 5, 3) := by decide +kernel
theorem dX12_grown_29 : decode cX12_grown 29 = .ok (.iconst 0, 1) := by decide +kernel
theorem dX12_grown_30 : decode cX12_grown 30 = .ok (.ireturn, 1) := by decide +kernel
theorem dX12_grown_31 : decode cX12_grown 31 = .ok (.aload_n 0, 1) := by decide +kernel
theorem dX12_grown_32 : decode cX12_grown 32 = .ok (.getfield 349, 3) := by decide +kernel
theorem dX12_grown_35 : decode cX12_grown 35 = .ok (.ifCond .ne 5, 3) := by decide +kernel
theorem dX12_grown_38 : decode cX12_grown 38 = .ok (.iconst 0, 1) := by decide +kernel
theorem dX12_grown_39 : decode cX12_grown 39 = .ok (.ireturn, 1) := by decide +kernel
theorem dX12_grown_40 : decode cX12_grown 40 = .ok (.iconst 0, 1) := by decide +kernel
theorem dX12_grown_41 : decode cX12_grown 41 = .ok (.istore_n 2, 1) := by decide +kernel
theorem dX12_grown_42 : decode cX12_grown 42 = .ok (.iload_n 2, 1) := by decide +kernel
theorem dX12_grown_43 : decode cX12_grown 43 = .ok (.aload_n 0, 1) := by decide +kernel
theorem dX12_grown_44 : decode cX12_grown 44 = .ok (.getfield 349, 3) := by decide +kernel
theorem dX12_grown_47 : decode cX12_grown 47 = .ok (.if_icmp .ge 21, 3) := by decide +kernel
theorem dX12_grown_50 : decode cX12_grown 50 = .ok (.aload_n 0, 1) := by decide +kernel
theorem dX12_grown_51 : decode cX12_grown 51 = .ok (.getfield 73, 3) := by decide +kernel
theorem dX12_grown_54 : decode cX12_grown 54 = .ok (.iload_n 2, 1) := by decide +kernel
theorem dX12_grown_55 : decode cX12_grown 55 = .ok (.aaload, 1) := by decide +kernel
theorem dX12_grown_56 : decode cX12_grown 56 = .ok (.iconst 0, 1) := by decide +kernel
theorem dX12_grown_57 : decode cX12_grown 57 = .ok (.iaload, 1) := by decide +kernel
theorem dX12_grown_58 : decode cX12_grown 58 = .ok (.iload_n 1, 1) := by decide +kernel
theorem dX12_grown_59 : decode cX12_grown 59 = .ok (.if_icmp .gt 9, 3) := by decide +kernel
theorem dX12_grown_62 : decode cX12_grown 62 = .ok (.iinc 2 1, 3) := by decide +kernel
theorem dX12_grown_65 : decode cX12_grown 65 = .ok (.goto (-23), 3) := by decide +kernel
theorem dX12_grown_68 : decode cX12_grown 68 = .ok (.iload_n 2, 1) := by decide +kernel
theorem dX12_grown_69 : decode cX12_grown 69 = .ok (.ifCond .ne 12, 3) := by decide +kernel
theorem dX12_grown_72 : decode cX12_grown 72 = .ok (.aload_n 0, 1) := by decide +kernel
theorem dX12_grown_73 : decode cX12_grown 73 = .ok (.getfield 73, 3) := by decide +kernel
theorem dX12_grown_76 : decode cX12_grown 76 = .ok (.iconst 0, 1) := by decide +kernel
theorem dX12_grown_77 : decode cX12_grown 77 = .ok (.aaload, 1) := by decide +kernel
theorem dX12_grown_78 : decode cX12_grown 78 = .ok (.iconst 1, 1) := by decide +kernel
theorem dX12_grown_79 : decode cX12_grown 79 = .ok (.iaload, 1) := by decide +kernel
theorem dX12_grown_80 : decode cX12_grown 80 = .ok (.ireturn, 1) := by decide +kernel
theorem dX12_grown_81 : decode cX12_grown 81 = .ok (.iload_n 2, 1) := by decide +kernel
theorem dX12_grown_82 : decode cX12_grown 82 = .ok (.aload_n 0, 1) := by decide +kernel
theorem dX12_grown_83 : decode cX12_grown 83 = .ok (.getfield 349, 3) := by decide +kernel
theorem dX12_grown_86 : decode cX12_grown 86 = .ok (.if_icmp .ne 17, 3) := by decide +kernel
theorem dX12_grown_89 : decode cX12_grown 89 = .ok (.aload_n 0, 1) := by decide +kernel
theorem dX12_grown_90 : decode cX12_grown 90 = .ok (.getfield 73, 3) := by decide +kernel
theorem dX12_grown_93 : decode cX12_grown 93 = .ok (.aload_n 0, 1) := by decide +kernel
theorem dX12_grown_94 : decode cX12_grown 94 = .ok (.getfield 349, 3) := by decide +kernel
theorem dX12_grown_97 : decode cX12_grown 97 = .ok (.iconst 1, 1) := by decide +kernel
theorem dX12_grown_98 : decode cX12_grown 98 = .ok (.isub, 1) := by decide +kernel
theorem dX12_grown_99 : decode cX12_grown 99 = .ok (.aaload, 1) := by decide +kernel
theorem dX12_grown_100 : decode cX12_grown 100 = .ok (.iconst 1, 1) := by decide +kernel
theorem dX12_grown_101 : decode cX12_grown 101 = .ok (.iaload, 1) := by decide +kernel
theorem dX12_grown_102 : decode cX12_grown 102 = .ok (.ireturn, 1) := by decide +kernel
theorem dX12_grown_103 : decode cX12_grown 103 = .ok (.aload_n 0, 1) := by decide +kernel
theorem dX12_grown_104 : decode cX12_grown 104 = .ok (.getfield 73, 3) := by decide +kernel
theorem dX12_grown_107 : decode cX12_grown 107 = .ok (.iload_n 2, 1) := by decide +kernel
theorem dX12_grown_108 : decode cX12_grown 108 = .ok (.iconst 1, 1) := by decide +kernel
theorem dX12_grown_109 : decode cX12_grown 109 = .ok (.isub, 1) := by decide +kernel
theorem dX12_grown_110 : decode cX12_grown 110 = .ok (.aaload, 1) := by decide +kernel
theorem dX12_grown_111 : decode cX12_grown 111 = .ok (.iconst 1, 1) := by decide +kernel
theorem dX12_grown_112 : decode cX12_grown 112 = .ok (.iaload, 1) := by decide +kernel
theorem dX12_grown_113 : decode cX12_grown 113 = .ok (.istore_n 3, 1) := by decide +kernel
theorem dX12_grown_114 : decode cX12_grown 114 = .ok (.aload_n 0, 1) := by decide +kernel
theorem dX12_grown_115 : decode cX12_grown 115 = .ok (.getfield 73, 3) := by decide +kernel
theorem dX12_grown_118 : decode cX12_grown 118 = .ok (.iload_n 2, 1) := by decide +kernel
theorem dX12_grown_119 : decode cX12_grown 119 = .ok (.aaload, 1) := by decide +kernel
theorem dX12_grown_120 : decode cX12_grown 120 = .ok (.iconst 1, 1) := by decide +kernel
theorem dX12_grown_121 : decode cX12_grown 121 = .ok (.iaload, 1) := by decide +kernel
theorem dX12_grown_122 : decode cX12_grown 122 = .ok (.istore 4, 2) := by decide +kernel
theorem dX12_grown_124 : decode cX12_grown 124 = .ok (.aload_n 0, 1) := by decide +kernel
theorem dX12_grown_125 : decode cX12_grown 125 = .ok (.getfield 73, 3) := by decide +kernel
theorem dX12_grown_128 : decode cX12_grown 128 = .ok (.iload_n 2, 1) := by decide +kernel
theorem dX12_grown_129 : decode cX12_grown 129 = .ok (.iconst 1, 1) := by decide +kernel
theorem dX12_grown_130 : decode cX12_grown 130 = .ok (.isub, 1) := by decide +kernel
theorem dX12_grown_131 : decode cX12_grown 131 = .ok (.aaload, 1) := by decide +kernel
theorem dX12_grown_132 : decode cX12_grown 132 = .ok (.iconst 0, 1) := by decide +kernel
theorem dX12_grown_133 : decode cX12_grown 133 = .ok (.iaload, 1) := by decide +kernel
theorem dX12_grown_134 : decode cX12_grown 134 = .ok (.istore 5, 2) := by decide +kernel
theorem dX12_grown_136 : decode cX12_grown 136 = .ok (.iload_n 3, 1) := by decide +kernel
theorem dX12_grown_137 : decode cX12_grown 137 = .ok (.iload 4, 2) := by decide +kernel
theorem dX12_grown_139 : decode cX12_grown 139 = .ok (.iload_n 3, 1) := by decide +kernel
theorem dX12_grown_140 : decode cX12_grown 140 = .ok (.isub, 1) := by decide +kernel
theorem dX12_grown_141 : decode cX12_grown 141 = .ok (.iload_n 1, 1) := by decide +kernel
theorem dX12_grown_142 : decode cX12_grown 142 = .ok (.iload 5, 2) := by decide +kernel
theorem dX12_grown_144 : decode cX12_grown 144 = .ok (.isub, 1) := by decide +kernel
theorem dX12_grown_145 : decode cX12_grown 145 = .ok (.imul, 1) := by decide +kernel
theorem dX12_grown_146 : decode cX12_grown 146 = .ok (.aload_n 0, 1) := by decide +kernel
theorem dX12_grown_147 : decode cX12_grown 147 = .ok (.getfield 73, 3) := by decide +kernel
theorem dX12_grown_150 : decode cX12_grown 150 = .ok (.iload_n 2, 1) := by decide +kernel
theorem dX12_grown_151 : decode cX12_grown 151 = .ok (.aaload, 1) := by decide +kernel
theorem dX12_grown_152 : decode cX12_grown 152 = .ok (.iconst 0, 1) := by decide +kernel
theorem dX12_grown_153 : decode cX12_grown 153 = .ok (.iaload, 1) := by decide +kernel
theorem dX12_grown_154 : decode cX12_grown 154 = .ok (.iload 5, 2) := by decide +kernel
theorem dX12_grown_156 : decode cX12_grown 156 = .ok (.isub, 1) := by decide +kernel
theorem dX12_grown_157 : decode cX12_grown 157 = .ok (.idiv, 1) := by decide +kernel
theorem dX12_grown_158 : decode cX12_grown 158 = .ok (.iadd, 1) := by decide +kernel
theorem dX12_grown_159 : decode cX12_grown 159 = .ok (.ireturn, 1) := by decide +kernel
theorem dX12_moves_0 : decode cX12_moves 0 = .ok (.iload_n 3, 1) := by decide +kernel
theorem dX12_moves_1 : decode cX12_moves 1 = .ok (.ifCond .ne 15, 3) := by decide +kernel
theorem dX12_moves_4 : decode cX12_moves 4 = .ok (.aload_n 0, 1) := by decide +kernel
theorem dX12_moves_5 : decode cX12_moves 5 = .ok (.getfield 76, 3) := by decide +kernel
theorem dX12_moves_8 : decode cX12_moves 8 = .ok (.iload_n 1, 1) := by decide +kernel
theorem dX12_moves_9 : decode cX12_moves 9 = .ok (.aaload, 1) := by decide +kernel
theorem dX12_moves_10 : decode cX12_moves 10 = .ok (.aload_n 0, 1) := by decide +kernel
theorem dX12_moves_11 : decode cX12_moves 11 = .ok (.getfield 352, 3) := by decide +kernel
theorem dX12_moves_14 : decode cX12_moves 14 = .ok (.iload_n 2, 1) := by decide +kernel
theorem dX12_moves_15 : decode cX12_moves 15 = .ok (.iastore, 1) := by decide +kernel
theorem dX12_moves_16 : decode cX12_moves 16 = .ok (.aload_n 0, 1) := by decide +kernel
theorem dX12_moves_17 : decode cX12_moves 17 = .ok (.dup, 1) := by decide +kernel
theorem dX12_moves_18 : decode cX12_moves 18 = .ok (.getfield 352, 3) := by decide +kernel
theorem dX12_moves_21 : decode cX12_moves 21 = .ok (.iconst 1, 1) := by decide +kernel
theorem dX12_moves_22 : decode cX12_moves 22 = .ok (.iadd, 1) := by decide +kernel
theorem dX12_moves_23 : decode cX12_moves 23 = .ok (.putfield 352, 3) := by decide +kernel
theorem dX12_moves_26 : decode cX12_moves 26 = .ok (.aload_n 0, 1) := by decide +kernel
theorem dX12_moves_27 : decode cX12_moves 27 = .ok (.getfield 76, 3) := by decide +kernel
theorem dX12_moves_30 : decode cX12_moves 30 = .ok (.iload_n 1, 1) := by decide +kernel
theorem dX12_moves_31 : decode cX12_moves 31 = .ok (.aaload, 1) := by decide +kernel
theorem dX12_moves_32 : decode cX12_moves 32 = .ok (.aload_n 0, 1) := by decide +kernel
theorem dX12_moves_33 : decode cX12_moves 33 = .ok (.getfield 352, 3) := by decide +kernel
theorem dX12_moves_36 : decode cX12_moves 36 = .ok (.iconst 1, 1) := by decide +kernel
theorem dX12_moves_37 : decode cX12_moves 37 = .ok (.isub, 1) := by decide +kernel
theorem dX12_moves_38 : decode cX12_moves 38 = .ok (.iaload, 1) := by decide +kernel
theorem dX12_moves_39 : decode cX12_moves 39 = .ok (.ireturn, 1) := by decide +kernel
theorem dX12_movesRow_0 : decode cX12_movesRow 0 = .ok (.iconst 0, 1) := by decide +kernel
theorem dX12_movesRow_1 : decode cX12_movesRow 1 = .ok (.istore 4, 2) := by decide +kernel
theorem dX12_movesRow_3 : decode cX12_movesRow 3 = .ok (.iload 4, 2) := by decide +kernel
theorem dX12_movesRow_5 : decode cX12_movesRow 5 = .ok (.aload_n 2, 1) := by decide +kernel
theorem dX12_movesRow_6 : decode cX12_movesRow 6 = .ok (.arraylength, 1) := by decide +kernel
theorem dX12_movesRow_7 : decode cX12_movesRow 7 = .ok (.if_icmp .ge 23, 3) := by decide +kernel
theorem dX12_movesRow_10 : decode cX12_movesRow 10 = .ok (.aload_n 2, 1) := by decide +kernel
theorem dX12_movesRow_11 : decode cX12_movesRow 11 = .ok (.iload 4, 2) := by decide +kernel
theorem dX12_movesRow_13 : decode cX12_movesRow 13 = .ok (.aload_n 0, 1) := by decide +kernel
theorem dX12_movesRow_14 : decode cX12_movesRow 14 = .ok (.iload_n 1, 1) := by decide +kernel
theorem dX12_movesRow_15 : decode cX12_movesRow 15 = .ok (.aload_n 2, 1) := by decide +kernel
theorem dX12_movesRow_16 : decode cX12_movesRow 16 = .ok (.iload 4, 2) := by decide +kernel
theorem dX12_movesRow_18 : decode cX12_movesRow 18 = .ok (.iaload, 1) := by decide +kernel
theorem dX12_movesRow_19 : decode cX12_movesRow 19 = .ok (.iload_n 3, 1) := by decide +kernel
theorem dX12_movesRow_20 : decode cX12_movesRow 20 = .ok (.invokevirtual 355, 3) := by decide +kernel
theorem dX12_movesRow_23 : decode cX12_movesRow 23 = .ok (.iastore, 1) := by decide +kernel
theorem dX12_movesRow_24 : decode cX12_movesRow 24 = .ok (.iinc 4 1, 3) := by decide +kernel
theorem dX12_movesRow_27 : decode cX12_movesRow 27 = .ok (.goto (-24), 3) := by decide +kernel
theorem dX12_movesRow_30 : decode cX12_movesRow 30 = .ok (.return_, 1) := by decide +kernel
theorem dX12_movesAll_0 : decode cX12_movesAll 0 = .ok (.aload_n 0, 1) := by decide +kernel
theorem dX12_movesAll_1 : decode cX12_movesAll 1 = .ok (.iconst 0, 1) := by decide +kernel
theorem dX12_movesAll_2 : decode cX12_movesAll 2 = .ok (.putfield 352, 3) := by decide +kernel
theorem dX12_movesAll_5 : decode cX12_movesAll 5 = .ok (.aload_n 0, 1) := by decide +kernel
theorem dX12_movesAll_6 : decode cX12_movesAll 6 = .ok (.aload_n 0, 1) := by decide +kernel
theorem dX12_movesAll_7 : decode cX12_movesAll 7 = .ok (.iload_n 1, 1) := by decide +kernel
theorem dX12_movesAll_8 : decode cX12_movesAll 8 = .ok (.aload_n 0, 1) := by decide +kernel
theorem dX12_movesAll_9 : decode cX12_movesAll 9 = .ok (.getfield 90, 3) := by decide +kernel
theorem dX12_movesAll_12 : decode cX12_movesAll 12 = .ok (.iload_n 2, 1) := by decide +kernel
theorem dX12_movesAll_13 : decode cX12_movesAll 13 = .ok (.invokevirtual 355, 3) := by decide +kernel
theorem dX12_movesAll_16 : decode cX12_movesAll 16 = .ok (.putfield 90, 3) := by decide +kernel
theorem dX12_movesAll_19 : decode cX12_movesAll 19 = .ok (.aload_n 0, 1) := by decide +kernel
theorem dX12_movesAll_20 : decode cX12_movesAll 20 = .ok (.aload_n 0, 1) := by decide +kernel
theorem dX12_movesAll_21 : decode cX12_movesAll 21 = .ok (.iload_n 1, 1) := by decide +kernel
theorem dX12_movesAll_22 : decode cX12_movesAll 22 = .ok (.aload_n 0, 1) := by decide +kernel
theorem dX12_movesAll_23 : decode cX12_movesAll 23 = .ok (.getfield 105, 3) := by decide +kernel
theorem dX12_movesAll_26 : decode cX12_movesAll 26 = .ok (.iload_n 2, 1) := by decide +kernel
theorem dX12_movesAll_27 : decode cX12_movesAll 27 = .ok (.invokevirtual 355, 3) := by decide +kernel
theorem dX12_movesAll_30 : decode cX12_movesAll 30 = .ok (.putfield 105, 3) := by decide +kernel
theorem dX12_movesAll_33 : decode cX12_movesAll 33 = .ok (.aload_n 0, 1) := by decide +kernel
theorem dX12_movesAll_34 : decode cX12_movesAll 34 = .ok (.aload_n 0, 1) := by decide +kernel
theorem dX12_movesAll_35 : decode cX12_movesAll 35 = .ok (.iload_n 1, 1) := by decide +kernel
theorem dX12_movesAll_36 : decode cX12_movesAll 36 = .ok (.aload_n 0, 1) := by decide +kernel
theorem dX12_movesAll_37 : decode cX12_movesAll 37 = .ok (.getfield 287, 3) := by decide +kernel
theorem dX12_movesAll_40 : decode cX12_movesAll 40 = .ok (.iload_n 2, 1) := by decide +kernel
theorem dX12_movesAll_41 : decode cX12_movesAll 41 = .ok (.invokevirtual 355, 3) := by decide +kernel
theorem dX12_movesAll_44 : decode cX12_movesAll 44 = .ok (.putfield 287, 3) := by decide +kernel
theorem dX12_movesAll_47 : decode cX12_movesAll 47 = .ok (.aload_n 0, 1) := by decide +kernel
theorem dX12_movesAll_48 : decode cX12_movesAll 48 = .ok (.aload_n 0, 1) := by decide +kernel
theorem dX12_movesAll_49 : decode cX12_movesAll 49 = .ok (.iload_n 1, 1) := by decide +kernel
theorem dX12_movesAll_50 : decode cX12_movesAll 50 = .ok (.aload_n 0, 1) := by decide +kernel
theorem dX12_movesAll_51 : decode cX12_movesAll 51 = .ok (.getfield 300, 3) := by decide +kernel
theorem dX12_movesAll_54 : decode cX12_movesAll 54 = .ok (.iload_n 2, 1) := by decide +kernel
theorem dX12_movesAll_55 : decode cX12_movesAll 55 = .ok (.invokevirtual 355, 3) := by decide +kernel
theorem dX12_movesAll_58 : decode cX12_movesAll 58 = .ok (.putfield 300, 3) := by decide +kernel
theorem dX12_movesAll_61 : decode cX12_movesAll 61 = .ok (.aload_n 0, 1) := by decide +kernel
theorem dX12_movesAll_62 : decode cX12_movesAll 62 = .ok (.aload_n 0, 1) := by decide +kernel
theorem dX12_movesAll_63 : decode cX12_movesAll 63 = .ok (.iload_n 1, 1) := by decide +kernel
theorem dX12_movesAll_64 : decode cX12_movesAll 64 = .ok (.aload_n 0, 1) := by decide +kernel
theorem dX12_movesAll_65 : decode cX12_movesAll 65 = .ok (.getfield 338, 3) := by decide +kernel
theorem dX12_movesAll_68 : decode cX12_movesAll 68 = .ok (.iload_n 2, 1) := by decide +kernel
theorem dX12_movesAll_69 : decode cX12_movesAll 69 = .ok (.invokevirtual 355, 3) := by decide +kernel
theorem dX12_movesAll_72 : decode cX12_movesAll 72 = .ok (.putfield 338, 3) := by decide +kernel
theorem dX12_movesAll_75 : decode cX12_movesAll 75 = .ok (.aload_n 0, 1) := by decide +kernel
theorem dX12_movesAll_76 : decode cX12_movesAll 76 = .ok (.aload_n 0, 1) := by decide +kernel
theorem dX12_movesAll_77 : decode cX12_movesAll 77 = .ok (.iload_n 1, 1) := by decide +kernel
theorem dX12_movesAll_78 : decode cX12_movesAll 78 = .ok (.aload_n 0, 1) := by decide +kernel
theorem dX12_movesAll_79 : decode cX12_movesAll 79 = .ok (.getfield 349, 3) := by decide +kernel
theorem dX12_movesAll_82 : decode cX12_movesAll 82 = .ok (.iload_n 2, 1) := by decide +kernel
theorem dX12_movesAll_83 : decode cX12_movesAll 83 = .ok (.invokevirtual 355, 3) := by decide +kernel
theorem dX12_movesAll_86 : decode cX12_movesAll 86 = .ok (.putfield 349, 3) := by decide +kernel
theorem dX12_movesAll_89 : decode cX12_movesAll 89 = .ok (.aload_n 0, 1) := by decide +kernel
theorem dX12_movesAll_90 : decode cX12_movesAll 90 = .ok (.aload_n 0, 1) := by decide +kernel
theorem dX12_movesAll_91 : decode cX12_movesAll 91 = .ok (.iload_n 1, 1) := by decide +kernel
theorem dX12_movesAll_92 : decode cX12_movesAll 92 = .ok (.aload_n 0, 1) := by decide +kernel
theorem dX12_movesAll_93 : decode cX12_movesAll 93 = .ok (.getfield 55, 3) := by decide +kernel
theorem dX12_movesAll_96 : decode cX12_movesAll 96 = .ok (.iload_n 2, 1) := by decide +kernel
theorem dX12_movesAll_97 : decode cX12_movesAll 97 = .ok (.invokevirtual 355, 3) := by decide +kernel
theorem dX12_movesAll_100 : decode cX12_movesAll 100 = .ok (.putfield 55, 3) := by decide +kernel
theorem dX12_movesAll_103 : decode cX12_movesAll 103 = .ok (.aload_n 0, 1) := by decide +kernel
theorem dX12_movesAll_104 : decode cX12_movesAll 104 = .ok (.iload_n 1, 1) := by decide +kernel
theorem dX12_movesAll_105 : decode cX12_movesAll 105 = .ok (.aload_n 0, 1) := by decide +kernel
theorem dX12_movesAll_106 : decode cX12_movesAll 106 = .ok (.getfield 34, 3) := by decide +kernel
theorem dX12_movesAll_109 : decode cX12_movesAll 109 = .ok (.iload_n 2, 1) := by decide +kernel
theorem dX12_movesAll_110 : decode cX12_movesAll 110 = .ok (.invokevirtual 358, 3) := by decide +kernel
theorem dX12_movesAll_113 : decode cX12_movesAll 113 = .ok (.aload_n 0, 1) := by decide +kernel
theorem dX12_movesAll_114 : decode cX12_movesAll 114 = .ok (.iload_n 1, 1) := by decide +kernel
theorem dX12_movesAll_115 : decode cX12_movesAll 115 = .ok (.aload_n 0, 1) := by decide +kernel
theorem dX12_movesAll_116 : decode cX12_movesAll 116 = .ok (.getfield 37, 3) := by decide +kernel
theorem dX12_movesAll_119 : decode cX12_movesAll 119 = .ok (.iload_n 2, 1) := by decide +kernel
theorem dX12_movesAll_120 : decode cX12_movesAll 120 = .ok (.invokevirtual 358, 3) := by decide +kernel
theorem dX12_movesAll_123 : decode cX12_movesAll 123 = .ok (.aload_n 0, 1) := by decide +kernel
theorem dX12_movesAll_124 : decode cX12_movesAll 124 = .ok (.iload_n 1, 1) := by decide +kernel
theorem dX12_movesAll_125 : decode cX12_movesAll 125 = .ok (.aload_n 0, 1) := by decide +kernel
theorem dX12_movesAll_126 : decode cX12_movesAll 126 = .ok (.getfield 46, 3) := by decide +kernel
theorem dX12_movesAll_129 : decode cX12_movesAll 129 = .ok (.iload_n 2, 1) := by decide +kernel
theorem dX12_movesAll_130 : decode cX12_movesAll 130 = .ok (.invokevirtual 358, 3) := by decide +kernel
theorem dX12_movesAll_133 : decode cX12_movesAll 133 = .ok (.aload_n 0, 1) := by decide +kernel
theorem dX12_movesAll_134 : decode cX12_movesAll 134 = .ok (.iload_n 1, 1) := by decide +kernel
theorem dX12_movesAll_135 : decode cX12_movesAll 135 = .ok (.aload_n 0, 1) := by decide +kernel
theorem dX12_movesAll_136 : decode cX12_movesAll 136 = .ok (.getfield 49, 3) := by decide +kernel
theorem dX12_movesAll_139 : decode cX12_movesAll 139 = .ok (.iload_n 2, 1) := by decide +kernel
theorem dX12_movesAll_140 : decode cX12_movesAll 140 = .ok (.invokevirtual 358, 3) := by decide +kernel
theorem dX12_movesAll_143 : decode cX12_movesAll 143 = .ok (.aload_n 0, 1) := by decide +kernel
theorem dX12_movesAll_144 : decode cX12_movesAll 144 = .ok (.iload_n 1, 1) := by decide +kernel
theorem dX12_movesAll_145 : decode cX12_movesAll 145 = .ok (.aload_n 0, 1) := by decide +kernel
theorem dX12_movesAll_146 : decode cX12_movesAll 146 = .ok (.getfield 52, 3) := by decide +kernel
theorem dX12_movesAll_149 : decode cX12_movesAll 149 = .ok (.iload_n 2, 1) := by decide +kernel
theorem dX12_movesAll_150 : decode cX12_movesAll 150 = .ok (.invokevirtual 358, 3) := by decide +kernel
theorem dX12_movesAll_153 : decode cX12_movesAll 153 = .ok (.aload_n 0, 1) := by decide +kernel
theorem dX12_movesAll_154 : decode cX12_movesAll 154 = .ok (.iload_n 1, 1) := by decide +kernel
theorem dX12_movesAll_155 : decode cX12_movesAll 155 = .ok (.aload_n 0, 1) := by decide +kernel
theorem dX12_movesAll_156 : decode cX12_movesAll 156 = .ok (.getfield 61, 3) := by decide +kernel
theorem dX12_movesAll_159 : decode cX12_movesAll 159 = .ok (.iload_n 2, 1) := by decide +kernel
theorem dX12_movesAll_160 : decode cX12_movesAll 160 = .ok (.invokevirtual 358, 3) := by decide +kernel
theorem dX12_movesAll_163 : decode cX12_movesAll 163 = .ok (.aload_n 0, 1) := by decide +kernel
theorem dX12_movesAll_164 : decode cX12_movesAll 164 = .ok (.iload_n 1, 1) := by decide +kernel
theorem dX12_movesAll_165 : decode cX12_movesAll 165 = .ok (.aload_n 0, 1) := by decide +kernel
theorem dX12_movesAll_166 : decode cX12_movesAll 166 = .ok (.getfield 64, 3) := by decide +kernel
theorem dX12_movesAll_169 : decode cX12_movesAll 169 = .ok (.iload_n 2, 1) := by decide +kernel
theorem dX12_movesAll_170 : decode cX12_movesAll 170 = .ok (.invokevirtual 358, 3) := by decide +kernel
theorem dX12_movesAll_173 : decode cX12_movesAll 173 = .ok (.iconst 0, 1) := by decide +kernel
theorem dX12_movesAll_174 : decode cX12_movesAll 174 = .ok (.istore_n 3, 1) := by decide +kernel
theorem dX12_movesAll_175 : decode cX12_movesAll 175 = .ok (.iload_n 3, 1) := by decide +kernel
theorem dX12_movesAll_176 : decode cX12_movesAll 176 = .ok (.bipush 6, 2) := by decide +kernel
theorem dX12_movesAll_178 : decode cX12_movesAll 178 = .ok (.if_icmp .ge 33, 3) := by decide +kernel
theorem dX12_movesAll_181 : decode cX12_movesAll 181 = .ok (.aload_n 0, 1) := by decide +kernel
theorem dX12_movesAll_182 : decode cX12_movesAll 182 = .ok (.iload_n 1, 1) := by decide +kernel
theorem dX12_movesAll_183 : decode cX12_movesAll 183 = .ok (.aload_n 0, 1) := by decide +kernel
theorem dX12_movesAll_184 : decode cX12_movesAll 184 = .ok (.getfield 40, 3) := by decide +kernel
theorem dX12_movesAll_187 : decode cX12_movesAll 187 = .ok (.iload_n 3, 1) := by decide +kernel
theorem dX12_movesAll_188 : decode cX12_movesAll 188 = .ok (.aaload, 1) := by decide +kernel
theorem dX12_movesAll_189 : decode cX12_movesAll 189 = .ok (.iload_n 2, 1) := by decide +kernel
theorem dX12_movesAll_190 : decode cX12_movesAll 190 = .ok (.invokevirtual 358, 3) := by decide +kernel
theorem dX12_movesAll_193 : decode cX12_movesAll 193 = .ok (.aload_n 0, 1) := by decide +kernel
theorem dX12_movesAll_194 : decode cX12_movesAll 194 = .ok (.iload_n 1, 1) := by decide +kernel
theorem dX12_movesAll_195 : decode cX12_movesAll 195 = .ok (.aload_n 0, 1) := by decide +kernel
theorem dX12_movesAll_196 : decode cX12_movesAll 196 = .ok (.getfield 43, 3) := by decide +kernel
theorem dX12_movesAll_199 : decode cX12_movesAll 199 = .ok (.iload_n 3, 1) := by decide +kernel
theorem dX12_movesAll_200 : decode cX12_movesAll 200 = .ok (.aaload, 1) := by decide +kernel
theorem dX12_movesAll_201 : decode cX12_movesAll 201 = .ok (.iload_n 2, 1) := by decide +kernel
theorem dX12_movesAll_202 : decode cX12_movesAll 202 = .ok (.invokevirtual 358, 3) := by decide +kernel
theorem dX12_movesAll_205 : decode cX12_movesAll 205 = .ok (.iinc 3 1, 3) := by decide +kernel
theorem dX12_movesAll_208 : decode cX12_movesAll 208 = .ok (.goto (-33), 3) := by decide +kernel
theorem dX12_movesAll_211 : decode cX12_movesAll 211 = .ok (.iconst 0, 1) := by decide +kernel
theorem dX12_movesAll_212 : decode cX12_movesAll 212 = .ok (.istore_n 3, 1) := by decide +kernel
theorem dX12_movesAll_213 : decode cX12_movesAll 213 = .ok (.iload_n 3, 1) := by decide +kernel
theorem dX12_movesAll_214 : decode cX12_movesAll 214 = .ok (.bipush 60, 2) := by decide +kernel
theorem dX12_movesAll_216 : decode cX12_movesAll 216 = .ok (.if_icmp .ge 21, 3) := by decide +kernel
theorem dX12_movesAll_219 : decode cX12_movesAll 219 = .ok (.aload_n 0, 1) := by decide +kernel
theorem dX12_movesAll_220 : decode cX12_movesAll 220 = .ok (.iload_n 1, 1) := by decide +kernel
theorem dX12_movesAll_221 : decode cX12_movesAll 221 = .ok (.aload_n 0, 1) := by decide +kernel
theorem dX12_movesAll_222 : decode cX12_movesAll 222 = .ok (.getfield 58, 3) := by decide +kernel
theorem dX12_movesAll_225 : decode cX12_movesAll 225 = .ok (.iload_n 3, 1) := by decide +kernel
theorem dX12_movesAll_226 : decode cX12_movesAll 226 = .ok (.aaload, 1) := by decide +kernel
theorem dX12_movesAll_227 : decode cX12_movesAll 227 = .ok (.iload_n 2, 1) := by decide +kernel
theorem dX12_movesAll_228 : decode cX12_movesAll 228 = .ok (.invokevirtual 358, 3) := by decide +kernel
theorem dX12_movesAll_231 : decode cX12_movesAll 231 = .ok (.iinc 3 1, 3) := by decide +kernel
theorem dX12_movesAll_234 : decode cX12_movesAll 234 = .ok (.goto (-21), 3) := by decide +kernel
theorem dX12_movesAll_237 : decode cX12_movesAll 237 = .ok (.iconst 0, 1) := by decide +kernel
theorem dX12_movesAll_238 : decode cX12_movesAll 238 = .ok (.istore_n 3, 1) := by decide +kernel
theorem dX12_movesAll_239 : decode cX12_movesAll 239 = .ok (.iload_n 3, 1) := by decide +kernel
theorem dX12_movesAll_240 : decode cX12_movesAll 240 = .ok (.bipush 6, 2) := by decide +kernel
theorem dX12_movesAll_242 : decode cX12_movesAll 242 = .ok (.if_icmp .ge 21, 3) := by decide +kernel
theorem dX12_movesAll_245 : decode cX12_movesAll 245 = .ok (.aload_n 0, 1) := by decide +kernel
theorem dX12_movesAll_246 : decode cX12_movesAll 246 = .ok (.iload_n 1, 1) := by decide +kernel
theorem dX12_movesAll_247 : decode cX12_movesAll 247 = .ok (.aload_n 0, 1) := by decide +kernel
theorem dX12_movesAll_248 : decode cX12_movesAll 248 = .ok (.getfield 70, 3) := by decide +kernel
theorem dX12_movesAll_251 : decode cX12_movesAll 251 = .ok (.iload_n 3, 1) := by decide +kernel
theorem dX12_movesAll_252 : decode cX12_movesAll 252 = .ok (.aaload, 1) := by decide +kernel
theorem dX12_movesAll_253 : decode cX12_movesAll 253 = .ok (.iload_n 2, 1) := by decide +kernel
theorem dX12_movesAll_254 : decode cX12_movesAll 254 = .ok (.invokevirtual 358, 3) := by decide +kernel
theorem dX12_movesAll_257 : decode cX12_movesAll 257 = .ok (.iinc 3 1, 3) := by decide +kernel
theorem dX12_movesAll_260 : decode cX12_movesAll 260 = .ok (.goto (-21), 3) := by decide +kernel
theorem dX12_movesAll_263 : decode cX12_movesAll 263 = .ok (.iconst 0, 1) := by decide +kernel
theorem dX12_movesAll_264 : decode cX12_movesAll 264 = .ok (.istore_n 3, 1) := by decide +kernel
theorem dX12_movesAll_265 : decode cX12_movesAll 265 = .ok (.iload_n 3, 1) := by decide +kernel
theorem dX12_movesAll_266 : decode cX12_movesAll 266 = .ok (.bipush 8, 2) := by decide +kernel
theorem dX12_movesAll_268 : decode cX12_movesAll 268 = .ok (.if_icmp .ge 21, 3) := by decide +kernel
theorem dX12_movesAll_271 : decode cX12_movesAll 271 = .ok (.aload_n 0, 1) := by decide +kernel
theorem dX12_movesAll_272 : decode cX12_movesAll 272 = .ok (.iload_n 1, 1) := by decide +kernel
theorem dX12_movesAll_273 : decode cX12_movesAll 273 = .ok (.aload_n 0, 1) := by decide +kernel
theorem dX12_movesAll_274 : decode cX12_movesAll 274 = .ok (.getfield 73, 3) := by decide +kernel
theorem dX12_movesAll_277 : decode cX12_movesAll 277 = .ok (.iload_n 3, 1) := by decide +kernel
theorem dX12_movesAll_278 : decode cX12_movesAll 278 = .ok (.aaload, 1) := by decide +kernel
theorem dX12_movesAll_279 : decode cX12_movesAll 279 = .ok (.iload_n 2, 1) := by decide +kernel
theorem dX12_movesAll_280 : decode cX12_movesAll 280 = .ok (.invokevirtual 358, 3) := by decide +kernel
theorem dX12_movesAll_283 : decode cX12_movesAll 283 = .ok (.iinc 3 1, 3) := by decide +kernel
theorem dX12_movesAll_286 : decode cX12_movesAll 286 = .ok (.goto (-21), 3) := by decide +kernel
theorem dX12_movesAll_289 : decode cX12_movesAll 289 = .ok (.return_, 1) := by decide +kernel
theorem dX12_image_0 : decode cX12_image 0 = .ok (.aload_n 0, 1) := by decide +kernel
theorem dX12_image_1 : decode cX12_image 1 = .ok (.iconst 0, 1) := by decide +kernel
theorem dX12_image_2 : decode cX12_image 2 = .ok (.putfield 79, 3) := by decide +kernel
theorem dX12_image_5 : decode cX12_image 5 = .ok (.aload_n 0, 1) := by decide +kernel
theorem dX12_image_6 : decode cX12_image 6 = .ok (.getfield 362, 3) := by decide +kernel
theorem dX12_image_9 : decode cX12_image 9 = .ok (.iconst 3, 1) := by decide +kernel
theorem dX12_image_10 : decode cX12_image 10 = .ok (.if_icmp .ne 5, 3) := by decide +kernel
theorem dX12_image_13 : decode cX12_image 13 = .ok (.iconst (-1), 1) := by decide +kernel
theorem dX12_image_14 : decode cX12_image 14 = .ok (.ireturn, 1) := by decide +kernel
theorem dX12_image_15 : decode cX12_image 15 = .ok (.aload_n 0, 1) := by decide +kernel
theorem dX12_image_16 : decode cX12_image 16 = .ok (.aload_n 0, 1) := by decide +kernel
theorem dX12_image_17 : decode cX12_image 17 = .ok (.getfield 362, 3) := by decide +kernel
theorem dX12_image_20 : decode cX12_image 20 = .ok (.iconst 0, 1) := by decide +kernel
theorem dX12_image_21 : decode cX12_image 21 = .ok (.invokevirtual 365, 3) := by decide +kernel
theorem dX12_image_24 : decode cX12_image 24 = .ok (.aload_n 0, 1) := by decide +kernel
theorem dX12_image_25 : decode cX12_image 25 = .ok (.dup, 1) := by decide +kernel
theorem dX12_image_26 : decode cX12_image 26 = .ok (.getfield 362, 3) := by decide +kernel
theorem dX12_image_29 : decode cX12_image 29 = .ok (.iconst 1, 1) := by decide +kernel
theorem dX12_image_30 : decode cX12_image 30 = .ok (.iadd, 1) := by decide +kernel
theorem dX12_image_31 : decode cX12_image 31 = .ok (.putfield 362, 3) := by decide +kernel
theorem dX12_image_34 : decode cX12_image 34 = .ok (.aload_n 0, 1) := by decide +kernel
theorem dX12_image_35 : decode cX12_image 35 = .ok (.getfield 362, 3) := by decide +kernel
theorem dX12_image_38 : decode cX12_image 38 = .ok (.ireturn, 1) := by decide +kernel
theorem dX12_restore_0 : decode cX12_restore 0 = .ok (.aload_n 0, 1) := by decide +kernel
theorem dX12_restore_1 : decode cX12_restore 1 = .ok (.iconst 0, 1) := by decide +kernel
theorem dX12_restore_2 : decode cX12_restore 2 = .ok (.putfield 79, 3) := by decide +kernel
theorem dX12_restore_5 : decode cX12_restore 5 = .ok (.aload_n 0, 1) := by decide +kernel
theorem dX12_restore_6 : decode cX12_restore 6 = .ok (.getfield 362, 3) := by decide +kernel
theorem dX12_restore_9 : decode cX12_restore 9 = .ok (.ifCond .ne 5, 3) := by decide +kernel
theorem dX12_restore_12 : decode cX12_restore 12 = .ok (.iconst (-1), 1) := by decide +kernel
theorem dX12_restore_13 : decode cX12_restore 13 = .ok (.ireturn, 1) := by decide +kernel
theorem dX12_restore_14 : decode cX12_restore 14 = .ok (.aload_n 0, 1) := by decide +kernel
theorem dX12_restore_15 : decode cX12_restore 15 = .ok (.dup, 1) := by decide +kernel
theorem dX12_restore_16 : decode cX12_restore 16 = .ok (.getfield 362, 3) := by decide +kernel
theorem dX12_restore_19 : decode cX12_restore 19 = .ok (.iconst 1, 1) := by decide +kernel
theorem dX12_restore_20 : decode cX12_restore 20 = .ok (.isub, 1) := by decide +kernel
theorem dX12_restore_21 : decode cX12_restore 21 = .ok (.putfield 362, 3) := by decide +kernel
theorem dX12_restore_24 : decode cX12_restore 24 = .ok (.aload_n 0, 1) := by decide +kernel
theorem dX12_restore_25 : decode cX12_restore 25 = .ok (.aload_n 0, 1) := by decide +kernel
theorem dX12_restore_26 : decode cX12_restore 26 = .ok (.getfield 362, 3) := by decide +kernel
theorem dX12_restore_29 : decode cX12_restore 29 = .ok (.iconst 1, 1) := by decide +kernel
theorem dX12_restore_30 : decode cX12_restore 30 = .ok (.invokevirtual 365, 3) := by decide +kernel
theorem dX12_restore_33 : decode cX12_restore 33 = .ok (.aload_n 0, 1) := by decide +kernel
theorem dX12_restore_34 : decode cX12_restore 34 = .ok (.getfield 362, 3) := by decide +kernel
theorem dX12_restore_37 : decode cX12_restore 37 = .ok (.ireturn, 1) := by decide +kernel
theorem dX12_count_0 : decode cX12_count 0 = .ok (.aload_n 0, 1) := by decide +kernel
theorem dX12_count_1 : decode cX12_count 1 = .ok (.iconst 0, 1) := by decide +kernel
theorem dX12_count_2 : decode cX12_count 2 = .ok (.putfield 79, 3) := by decide +kernel
theorem dX12_count_5 : decode cX12_count 5 = .ok (.iload_n 1, 1) := by decide +kernel
theorem dX12_count_6 : decode cX12_count 6 = .ok (.tableswitch 113 0 10 #[58, 63, 68, 73, 78, 83, 88, 93, 98, 103, 108], 58) := by decide +kernel
theorem dX12_count_64 : decode cX12_count 64 = .ok (.aload_n 0, 1) := by decide +kernel
theorem dX12_count_65 : decode cX12_count 65 = .ok (.getfield 90, 3) := by decide +kernel
theorem dX12_count_68 : decode cX12_count 68 = .ok (.ireturn, 1) := by decide +kernel
theorem dX12_count_69 : decode cX12_count 69 = .ok (.aload_n 0, 1) := by decide +kernel
theorem dX12_count_70 : decode cX12_count 70 = .ok (.getfield 105, 3) := by decide +kernel
theorem dX12_count_73 : decode cX12_count 73 = .ok (.ireturn, 1) := by decide +kernel
theorem dX12_count_74 : decode cX12_count 74 = .ok (.aload_n 0, 1) := by decide +kernel
theorem dX12_count_75 : decode cX12_count 75 = .ok (.getfield 223, 3) := by decide +kernel
theorem dX12_count_78 : decode cX12_count 78 = .ok (.ireturn, 1) := by decide +kernel
theorem dX12_count_79 : decode cX12_count 79 = .ok (.aload_n 0, 1) := by decide +kernel
theorem dX12_count_80 : decode cX12_count 80 = .ok (.getfield 220, 3) := by decide +kernel
theorem dX12_count_83 : decode cX12_count 83 = .ok (.ireturn, 1) := by decide +kernel
theorem dX12_count_84 : decode cX12_count 84 = .ok (.aload_n 0, 1) := by decide +kernel
theorem dX12_count_85 : decode cX12_count 85 = .ok (.getfield 287, 3) := by decide +kernel
theorem dX12_count_88 : decode cX12_count 88 = .ok (.ireturn, 1) := by decide +kernel
theorem dX12_count_89 : decode cX12_count 89 = .ok (.aload_n 0, 1) := by decide +kernel
theorem dX12_count_90 : decode cX12_count 90 = .ok (.getfield 300, 3) := by decide +kernel
theorem dX12_count_93 : decode cX12_count 93 = .ok (.ireturn, 1) := by decide +kernel
theorem dX12_count_94 : decode cX12_count 94 = .ok (.aload_n 0, 1) := by decide +kernel
theorem dX12_count_95 : decode cX12_count 95 = .ok (.getfield 338, 3) := by decide +kernel
theorem dX12_count_98 : decode cX12_count 98 = .ok (.ireturn, 1) := by decide +kernel
theorem dX12_count_99 : decode cX12_count 99 = .ok (.aload_n 0, 1) := by decide +kernel
theorem dX12_count_100 : decode cX12_count 100 = .ok (.getfield 349, 3) := by decide +kernel
theorem dX12_count_103 : decode cX12_count 103 = .ok (.ireturn, 1) := by decide +kernel
theorem dX12_count_104 : decode cX12_count 104 = .ok (.aload_n 0, 1) := by decide +kernel
theorem dX12_count_105 : decode cX12_count 105 = .ok (.getfield 362, 3) := by decide +kernel
theorem dX12_count_108 : decode cX12_count 108 = .ok (.ireturn, 1) := by decide +kernel
theorem dX12_count_109 : decode cX12_count 109 = .ok (.aload_n 0, 1) := by decide +kernel
theorem dX12_count_110 : decode cX12_count 110 = .ok (.getfield 108, 3) := by decide +kernel
theorem dX12_count_113 : decode cX12_count 113 = .ok (.ireturn, 1) := by decide +kernel
theorem dX12_count_114 : decode cX12_count 114 = .ok (.aload_n 0, 1) := by decide +kernel
theorem dX12_count_115 : decode cX12_count 115 = .ok (.getfield 55, 3) := by decide +kernel
theorem dX12_count_118 : decode cX12_count 118 = .ok (.ireturn, 1) := by decide +kernel
theorem dX12_count_119 : decode cX12_count 119 = .ok (.iconst (-1), 1) := by decide +kernel
theorem dX12_count_120 : decode cX12_count 120 = .ok (.ireturn, 1) := by decide +kernel
theorem dJ6_bitCount_0f7a4_0 : decode cJ6_bitCount_0f7a4 0 = .ok (.iload_n 0, 1) := by decide +kernel
theorem dJ6_bitCount_0f7a4_1 : decode cJ6_bitCount_0f7a4 1 = .ok (.iload_n 0, 1) := by decide +kernel
theorem dJ6_bitCount_0f7a4_2 : decode cJ6_bitCount_0f7a4 2 = .ok (.iconst 1, 1) := by decide +kernel
theorem dJ6_bitCount_0f7a4_3 : decode cJ6_bitCount_0f7a4 3 = .ok (.iushr, 1) := by decide +kernel
theorem dJ6_bitCount_0f7a4_4 : decode cJ6_bitCount_0f7a4 4 = .ok (.ldc_w 265, 3) := by decide +kernel
theorem dJ6_bitCount_0f7a4_7 : decode cJ6_bitCount_0f7a4 7 = .ok (.iand, 1) := by decide +kernel
theorem dJ6_bitCount_0f7a4_8 : decode cJ6_bitCount_0f7a4 8 = .ok (.isub, 1) := by decide +kernel
theorem dJ6_bitCount_0f7a4_9 : decode cJ6_bitCount_0f7a4 9 = .ok (.istore_n 0, 1) := by decide +kernel
theorem dJ6_bitCount_0f7a4_10 : decode cJ6_bitCount_0f7a4 10 = .ok (.iload_n 0, 1) := by decide +kernel
theorem dJ6_bitCount_0f7a4_11 : decode cJ6_bitCount_0f7a4 11 = .ok (.ldc_w 266, 3) := by decide +kernel
theorem dJ6_bitCount_0f7a4_14 : decode cJ6_bitCount_0f7a4 14 = .ok (.iand, 1) := by decide +kernel
theorem dJ6_bitCount_0f7a4_15 : decode cJ6_bitCount_0f7a4 15 = .ok (.iload_n 0, 1) := by decide +kernel
theorem dJ6_bitCount_0f7a4_16 : decode cJ6_bitCount_0f7a4 16 = .ok (.iconst 2, 1) := by decide +kernel
theorem dJ6_bitCount_0f7a4_17 : decode cJ6_bitCount_0f7a4 17 = .ok (.iushr, 1) := by decide +kernel
theorem dJ6_bitCount_0f7a4_18 : decode cJ6_bitCount_0f7a4 18 = .ok (.ldc_w 266, 3) := by decide +kernel
theorem dJ6_bitCount_0f7a4_21 : decode cJ6_bitCount_0f7a4 21 = .ok (.iand, 1) := by decide +kernel
theorem dJ6_bitCount_0f7a4_22 : decode cJ6_bitCount_0f7a4 22 = .ok (.iadd, 1) := by decide +kernel
theorem dJ6_bitCount_0f7a4_23 : decode cJ6_bitCount_0f7a4 23 = .ok (.istore_n 0, 1) := by decide +kernel
theorem dJ6_bitCount_0f7a4_24 : decode cJ6_bitCount_0f7a4 24 = .ok (.iload_n 0, 1) := by decide +kernel
theorem dJ6_bitCount_0f7a4_25 : decode cJ6_bitCount_0f7a4 25 = .ok (.iload_n 0, 1) := by decide +kernel
theorem dJ6_bitCount_0f7a4_26 : decode cJ6_bitCount_0f7a4 26 = .ok (.iconst 4, 1) := by decide +kernel
theorem dJ6_bitCount_0f7a4_27 : decode cJ6_bitCount_0f7a4 27 = .ok (.iushr, 1) := by decide +kernel
theorem dJ6_bitCount_0f7a4_28 : decode cJ6_bitCount_0f7a4 28 = .ok (.iadd, 1) := by decide +kernel
theorem dJ6_bitCount_0f7a4_29 : decode cJ6_bitCount_0f7a4 29 = .ok (.ldc_w 267, 3) := by decide +kernel
theorem dJ6_bitCount_0f7a4_32 : decode cJ6_bitCount_0f7a4 32 = .ok (.iand, 1) := by decide +kernel
theorem dJ6_bitCount_0f7a4_33 : decode cJ6_bitCount_0f7a4 33 = .ok (.istore_n 0, 1) := by decide +kernel
theorem dJ6_bitCount_0f7a4_34 : decode cJ6_bitCount_0f7a4 34 = .ok (.iload_n 0, 1) := by decide +kernel
theorem dJ6_bitCount_0f7a4_35 : decode cJ6_bitCount_0f7a4 35 = .ok (.iload_n 0, 1) := by decide +kernel
theorem dJ6_bitCount_0f7a4_36 : decode cJ6_bitCount_0f7a4 36 = .ok (.bipush 8, 2) := by decide +kernel
theorem dJ6_bitCount_0f7a4_38 : decode cJ6_bitCount_0f7a4 38 = .ok (.iushr, 1) := by decide +kernel
theorem dJ6_bitCount_0f7a4_39 : decode cJ6_bitCount_0f7a4 39 = .ok (.iadd, 1) := by decide +kernel
theorem dJ6_bitCount_0f7a4_40 : decode cJ6_bitCount_0f7a4 40 = .ok (.istore_n 0, 1) := by decide +kernel
theorem dJ6_bitCount_0f7a4_41 : decode cJ6_bitCount_0f7a4 41 = .ok (.iload_n 0, 1) := by decide +kernel
theorem dJ6_bitCount_0f7a4_42 : decode cJ6_bitCount_0f7a4 42 = .ok (.iload_n 0, 1) := by decide +kernel
theorem dJ6_bitCount_0f7a4_43 : decode cJ6_bitCount_0f7a4 43 = .ok (.bipush 16, 2) := by decide +kernel
theorem dJ6_bitCount_0f7a4_45 : decode cJ6_bitCount_0f7a4 45 = .ok (.iushr, 1) := by decide +kernel
theorem dJ6_bitCount_0f7a4_46 : decode cJ6_bitCount_0f7a4 46 = .ok (.iadd, 1) := by decide +kernel
theorem dJ6_bitCount_0f7a4_47 : decode cJ6_bitCount_0f7a4 47 = .ok (.istore_n 0, 1) := by decide +kernel
theorem dJ6_bitCount_0f7a4_48 : decode cJ6_bitCount_0f7a4 48 = .ok (.iload_n 0, 1) := by decide +kernel
theorem dJ6_bitCount_0f7a4_49 : decode cJ6_bitCount_0f7a4 49 = .ok (.bipush 63, 2) := by decide +kernel
theorem dJ6_bitCount_0f7a4_51 : decode cJ6_bitCount_0f7a4 51 = .ok (.iand, 1) := by decide +kernel
theorem dJ6_bitCount_0f7a4_52 : decode cJ6_bitCount_0f7a4 52 = .ok (.ireturn, 1) := by decide +kernel
theorem dJ9_max_7cf53_0 : decode cJ9_max_7cf53 0 = .ok (.iload_n 0, 1) := by decide +kernel
theorem dJ9_max_7cf53_1 : decode cJ9_max_7cf53 1 = .ok (.iload_n 1, 1) := by decide +kernel
theorem dJ9_max_7cf53_2 : decode cJ9_max_7cf53 2 = .ok (.if_icmp .lt 7, 3) := by decide +kernel
theorem dJ9_max_7cf53_5 : decode cJ9_max_7cf53 5 = .ok (.iload_n 0, 1) := by decide +kernel
theorem dJ9_max_7cf53_6 : decode cJ9_max_7cf53 6 = .ok (.goto 4, 3) := by decide +kernel
theorem dJ9_max_7cf53_9 : decode cJ9_max_7cf53 9 = .ok (.iload_n 1, 1) := by decide +kernel
theorem dJ9_max_7cf53_10 : decode cJ9_max_7cf53 10 = .ok (.ireturn, 1) := by decide +kernel
theorem dJ9_max_f86c9_0 : decode cJ9_max_f86c9 0 = .ok (.lload_n 0, 1) := by decide +kernel
theorem dJ9_max_f86c9_1 : decode cJ9_max_f86c9 1 = .ok (.lload_n 2, 1) := by decide +kernel
theorem dJ9_max_f86c9_2 : decode cJ9_max_f86c9 2 = .ok (.lcmp, 1) := by decide +kernel
theorem dJ9_max_f86c9_3 : decode cJ9_max_f86c9 3 = .ok (.ifCond .lt 7, 3) := by decide +kernel
theorem dJ9_max_f86c9_6 : decode cJ9_max_f86c9 6 = .ok (.lload_n 0, 1) := by decide +kernel
theorem dJ9_max_f86c9_7 : decode cJ9_max_f86c9 7 = .ok (.goto 4, 3) := by decide +kernel
theorem dJ9_max_f86c9_10 : decode cJ9_max_f86c9 10 = .ok (.lload_n 2, 1) := by decide +kernel
theorem dJ9_max_f86c9_11 : decode cJ9_max_f86c9 11 = .ok (.lreturn, 1) := by decide +kernel
theorem dJ9_min_7cf53_0 : decode cJ9_min_7cf53 0 = .ok (.iload_n 0, 1) := by decide +kernel
theorem dJ9_min_7cf53_1 : decode cJ9_min_7cf53 1 = .ok (.iload_n 1, 1) := by decide +kernel
theorem dJ9_min_7cf53_2 : decode cJ9_min_7cf53 2 = .ok (.if_icmp .gt 7, 3) := by decide +kernel
theorem dJ9_min_7cf53_5 : decode cJ9_min_7cf53 5 = .ok (.iload_n 0, 1) := by decide +kernel
theorem dJ9_min_7cf53_6 : decode cJ9_min_7cf53 6 = .ok (.goto 4, 3) := by decide +kernel
theorem dJ9_min_7cf53_9 : decode cJ9_min_7cf53 9 = .ok (.iload_n 1, 1) := by decide +kernel
theorem dJ9_min_7cf53_10 : decode cJ9_min_7cf53 10 = .ok (.ireturn, 1) := by decide +kernel
theorem dJ9_min_f86c9_0 : decode cJ9_min_f86c9 0 = .ok (.lload_n 0, 1) := by decide +kernel
theorem dJ9_min_f86c9_1 : decode cJ9_min_f86c9 1 = .ok (.lload_n 2, 1) := by decide +kernel
theorem dJ9_min_f86c9_2 : decode cJ9_min_f86c9 2 = .ok (.lcmp, 1) := by decide +kernel
theorem dJ9_min_f86c9_3 : decode cJ9_min_f86c9 3 = .ok (.ifCond .gt 7, 3) := by decide +kernel
theorem dJ9_min_f86c9_6 : decode cJ9_min_f86c9 6 = .ok (.lload_n 0, 1) := by decide +kernel
theorem dJ9_min_f86c9_7 : decode cJ9_min_f86c9 7 = .ok (.goto 4, 3) := by decide +kernel
theorem dJ9_min_f86c9_10 : decode cJ9_min_f86c9 10 = .ok (.lload_n 2, 1) := by decide +kernel
theorem dJ9_min_f86c9_11 : decode cJ9_min_f86c9 11 = .ok (.lreturn, 1) := by decide +kernel
theorem dJ0_length_8abf5_0 : decode cJ0_length_8abf5 0 = .ok (.aload_n 0, 1) := by decide +kernel
theorem dJ0_length_8abf5_1 : decode cJ0_length_8abf5 1 = .ok (.getfield 9, 3) := by decide +kernel
theorem dJ0_length_8abf5_4 : decode cJ0_length_8abf5 4 = .ok (.arraylength, 1) := by decide +kernel
theorem dJ0_length_8abf5_5 : decode cJ0_length_8abf5 5 = .ok (.aload_n 0, 1) := by decide +kernel
theorem dJ0_length_8abf5_6 : decode cJ0_length_8abf5 6 = .ok (.invokevirtual 335, 3) := by decide +kernel
theorem dJ0_length_8abf5_9 : decode cJ0_length_8abf5 9 = .ok (.ishr, 1) := by decide +kernel
theorem dJ0_length_8abf5_10 : decode cJ0_length_8abf5 10 = .ok (.ireturn, 1) := by decide +kernel
theorem dJ0_charAt_5068e_0 : decode cJ0_charAt_5068e 0 = .ok (.aload_n 0, 1) := by decide +kernel
theorem dJ0_charAt_5068e_1 : decode cJ0_charAt_5068e 1 = .ok (.invokevirtual 492, 3) := by decide +kernel
theorem dJ0_charAt_5068e_4 : decode cJ0_charAt_5068e 4 = .ok (.ifCond .eq 12, 3) := by decide +kernel
theorem dJ0_charAt_5068e_7 : decode cJ0_charAt_5068e 7 = .ok (.aload_n 0, 1) := by decide +kernel
theorem dJ0_charAt_5068e_8 : decode cJ0_charAt_5068e 8 = .ok (.getfield 9, 3) := by decide +kernel
theorem dJ0_charAt_5068e_11 : decode cJ0_charAt_5068e 11 = .ok (.iload_n 1, 1) := by decide +kernel
theorem dJ0_charAt_5068e_12 : decode cJ0_charAt_5068e 12 = .ok (.invokestatic 495, 3) := by decide +kernel
theorem dJ0_charAt_5068e_15 : decode cJ0_charAt_5068e 15 = .ok (.ireturn, 1) := by decide +kernel
theorem dJ0_charAt_5068e_16 : decode cJ0_charAt_5068e 16 = .ok (.aload_n 0, 1) := by decide +kernel
theorem dJ0_charAt_5068e_17 : decode cJ0_charAt_5068e 17 = .ok (.getfield 9, 3) := by decide +kernel
theorem dJ0_charAt_5068e_20 : decode cJ0_charAt_5068e 20 = .ok (.iload_n 1, 1) := by decide +kernel
theorem dJ0_charAt_5068e_21 : decode cJ0_charAt_5068e 21 = .ok (.invokestatic 498, 3) := by decide +kernel
theorem dJ0_charAt_5068e_24 : decode cJ0_charAt_5068e 24 = .ok (.ireturn, 1) := by decide +kernel
theorem dJ0_coder_7d493_0 : decode cJ0_coder_7d493 0 = .ok (.getstatic 38, 3) := by decide +kernel
theorem dJ0_coder_7d493_3 : decode cJ0_coder_7d493 3 = .ok (.ifCond .eq 10, 3) := by decide +kernel
theorem dJ0_coder_7d493_6 : decode cJ0_coder_7d493 6 = .ok (.aload_n 0, 1) := by decide +kernel
theorem dJ0_coder_7d493_7 : decode cJ0_coder_7d493 7 = .ok (.getfield 15, 3) := by decide +kernel
theorem dJ0_coder_7d493_10 : decode cJ0_coder_7d493 10 = .ok (.goto 4, 3) := by decide +kernel
theorem dJ0_coder_7d493_13 : decode cJ0_coder_7d493 13 = .ok (.iconst 1, 1) := by decide +kernel
theorem dJ0_coder_7d493_14 : decode cJ0_coder_7d493 14 = .ok (.ireturn, 1) := by decide +kernel
theorem dJ0_isLatin1_aae02_0 : decode cJ0_isLatin1_aae02 0 = .ok (.getstatic 38, 3) := by decide +kernel
theorem dJ0_isLatin1_aae02_3 : decode cJ0_isLatin1_aae02 3 = .ok (.ifCond .eq 14, 3) := by decide +kernel
theorem dJ0_isLatin1_aae02_6 : decode cJ0_isLatin1_aae02 6 = .ok (.aload_n 0, 1) := by decide +kernel
theorem dJ0_isLatin1_aae02_7 : decode cJ0_isLatin1_aae02 7 = .ok (.getfield 15, 3) := by decide +kernel
theorem dJ0_isLatin1_aae02_10 : decode cJ0_isLatin1_aae02 10 = .ok (.ifCond .ne 7, 3) := by decide +kernel
theorem dJ0_isLatin1_aae02_13 : decode cJ0_isLatin1_aae02 13 = .ok (.iconst 1, 1) := by decide +kernel
theorem dJ0_isLatin1_aae02_14 : decode cJ0_isLatin1_aae02 14 = .ok (.goto 4, 3) := by decide +kernel
theorem dJ0_isLatin1_aae02_17 : decode cJ0_isLatin1_aae02 17 = .ok (.iconst 0, 1) := by decide +kernel
theorem dJ0_isLatin1_aae02_18 : decode cJ0_isLatin1_aae02 18 = .ok (.ireturn, 1) := by decide +kernel
theorem dJ0_checkIndex_df160_0 : decode cJ0_checkIndex_df160 0 = .ok (.iload_n 0, 1) := by decide +kernel
theorem dJ0_checkIndex_df160_1 : decode cJ0_checkIndex_df160 1 = .ok (.iload_n 1, 1) := by decide +kernel
theorem dJ0_checkIndex_df160_2 : decode cJ0_checkIndex_df160 2 = .ok (.getstatic 1053, 3) := by decide +kernel
theorem dJ0_checkIndex_df160_5 : decode cJ0_checkIndex_df160 5 = .ok (.invokestatic 1059, 3) := by decide +kernel
theorem dJ0_checkIndex_df160_8 : decode cJ0_checkIndex_df160 8 = .ok (.pop, 1) := by decide +kernel
theorem dJ0_checkIndex_df160_9 : decode cJ0_checkIndex_df160 9 = .ok (.return_, 1) := by decide +kernel
theorem dJ1_charAt_3b067_0 : decode cJ1_charAt_3b067 0 = .ok (.iload_n 1, 1) := by decide +kernel
theorem dJ1_charAt_3b067_1 : decode cJ1_charAt_3b067 1 = .ok (.aload_n 0, 1) := by decide +kernel
theorem dJ1_charAt_3b067_2 : decode cJ1_charAt_3b067 2 = .ok (.arraylength, 1) := by decide +kernel
theorem dJ1_charAt_3b067_3 : decode cJ1_charAt_3b067 3 = .ok (.invokestatic 9, 3) := by decide +kernel
theorem dJ1_charAt_3b067_6 : decode cJ1_charAt_3b067 6 = .ok (.aload_n 0, 1) := by decide +kernel
theorem dJ1_charAt_3b067_7 : decode cJ1_charAt_3b067 7 = .ok (.iload_n 1, 1) := by decide +kernel
theorem dJ1_charAt_3b067_8 : decode cJ1_charAt_3b067 8 = .ok (.baload, 1) := by decide +kernel
theorem dJ1_charAt_3b067_9 : decode cJ1_charAt_3b067 9 = .ok (.sipush 255, 3) := by decide +kernel
theorem dJ1_charAt_3b067_12 : decode cJ1_charAt_3b067 12 = .ok (.iand, 1) := by decide +kernel
theorem dJ1_charAt_3b067_13 : decode cJ1_charAt_3b067 13 = .ok (.i2c, 1) := by decide +kernel
theorem dJ1_charAt_3b067_14 : decode cJ1_charAt_3b067 14 = .ok (.ireturn, 1) := by decide +kernel
theorem dJ2_getChar_3b067_0 : decode cJ2_getChar_3b067 0 = .ok (.getstatic 44, 3) := by decide +kernel
theorem dJ2_getChar_3b067_3 : decode cJ2_getChar_3b067 3 = .ok (.ifCond .ne 25, 3) := by decide +kernel
theorem dJ2_getChar_3b067_6 : decode cJ2_getChar_3b067 6 = .ok (.iload_n 1, 1) := by decide +kernel
theorem dJ2_getChar_3b067_7 : decode cJ2_getChar_3b067 7 = .ok (.ifCond .lt 11, 3) := by decide +kernel
theorem dJ2_getChar_3b067_10 : decode cJ2_getChar_3b067 10 = .ok (.iload_n 1, 1) := by decide +kernel
theorem dJ2_getChar_3b067_11 : decode cJ2_getChar_3b067 11 = .ok (.aload_n 0, 1) := by decide +kernel
theorem dJ2_getChar_3b067_12 : decode cJ2_getChar_3b067 12 = .ok (.invokestatic 48, 3) := by decide +kernel
theorem dJ2_getChar_3b067_15 : decode cJ2_getChar_3b067 15 = .ok (.if_icmp .lt 13, 3) := by decide +kernel
theorem dJ2_getChar_3b067_18 : decode cJ2_getChar_3b067 18 = .ok (.new 52, 3) := by decide +kernel
theorem dJ2_getChar_3b067_21 : decode cJ2_getChar_3b067 21 = .ok (.dup, 1) := by decide +kernel
theorem dJ2_getChar_3b067_22 : decode cJ2_getChar_3b067 22 = .ok (.ldc 54, 2) := by decide +kernel
theorem dJ2_getChar_3b067_24 : decode cJ2_getChar_3b067 24 = .ok (.invokespecial 56, 3) := by decide +kernel
theorem dJ2_getChar_3b067_27 : decode cJ2_getChar_3b067 27 = .ok (.athrow, 1) := by decide +kernel
theorem dJ2_getChar_3b067_28 : decode cJ2_getChar_3b067 28 = .ok (.iload_n 1, 1) := by decide +kernel
theorem dJ2_getChar_3b067_29 : decode cJ2_getChar_3b067 29 = .ok (.iconst 1, 1) := by decide +kernel
theorem dJ2_getChar_3b067_30 : decode cJ2_getChar_3b067 30 = .ok (.ishl, 1) := by decide +kernel
theorem dJ2_getChar_3b067_31 : decode cJ2_getChar_3b067 31 = .ok (.istore_n 1, 1) := by decide +kernel
theorem dJ2_getChar_3b067_32 : decode cJ2_getChar_3b067 32 = .ok (.aload_n 0, 1) := by decide +kernel
theorem dJ2_getChar_3b067_33 : decode cJ2_getChar_3b067 33 = .ok (.iload_n 1, 1) := by decide +kernel
theorem dJ2_getChar_3b067_34 : decode cJ2_getChar_3b067 34 = .ok (.iinc 1 1, 3) := by decide +kernel
theorem dJ2_getChar_3b067_37 : decode cJ2_getChar_3b067 37 = .ok (.baload, 1) := by decide +kernel
theorem dJ2_getChar_3b067_38 : decode cJ2_getChar_3b067 38 = .ok (.sipush 255, 3) := by decide +kernel
theorem dJ2_getChar_3b067_41 : decode cJ2_getChar_3b067 41 = .ok (.iand, 1) := by decide +kernel
theorem dJ2_getChar_3b067_42 : decode cJ2_getChar_3b067 42 = .ok (.getstatic 59, 3) := by decide +kernel
theorem dJ2_getChar_3b067_45 : decode cJ2_getChar_3b067 45 = .ok (.ishl, 1) := by decide +kernel
theorem dJ2_getChar_3b067_46 : decode cJ2_getChar_3b067 46 = .ok (.aload_n 0, 1) := by decide +kernel
theorem dJ2_getChar_3b067_47 : decode cJ2_getChar_3b067 47 = .ok (.iload_n 1, 1) := by decide +kernel
theorem dJ2_getChar_3b067_48 : decode cJ2_getChar_3b067 48 = .ok (.baload, 1) := by decide +kernel
theorem dJ2_getChar_3b067_49 : decode cJ2_getChar_3b067 49 = .ok (.sipush 255, 3) := by decide +kernel
theorem dJ2_getChar_3b067_52 : decode cJ2_getChar_3b067 52 = .ok (.iand, 1) := by decide +kernel
theorem dJ2_getChar_3b067_53 : decode cJ2_getChar_3b067 53 = .ok (.getstatic 63, 3) := by decide +kernel
theorem dJ2_getChar_3b067_56 : decode cJ2_getChar_3b067 56 = .ok (.ishl, 1) := by decide +kernel
theorem dJ2_getChar_3b067_57 : decode cJ2_getChar_3b067 57 = .ok (.ior, 1) := by decide +kernel
theorem dJ2_getChar_3b067_58 : decode cJ2_getChar_3b067 58 = .ok (.i2c, 1) := by decide +kernel
theorem dJ2_getChar_3b067_59 : decode cJ2_getChar_3b067 59 = .ok (.ireturn, 1) := by decide +kernel
theorem dJ2_length_9d52b_0 : decode cJ2_length_9d52b 0 = .ok (.aload_n 0, 1) := by decide +kernel
theorem dJ2_length_9d52b_1 : decode cJ2_length_9d52b 1 = .ok (.arraylength, 1) := by decide +kernel
theorem dJ2_length_9d52b_2 : decode cJ2_length_9d52b 2 = .ok (.iconst 1, 1) := by decide +kernel
theorem dJ2_length_9d52b_3 : decode cJ2_length_9d52b 3 = .ok (.ishr, 1) := by decide +kernel
theorem dJ2_length_9d52b_4 : decode cJ2_length_9d52b 4 = .ok (.ireturn, 1) := by decide +kernel
theorem dJ2_charAt_3b067_0 : decode cJ2_charAt_3b067 0 = .ok (.iload_n 1, 1) := by decide +kernel
theorem dJ2_charAt_3b067_1 : decode cJ2_charAt_3b067 1 = .ok (.aload_n 0, 1) := by decide +kernel
theorem dJ2_charAt_3b067_2 : decode cJ2_charAt_3b067 2 = .ok (.invokestatic 67, 3) := by decide +kernel
theorem dJ2_charAt_3b067_5 : decode cJ2_charAt_3b067 5 = .ok (.aload_n 0, 1) := by decide +kernel
theorem dJ2_charAt_3b067_6 : decode cJ2_charAt_3b067 6 = .ok (.iload_n 1, 1) := by decide +kernel
theorem dJ2_charAt_3b067_7 : decode cJ2_charAt_3b067 7 = .ok (.invokestatic 71, 3) := by decide +kernel
theorem dJ2_charAt_3b067_10 : decode cJ2_charAt_3b067 10 = .ok (.ireturn, 1) := by decide +kernel
theorem dJ2_checkIndex_2214a_0 : decode cJ2_checkIndex_2214a 0 = .ok (.iload_n 0, 1) := by decide +kernel
theorem dJ2_checkIndex_2214a_1 : decode cJ2_checkIndex_2214a 1 = .ok (.aload_n 1, 1) := by decide +kernel
theorem dJ2_checkIndex_2214a_2 : decode cJ2_checkIndex_2214a 2 = .ok (.invokestatic 48, 3) := by decide +kernel
theorem dJ2_checkIndex_2214a_5 : decode cJ2_checkIndex_2214a 5 = .ok (.invokestatic 414, 3) := by decide +kernel
theorem dJ2_checkIndex_2214a_8 : decode cJ2_checkIndex_2214a 8 = .ok (.return_, 1) := by decide +kernel
theorem dJ7_fill_d0a16_0 : decode cJ7_fill_d0a16 0 = .ok (.iconst 0, 1) := by decide +kernel
theorem dJ7_fill_d0a16_1 : decode cJ7_fill_d0a16 1 = .ok (.istore_n 3, 1) := by decide +kernel
theorem dJ7_fill_d0a16_2 : decode cJ7_fill_d0a16 2 = .ok (.aload_n 0, 1) := by decide +kernel
theorem dJ7_fill_d0a16_3 : decode cJ7_fill_d0a16 3 = .ok (.arraylength, 1) := by decide +kernel
theorem dJ7_fill_d0a16_4 : decode cJ7_fill_d0a16 4 = .ok (.istore 4, 2) := by decide +kernel
theorem dJ7_fill_d0a16_6 : decode cJ7_fill_d0a16 6 = .ok (.iload_n 3, 1) := by decide +kernel
theorem dJ7_fill_d0a16_7 : decode cJ7_fill_d0a16 7 = .ok (.iload 4, 2) := by decide +kernel
theorem dJ7_fill_d0a16_9 : decode cJ7_fill_d0a16 9 = .ok (.if_icmp .ge 13, 3) := by decide +kernel
theorem dJ7_fill_d0a16_12 : decode cJ7_fill_d0a16 12 = .ok (.aload_n 0, 1) := by decide +kernel
theorem dJ7_fill_d0a16_13 : decode cJ7_fill_d0a16 13 = .ok (.iload_n 3, 1) := by decide +kernel
theorem dJ7_fill_d0a16_14 : decode cJ7_fill_d0a16 14 = .ok (.lload_n 1, 1) := by decide +kernel
theorem dJ7_fill_d0a16_15 : decode cJ7_fill_d0a16 15 = .ok (.lastore, 1) := by decide +kernel
theorem dJ7_fill_d0a16_16 : decode cJ7_fill_d0a16 16 = .ok (.iinc 3 1, 3) := by decide +kernel
theorem dJ7_fill_d0a16_19 : decode cJ7_fill_d0a16 19 = .ok (.goto (-13), 3) := by decide +kernel
theorem dJ7_fill_d0a16_22 : decode cJ7_fill_d0a16 22 = .ok (.return_, 1) := by decide +kernel
theorem dJ7_fill_53178_0 : decode cJ7_fill_53178 0 = .ok (.iconst 0, 1) := by decide +kernel
theorem dJ7_fill_53178_1 : decode cJ7_fill_53178 1 = .ok (.istore_n 2, 1) := by decide +kernel
theorem dJ7_fill_53178_2 : decode cJ7_fill_53178 2 = .ok (.aload_n 0, 1) := by decide +kernel
theorem dJ7_fill_53178_3 : decode cJ7_fill_53178 3 = .ok (.arraylength, 1) := by decide +kernel
theorem dJ7_fill_53178_4 : decode cJ7_fill_53178 4 = .ok (.istore_n 3, 1) := by decide +kernel
theorem dJ7_fill_53178_5 : decode cJ7_fill_53178 5 = .ok (.iload_n 2, 1) := by decide +kernel
theorem dJ7_fill_53178_6 : decode cJ7_fill_53178 6 = .ok (.iload_n 3, 1) := by decide +kernel
theorem dJ7_fill_53178_7 : decode cJ7_fill_53178 7 = .ok (.if_icmp .ge 13, 3) := by decide +kernel
theorem dJ7_fill_53178_10 : decode cJ7_fill_53178 10 = .ok (.aload_n 0, 1) := by decide +kernel
theorem dJ7_fill_53178_11 : decode cJ7_fill_53178 11 = .ok (.iload_n 2, 1) := by decide +kernel
theorem dJ7_fill_53178_12 : decode cJ7_fill_53178 12 = .ok (.iload_n 1, 1) := by decide +kernel
theorem dJ7_fill_53178_13 : decode cJ7_fill_53178 13 = .ok (.iastore, 1) := by decide +kernel
theorem dJ7_fill_53178_14 : decode cJ7_fill_53178 14 = .ok (.iinc 2 1, 3) := by decide +kernel
theorem dJ7_fill_53178_17 : decode cJ7_fill_53178 17 = .ok (.goto (-12), 3) := by decide +kernel
theorem dJ7_fill_53178_20 : decode cJ7_fill_53178 20 = .ok (.return_, 1) := by decide +kernel
theorem dJ7_copyOf_59c91_0 : decode cJ7_copyOf_59c91 0 = .ok (.iload_n 1, 1) := by decide +kernel
theorem dJ7_copyOf_59c91_1 : decode cJ7_copyOf_59c91 1 = .ok (.aload_n 0, 1) := by decide +kernel
theorem dJ7_copyOf_59c91_2 : decode cJ7_copyOf_59c91 2 = .ok (.arraylength, 1) := by decide +kernel
theorem dJ7_copyOf_59c91_3 : decode cJ7_copyOf_59c91 3 = .ok (.if_icmp .ne 11, 3) := by decide +kernel
theorem dJ7_copyOf_59c91_6 : decode cJ7_copyOf_59c91 6 = .ok (.aload_n 0, 1) := by decide +kernel
theorem dJ7_copyOf_59c91_7 : decode cJ7_copyOf_59c91 7 = .ok (.invokevirtual 316, 3) := by decide +kernel
theorem dJ7_copyOf_59c91_10 : decode cJ7_copyOf_59c91 10 = .ok (.checkcast 317, 3) := by decide +kernel
theorem dJ7_copyOf_59c91_13 : decode cJ7_copyOf_59c91 13 = .ok (.areturn, 1) := by decide +kernel
theorem dJ7_copyOf_59c91_14 : decode cJ7_copyOf_59c91 14 = .ok (.iload_n 1, 1) := by decide +kernel
theorem dJ7_copyOf_59c91_15 : decode cJ7_copyOf_59c91 15 = .ok (.newarray .int, 2) := by decide +kernel
theorem dJ7_copyOf_59c91_17 : decode cJ7_copyOf_59c91 17 = .ok (.astore_n 2, 1) := by decide +kernel
theorem dJ7_copyOf_59c91_18 : decode cJ7_copyOf_59c91 18 = .ok (.aload_n 0, 1) := by decide +kernel
theorem dJ7_copyOf_59c91_19 : decode cJ7_copyOf_59c91 19 = .ok (.iconst 0, 1) := by decide +kernel
theorem dJ7_copyOf_59c91_20 : decode cJ7_copyOf_59c91 20 = .ok (.aload_n 2, 1) := by decide +kernel
theorem dJ7_copyOf_59c91_21 : decode cJ7_copyOf_59c91 21 = .ok (.iconst 0, 1) := by decide +kernel
theorem dJ7_copyOf_59c91_22 : decode cJ7_copyOf_59c91 22 = .ok (.aload_n 0, 1) := by decide +kernel
theorem dJ7_copyOf_59c91_23 : decode cJ7_copyOf_59c91 23 = .ok (.arraylength, 1) := by decide +kernel
theorem dJ7_copyOf_59c91_24 : decode cJ7_copyOf_59c91 24 = .ok (.iload_n 1, 1) := by decide +kernel
theorem dJ7_copyOf_59c91_25 : decode cJ7_copyOf_59c91 25 = .ok (.invokestatic 304, 3) := by decide +kernel
theorem dJ7_copyOf_59c91_28 : decode cJ7_copyOf_59c91 28 = .ok (.invokestatic 150, 3) := by decide +kernel
theorem dJ7_copyOf_59c91_31 : decode cJ7_copyOf_59c91 31 = .ok (.aload_n 2, 1) := by decide +kernel
theorem dJ7_copyOf_59c91_32 : decode cJ7_copyOf_59c91 32 = .ok (.areturn, 1) := by decide +kernel
theorem dJ3_checkIndex_8e157_0 : decode cJ3_checkIndex_8e157 0 = .ok (.iload_n 0, 1) := by decide +kernel
theorem dJ3_checkIndex_8e157_1 : decode cJ3_checkIndex_8e157 1 = .ok (.ifCond .lt 8, 3) := by decide +kernel
theorem dJ3_checkIndex_8e157_4 : decode cJ3_checkIndex_8e157 4 = .ok (.iload_n 0, 1) := by decide +kernel
theorem dJ3_checkIndex_8e157_5 : decode cJ3_checkIndex_8e157 5 = .ok (.iload_n 1, 1) := by decide +kernel
theorem dJ3_checkIndex_8e157_6 : decode cJ3_checkIndex_8e157 6 = .ok (.if_icmp .lt 10, 3) := by decide +kernel
theorem dJ3_checkIndex_8e157_9 : decode cJ3_checkIndex_8e157 9 = .ok (.aload_n 2, 1) := by decide +kernel
theorem dJ3_checkIndex_8e157_10 : decode cJ3_checkIndex_8e157 10 = .ok (.iload_n 0, 1) := by decide +kernel
theorem dJ3_checkIndex_8e157_11 : decode cJ3_checkIndex_8e157 11 = .ok (.iload_n 1, 1) := by decide +kernel
theorem dJ3_checkIndex_8e157_12 : decode cJ3_checkIndex_8e157 12 = .ok (.invokestatic 95, 3) := by decide +kernel
theorem dJ3_checkIndex_8e157_15 : decode cJ3_checkIndex_8e157 15 = .ok (.athrow, 1) := by decide +kernel
theorem dJ3_checkIndex_8e157_16 : decode cJ3_checkIndex_8e157 16 = .ok (.iload_n 0, 1) := by decide +kernel
theorem dJ3_checkIndex_8e157_17 : decode cJ3_checkIndex_8e157 17 = .ok (.ireturn, 1) := by decide +kernel
theorem dL_hull_0 : decode cL_hull 0 = .ok (.aload_n 3, 1) := by decide +kernel
theorem dL_hull_1 : decode cL_hull 1 = .ok (.iconst 0, 1) := by decide +kernel
theorem dL_hull_2 : decode cL_hull 2 = .ok (.aload_n 0, 1) := by decide +kernel
theorem dL_hull_3 : decode cL_hull 3 = .ok (.iload_n 1, 1) := by decide +kernel
theorem dL_hull_4 : decode cL_hull 4 = .ok (.iload_n 2, 1) := by decide +kernel
theorem dL_hull_5 : decode cL_hull 5 = .ok (.invokevirtual 7, 3) := by decide +kernel
theorem dL_hull_8 : decode cL_hull 8 = .ok (.i2l, 1) := by decide +kernel
theorem dL_hull_9 : decode cL_hull 9 = .ok (.lastore, 1) := by decide +kernel
theorem dL_hull_10 : decode cL_hull 10 = .ok (.goto 7, 3) := by decide +kernel
theorem dL_hull_13 : decode cL_hull 13 = .ok (.astore 4, 2) := by decide +kernel
theorem dL_hull_15 : decode cL_hull 15 = .ok (.iconst 1, 1) := by decide +kernel
theorem dL_hull_16 : decode cL_hull 16 = .ok (.ireturn, 1) := by decide +kernel
theorem dL_hull_17 : decode cL_hull 17 = .ok (.iconst 0, 1) := by decide +kernel
theorem dL_hull_18 : decode cL_hull 18 = .ok (.ireturn, 1) := by decide +kernel
theorem dL_station_0 : decode cL_station 0 = .ok (.aload 5, 2) := by decide +kernel
theorem dL_station_2 : decode cL_station 2 = .ok (.iconst 0, 1) := by decide +kernel
theorem dL_station_3 : decode cL_station 3 = .ok (.aload_n 0, 1) := by decide +kernel
theorem dL_station_4 : decode cL_station 4 = .ok (.iload_n 1, 1) := by decide +kernel
theorem dL_station_5 : decode cL_station 5 = .ok (.iload_n 2, 1) := by decide +kernel
theorem dL_station_6 : decode cL_station 6 = .ok (.iload_n 3, 1) := by decide +kernel
theorem dL_station_7 : decode cL_station 7 = .ok (.iload 4, 2) := by decide +kernel
theorem dL_station_9 : decode cL_station 9 = .ok (.invokevirtual 15, 3) := by decide +kernel
theorem dL_station_12 : decode cL_station 12 = .ok (.i2l, 1) := by decide +kernel
theorem dL_station_13 : decode cL_station 13 = .ok (.lastore, 1) := by decide +kernel
theorem dL_station_14 : decode cL_station 14 = .ok (.goto 11, 3) := by decide +kernel
theorem dL_station_17 : decode cL_station 17 = .ok (.astore 6, 2) := by decide +kernel
theorem dL_station_19 : decode cL_station 19 = .ok (.iconst 1, 1) := by decide +kernel
theorem dL_station_20 : decode cL_station 20 = .ok (.ireturn, 1) := by decide +kernel
theorem dL_station_21 : decode cL_station 21 = .ok (.astore 6, 2) := by decide +kernel
theorem dL_station_23 : decode cL_station 23 = .ok (.iconst 2, 1) := by decide +kernel
theorem dL_station_24 : decode cL_station 24 = .ok (.ireturn, 1) := by decide +kernel
theorem dL_station_25 : decode cL_station 25 = .ok (.iconst 0, 1) := by decide +kernel
theorem dL_station_26 : decode cL_station 26 = .ok (.ireturn, 1) := by decide +kernel
theorem dL_model_0 : decode cL_model 0 = .ok (.aload 4, 2) := by decide +kernel
theorem dL_model_2 : decode cL_model 2 = .ok (.iconst 0, 1) := by decide +kernel
theorem dL_model_3 : decode cL_model 3 = .ok (.aload_n 0, 1) := by decide +kernel
theorem dL_model_4 : decode cL_model 4 = .ok (.iload_n 1, 1) := by decide +kernel
theorem dL_model_5 : decode cL_model 5 = .ok (.iload_n 2, 1) := by decide +kernel
theorem dL_model_6 : decode cL_model 6 = .ok (.iload_n 3, 1) := by decide +kernel
theorem dL_model_7 : decode cL_model 7 = .ok (.invokevirtual 21, 3) := by decide +kernel
theorem dL_model_10 : decode cL_model 10 = .ok (.i2l, 1) := by decide +kernel
theorem dL_model_11 : decode cL_model 11 = .ok (.lastore, 1) := by decide +kernel
theorem dL_model_12 : decode cL_model 12 = .ok (.goto 11, 3) := by decide +kernel
theorem dL_model_15 : decode cL_model 15 = .ok (.astore 5, 2) := by decide +kernel
theorem dL_model_17 : decode cL_model 17 = .ok (.iconst 1, 1) := by decide +kernel
theorem dL_model_18 : decode cL_model 18 = .ok (.ireturn, 1) := by decide +kernel
theorem dL_model_19 : decode cL_model 19 = .ok (.astore 5, 2) := by decide +kernel
theorem dL_model_21 : decode cL_model 21 = .ok (.iconst 2, 1) := by decide +kernel
theorem dL_model_22 : decode cL_model 22 = .ok (.ireturn, 1) := by decide +kernel
theorem dL_model_23 : decode cL_model 23 = .ok (.iconst 0, 1) := by decide +kernel
theorem dL_model_24 : decode cL_model 24 = .ok (.ireturn, 1) := by decide +kernel
theorem dL_tank_0 : decode cL_tank 0 = .ok (.aload_n 3, 1) := by decide +kernel
theorem dL_tank_1 : decode cL_tank 1 = .ok (.iconst 0, 1) := by decide +kernel
theorem dL_tank_2 : decode cL_tank 2 = .ok (.aload_n 0, 1) := by decide +kernel
theorem dL_tank_3 : decode cL_tank 3 = .ok (.iload_n 1, 1) := by decide +kernel
theorem dL_tank_4 : decode cL_tank 4 = .ok (.iload_n 2, 1) := by decide +kernel
theorem dL_tank_5 : decode cL_tank 5 = .ok (.invokevirtual 25, 3) := by decide +kernel
theorem dL_tank_8 : decode cL_tank 8 = .ok (.i2l, 1) := by decide +kernel
theorem dL_tank_9 : decode cL_tank 9 = .ok (.lastore, 1) := by decide +kernel
theorem dL_tank_10 : decode cL_tank 10 = .ok (.goto 7, 3) := by decide +kernel
theorem dL_tank_13 : decode cL_tank 13 = .ok (.astore 4, 2) := by decide +kernel
theorem dL_tank_15 : decode cL_tank 15 = .ok (.iconst 1, 1) := by decide +kernel
theorem dL_tank_16 : decode cL_tank 16 = .ok (.ireturn, 1) := by decide +kernel
theorem dL_tank_17 : decode cL_tank 17 = .ok (.iconst 0, 1) := by decide +kernel
theorem dL_tank_18 : decode cL_tank 18 = .ok (.ireturn, 1) := by decide +kernel
theorem dL_law_0 : decode cL_law 0 = .ok (.aload_n 3, 1) := by decide +kernel
theorem dL_law_1 : decode cL_law 1 = .ok (.iconst 0, 1) := by decide +kernel
theorem dL_law_2 : decode cL_law 2 = .ok (.aload_n 0, 1) := by decide +kernel
theorem dL_law_3 : decode cL_law 3 = .ok (.iload_n 1, 1) := by decide +kernel
theorem dL_law_4 : decode cL_law 4 = .ok (.iload_n 2, 1) := by decide +kernel
theorem dL_law_5 : decode cL_law 5 = .ok (.invokevirtual 28, 3) := by decide +kernel
theorem dL_law_8 : decode cL_law 8 = .ok (.i2l, 1) := by decide +kernel
theorem dL_law_9 : decode cL_law 9 = .ok (.lastore, 1) := by decide +kernel
theorem dL_law_10 : decode cL_law 10 = .ok (.goto 7, 3) := by decide +kernel
theorem dL_law_13 : decode cL_law 13 = .ok (.astore 4, 2) := by decide +kernel
theorem dL_law_15 : decode cL_law 15 = .ok (.iconst 1, 1) := by decide +kernel
theorem dL_law_16 : decode cL_law 16 = .ok (.ireturn, 1) := by decide +kernel
theorem dL_law_17 : decode cL_law 17 = .ok (.iconst 0, 1) := by decide +kernel
theorem dL_law_18 : decode cL_law 18 = .ok (.ireturn, 1) := by decide +kernel
theorem dL_set_0 : decode cL_set 0 = .ok (.aload 5, 2) := by decide +kernel
theorem dL_set_2 : decode cL_set 2 = .ok (.iconst 0, 1) := by decide +kernel
theorem dL_set_3 : decode cL_set 3 = .ok (.aload_n 0, 1) := by decide +kernel
theorem dL_set_4 : decode cL_set 4 = .ok (.iload_n 1, 1) := by decide +kernel
theorem dL_set_5 : decode cL_set 5 = .ok (.iload_n 2, 1) := by decide +kernel
theorem dL_set_6 : decode cL_set 6 = .ok (.iload_n 3, 1) := by decide +kernel
theorem dL_set_7 : decode cL_set 7 = .ok (.iload 4, 2) := by decide +kernel
theorem dL_set_9 : decode cL_set 9 = .ok (.invokevirtual 32, 3) := by decide +kernel
theorem dL_set_12 : decode cL_set 12 = .ok (.i2l, 1) := by decide +kernel
theorem dL_set_13 : decode cL_set 13 = .ok (.lastore, 1) := by decide +kernel
theorem dL_set_14 : decode cL_set 14 = .ok (.goto 15, 3) := by decide +kernel
theorem dL_set_17 : decode cL_set 17 = .ok (.astore 6, 2) := by decide +kernel
theorem dL_set_19 : decode cL_set 19 = .ok (.iconst 1, 1) := by decide +kernel
theorem dL_set_20 : decode cL_set 20 = .ok (.ireturn, 1) := by decide +kernel
theorem dL_set_21 : decode cL_set 21 = .ok (.astore 6, 2) := by decide +kernel
theorem dL_set_23 : decode cL_set 23 = .ok (.iconst 2, 1) := by decide +kernel
theorem dL_set_24 : decode cL_set 24 = .ok (.ireturn, 1) := by decide +kernel
theorem dL_set_25 : decode cL_set 25 = .ok (.astore 6, 2) := by decide +kernel
theorem dL_set_27 : decode cL_set 27 = .ok (.iconst 3, 1) := by decide +kernel
theorem dL_set_28 : decode cL_set 28 = .ok (.ireturn, 1) := by decide +kernel
theorem dL_set_29 : decode cL_set 29 = .ok (.iconst 0, 1) := by decide +kernel
theorem dL_set_30 : decode cL_set 30 = .ok (.ireturn, 1) := by decide +kernel
theorem dL_trim_0 : decode cL_trim 0 = .ok (.aload_n 3, 1) := by decide +kernel
theorem dL_trim_1 : decode cL_trim 1 = .ok (.iconst 0, 1) := by decide +kernel
theorem dL_trim_2 : decode cL_trim 2 = .ok (.aload_n 0, 1) := by decide +kernel
theorem dL_trim_3 : decode cL_trim 3 = .ok (.iload_n 1, 1) := by decide +kernel
theorem dL_trim_4 : decode cL_trim 4 = .ok (.iload_n 2, 1) := by decide +kernel
theorem dL_trim_5 : decode cL_trim 5 = .ok (.invokevirtual 37, 3) := by decide +kernel
theorem dL_trim_8 : decode cL_trim 8 = .ok (.i2l, 1) := by decide +kernel
theorem dL_trim_9 : decode cL_trim 9 = .ok (.lastore, 1) := by decide +kernel
theorem dL_trim_10 : decode cL_trim 10 = .ok (.goto 7, 3) := by decide +kernel
theorem dL_trim_13 : decode cL_trim 13 = .ok (.astore 4, 2) := by decide +kernel
theorem dL_trim_15 : decode cL_trim 15 = .ok (.iconst 1, 1) := by decide +kernel
theorem dL_trim_16 : decode cL_trim 16 = .ok (.ireturn, 1) := by decide +kernel
theorem dL_trim_17 : decode cL_trim 17 = .ok (.iconst 0, 1) := by decide +kernel
theorem dL_trim_18 : decode cL_trim 18 = .ok (.ireturn, 1) := by decide +kernel
theorem dL_name_0 : decode cL_name 0 = .ok (.aload_n 2, 1) := by decide +kernel
theorem dL_name_1 : decode cL_name 1 = .ok (.iconst 0, 1) := by decide +kernel
theorem dL_name_2 : decode cL_name 2 = .ok (.aload_n 0, 1) := by decide +kernel
theorem dL_name_3 : decode cL_name 3 = .ok (.iload_n 1, 1) := by decide +kernel
theorem dL_name_4 : decode cL_name 4 = .ok (.invokevirtual 41, 3) := by decide +kernel
theorem dL_name_7 : decode cL_name 7 = .ok (.i2l, 1) := by decide +kernel
theorem dL_name_8 : decode cL_name 8 = .ok (.lastore, 1) := by decide +kernel
theorem dL_name_9 : decode cL_name 9 = .ok (.goto 9, 3) := by decide +kernel
theorem dL_name_12 : decode cL_name 12 = .ok (.astore_n 3, 1) := by decide +kernel
theorem dL_name_13 : decode cL_name 13 = .ok (.iconst 1, 1) := by decide +kernel
theorem dL_name_14 : decode cL_name 14 = .ok (.ireturn, 1) := by decide +kernel
theorem dL_name_15 : decode cL_name 15 = .ok (.astore_n 3, 1) := by decide +kernel
theorem dL_name_16 : decode cL_name 16 = .ok (.iconst 2, 1) := by decide +kernel
theorem dL_name_17 : decode cL_name 17 = .ok (.ireturn, 1) := by decide +kernel
theorem dL_name_18 : decode cL_name 18 = .ok (.iconst 0, 1) := by decide +kernel
theorem dL_name_19 : decode cL_name 19 = .ok (.ireturn, 1) := by decide +kernel
theorem dL_pull_0 : decode cL_pull 0 = .ok (.aload_n 3, 1) := by decide +kernel
theorem dL_pull_1 : decode cL_pull 1 = .ok (.iconst 0, 1) := by decide +kernel
theorem dL_pull_2 : decode cL_pull 2 = .ok (.aload_n 0, 1) := by decide +kernel
theorem dL_pull_3 : decode cL_pull 3 = .ok (.iload_n 1, 1) := by decide +kernel
theorem dL_pull_4 : decode cL_pull 4 = .ok (.iload_n 2, 1) := by decide +kernel
theorem dL_pull_5 : decode cL_pull 5 = .ok (.invokevirtual 47, 3) := by decide +kernel
theorem dL_pull_8 : decode cL_pull 8 = .ok (.lastore, 1) := by decide +kernel
theorem dL_pull_9 : decode cL_pull 9 = .ok (.goto 15, 3) := by decide +kernel
theorem dL_pull_12 : decode cL_pull 12 = .ok (.astore 4, 2) := by decide +kernel
theorem dL_pull_14 : decode cL_pull 14 = .ok (.iconst 1, 1) := by decide +kernel
theorem dL_pull_15 : decode cL_pull 15 = .ok (.ireturn, 1) := by decide +kernel
theorem dL_pull_16 : decode cL_pull 16 = .ok (.astore 4, 2) := by decide +kernel
theorem dL_pull_18 : decode cL_pull 18 = .ok (.iconst 2, 1) := by decide +kernel
theorem dL_pull_19 : decode cL_pull 19 = .ok (.ireturn, 1) := by decide +kernel
theorem dL_pull_20 : decode cL_pull 20 = .ok (.astore 4, 2) := by decide +kernel
theorem dL_pull_22 : decode cL_pull 22 = .ok (.iconst 3, 1) := by decide +kernel
theorem dL_pull_23 : decode cL_pull 23 = .ok (.ireturn, 1) := by decide +kernel
theorem dL_pull_24 : decode cL_pull 24 = .ok (.iconst 0, 1) := by decide +kernel
theorem dL_pull_25 : decode cL_pull 25 = .ok (.ireturn, 1) := by decide +kernel
theorem dL_need_0 : decode cL_need 0 = .ok (.aload 4, 2) := by decide +kernel
theorem dL_need_2 : decode cL_need 2 = .ok (.iconst 0, 1) := by decide +kernel
theorem dL_need_3 : decode cL_need 3 = .ok (.aload_n 0, 1) := by decide +kernel
theorem dL_need_4 : decode cL_need 4 = .ok (.iload_n 1, 1) := by decide +kernel
theorem dL_need_5 : decode cL_need 5 = .ok (.iload_n 2, 1) := by decide +kernel
theorem dL_need_6 : decode cL_need 6 = .ok (.iload_n 3, 1) := by decide +kernel
theorem dL_need_7 : decode cL_need 7 = .ok (.invokevirtual 51, 3) := by decide +kernel
theorem dL_need_10 : decode cL_need 10 = .ok (.lastore, 1) := by decide +kernel
theorem dL_need_11 : decode cL_need 11 = .ok (.goto 15, 3) := by decide +kernel
theorem dL_need_14 : decode cL_need 14 = .ok (.astore 5, 2) := by decide +kernel
theorem dL_need_16 : decode cL_need 16 = .ok (.iconst 1, 1) := by decide +kernel
theorem dL_need_17 : decode cL_need 17 = .ok (.ireturn, 1) := by decide +kernel
theorem dL_need_18 : decode cL_need 18 = .ok (.astore 5, 2) := by decide +kernel
theorem dL_need_20 : decode cL_need 20 = .ok (.iconst 2, 1) := by decide +kernel
theorem dL_need_21 : decode cL_need 21 = .ok (.ireturn, 1) := by decide +kernel
theorem dL_need_22 : decode cL_need 22 = .ok (.astore 5, 2) := by decide +kernel
theorem dL_need_24 : decode cL_need 24 = .ok (.iconst 3, 1) := by decide +kernel
theorem dL_need_25 : decode cL_need 25 = .ok (.ireturn, 1) := by decide +kernel
theorem dL_need_26 : decode cL_need 26 = .ok (.iconst 0, 1) := by decide +kernel
theorem dL_need_27 : decode cL_need 27 = .ok (.ireturn, 1) := by decide +kernel
theorem dL_error_0 : decode cL_error 0 = .ok (.aload 5, 2) := by decide +kernel
theorem dL_error_2 : decode cL_error 2 = .ok (.iconst 0, 1) := by decide +kernel
theorem dL_error_3 : decode cL_error 3 = .ok (.aload_n 0, 1) := by decide +kernel
theorem dL_error_4 : decode cL_error 4 = .ok (.iload_n 1, 1) := by decide +kernel
theorem dL_error_5 : decode cL_error 5 = .ok (.iload_n 2, 1) := by decide +kernel
theorem dL_error_6 : decode cL_error 6 = .ok (.iload_n 3, 1) := by decide +kernel
theorem dL_error_7 : decode cL_error 7 = .ok (.iload 4, 2) := by decide +kernel
theorem dL_error_9 : decode cL_error 9 = .ok (.invokevirtual 55, 3) := by decide +kernel
theorem dL_error_12 : decode cL_error 12 = .ok (.lastore, 1) := by decide +kernel
theorem dL_error_13 : decode cL_error 13 = .ok (.goto 15, 3) := by decide +kernel
theorem dL_error_16 : decode cL_error 16 = .ok (.astore 6, 2) := by decide +kernel
theorem dL_error_18 : decode cL_error 18 = .ok (.iconst 1, 1) := by decide +kernel
theorem dL_error_19 : decode cL_error 19 = .ok (.ireturn, 1) := by decide +kernel
theorem dL_error_20 : decode cL_error 20 = .ok (.astore 6, 2) := by decide +kernel
theorem dL_error_22 : decode cL_error 22 = .ok (.iconst 2, 1) := by decide +kernel
theorem dL_error_23 : decode cL_error 23 = .ok (.ireturn, 1) := by decide +kernel
theorem dL_error_24 : decode cL_error 24 = .ok (.astore 6, 2) := by decide +kernel
theorem dL_error_26 : decode cL_error 26 = .ok (.iconst 3, 1) := by decide +kernel
theorem dL_error_27 : decode cL_error 27 = .ok (.ireturn, 1) := by decide +kernel
theorem dL_error_28 : decode cL_error 28 = .ok (.iconst 0, 1) := by decide +kernel
theorem dL_error_29 : decode cL_error 29 = .ok (.ireturn, 1) := by decide +kernel
theorem dL_size_0 : decode cL_size 0 = .ok (.aload 5, 2) := by decide +kernel
theorem dL_size_2 : decode cL_size 2 = .ok (.iconst 0, 1) := by decide +kernel
theorem dL_size_3 : decode cL_size 3 = .ok (.aload_n 0, 1) := by decide +kernel
theorem dL_size_4 : decode cL_size 4 = .ok (.iload_n 1, 1) := by decide +kernel
theorem dL_size_5 : decode cL_size 5 = .ok (.iload_n 2, 1) := by decide +kernel
theorem dL_size_6 : decode cL_size 6 = .ok (.iload_n 3, 1) := by decide +kernel
theorem dL_size_7 : decode cL_size 7 = .ok (.iload 4, 2) := by decide +kernel
theorem dL_size_9 : decode cL_size 9 = .ok (.invokevirtual 59, 3) := by decide +kernel
theorem dL_size_12 : decode cL_size 12 = .ok (.i2l, 1) := by decide +kernel
theorem dL_size_13 : decode cL_size 13 = .ok (.lastore, 1) := by decide +kernel
theorem dL_size_14 : decode cL_size 14 = .ok (.goto 15, 3) := by decide +kernel
theorem dL_size_17 : decode cL_size 17 = .ok (.astore 6, 2) := by decide +kernel
theorem dL_size_19 : decode cL_size 19 = .ok (.iconst 1, 1) := by decide +kernel
theorem dL_size_20 : decode cL_size 20 = .ok (.ireturn, 1) := by decide +kernel
theorem dL_size_21 : decode cL_size 21 = .ok (.astore 6, 2) := by decide +kernel
theorem dL_size_23 : decode cL_size 23 = .ok (.iconst 2, 1) := by decide +kernel
theorem dL_size_24 : decode cL_size 24 = .ok (.ireturn, 1) := by decide +kernel
theorem dL_size_25 : decode cL_size 25 = .ok (.astore 6, 2) := by decide +kernel
theorem dL_size_27 : decode cL_size 27 = .ok (.iconst 3, 1) := by decide +kernel
