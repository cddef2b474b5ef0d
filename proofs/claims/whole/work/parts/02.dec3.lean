theorem dX12_test_25 : decode cX12_test 25 = .ok (.aload_n 0, 1) := by decide +kernel
theorem dX12_test_26 : decode cX12_test 26 = .ok (.iconst 3, 1) := by decide +kernel
theorem dX12_test_27 : decode cX12_test 27 = .ok (.invokevirtual 177, 3) := by decide +kernel
theorem dX12_test_30 : decode cX12_test 30 = .ok (.aload_n 0, 1) := by decide +kernel
theorem dX12_test_31 : decode cX12_test 31 = .ok (.invokevirtual 197, 3) := by decide +kernel
theorem dX12_test_34 : decode cX12_test 34 = .ok (.ifCond .ne 7, 3) := by decide +kernel
theorem dX12_test_37 : decode cX12_test 37 = .ok (.iconst 1, 1) := by decide +kernel
theorem dX12_test_38 : decode cX12_test 38 = .ok (.goto 4, 3) := by decide +kernel
theorem dX12_test_41 : decode cX12_test 41 = .ok (.iconst 0, 1) := by decide +kernel
theorem dX12_test_42 : decode cX12_test 42 = .ok (.istore_n 1, 1) := by decide +kernel
theorem dX12_test_43 : decode cX12_test 43 = .ok (.aload_n 0, 1) := by decide +kernel
theorem dX12_test_44 : decode cX12_test 44 = .ok (.dup, 1) := by decide +kernel
theorem dX12_test_45 : decode cX12_test 45 = .ok (.getfield 156, 3) := by decide +kernel
theorem dX12_test_48 : decode cX12_test 48 = .ok (.iconst 1, 1) := by decide +kernel
theorem dX12_test_49 : decode cX12_test 49 = .ok (.isub, 1) := by decide +kernel
theorem dX12_test_50 : decode cX12_test 50 = .ok (.putfield 156, 3) := by decide +kernel
theorem dX12_test_53 : decode cX12_test 53 = .ok (.iload_n 1, 1) := by decide +kernel
theorem dX12_test_54 : decode cX12_test 54 = .ok (.ireturn, 1) := by decide +kernel
theorem dX12_test_55 : decode cX12_test 55 = .ok (.aload_n 0, 1) := by decide +kernel
theorem dX12_test_56 : decode cX12_test 56 = .ok (.aload_n 0, 1) := by decide +kernel
theorem dX12_test_57 : decode cX12_test 57 = .ok (.getfield 117, 3) := by decide +kernel
theorem dX12_test_60 : decode cX12_test 60 = .ok (.invokevirtual 120, 3) := by decide +kernel
theorem dX12_test_63 : decode cX12_test 63 = .ok (.bipush 91, 2) := by decide +kernel
theorem dX12_test_65 : decode cX12_test 65 = .ok (.if_icmp .ne 31, 3) := by decide +kernel
theorem dX12_test_68 : decode cX12_test 68 = .ok (.aload_n 0, 1) := by decide +kernel
theorem dX12_test_69 : decode cX12_test 69 = .ok (.iconst 1, 1) := by decide +kernel
theorem dX12_test_70 : decode cX12_test 70 = .ok (.invokevirtual 177, 3) := by decide +kernel
theorem dX12_test_73 : decode cX12_test 73 = .ok (.aload_n 0, 1) := by decide +kernel
theorem dX12_test_74 : decode cX12_test 74 = .ok (.invokevirtual 201, 3) := by decide +kernel
theorem dX12_test_77 : decode cX12_test 77 = .ok (.istore_n 1, 1) := by decide +kernel
theorem dX12_test_78 : decode cX12_test 78 = .ok (.aload_n 0, 1) := by decide +kernel
theorem dX12_test_79 : decode cX12_test 79 = .ok (.bipush 93, 2) := by decide +kernel
theorem dX12_test_81 : decode cX12_test 81 = .ok (.invokevirtual 184, 3) := by decide +kernel
theorem dX12_test_84 : decode cX12_test 84 = .ok (.aload_n 0, 1) := by decide +kernel
theorem dX12_test_85 : decode cX12_test 85 = .ok (.dup, 1) := by decide +kernel
theorem dX12_test_86 : decode cX12_test 86 = .ok (.getfield 156, 3) := by decide +kernel
theorem dX12_test_89 : decode cX12_test 89 = .ok (.iconst 1, 1) := by decide +kernel
theorem dX12_test_90 : decode cX12_test 90 = .ok (.isub, 1) := by decide +kernel
theorem dX12_test_91 : decode cX12_test 91 = .ok (.putfield 156, 3) := by decide +kernel
theorem dX12_test_94 : decode cX12_test 94 = .ok (.iload_n 1, 1) := by decide +kernel
theorem dX12_test_95 : decode cX12_test 95 = .ok (.ireturn, 1) := by decide +kernel
theorem dX12_test_96 : decode cX12_test 96 = .ok (.aload_n 0, 1) := by decide +kernel
theorem dX12_test_97 : decode cX12_test 97 = .ok (.invokevirtual 181, 3) := by decide +kernel
theorem dX12_test_100 : decode cX12_test 100 = .ok (.lstore_n 1, 1) := by decide +kernel
theorem dX12_test_101 : decode cX12_test 101 = .ok (.aload_n 0, 1) := by decide +kernel
theorem dX12_test_102 : decode cX12_test 102 = .ok (.invokevirtual 145, 3) := by decide +kernel
theorem dX12_test_105 : decode cX12_test 105 = .ok (.aload_n 0, 1) := by decide +kernel
theorem dX12_test_106 : decode cX12_test 106 = .ok (.aload_n 0, 1) := by decide +kernel
theorem dX12_test_107 : decode cX12_test 107 = .ok (.getfield 117, 3) := by decide +kernel
theorem dX12_test_110 : decode cX12_test 110 = .ok (.invokevirtual 120, 3) := by decide +kernel
theorem dX12_test_113 : decode cX12_test 113 = .ok (.istore_n 3, 1) := by decide +kernel
theorem dX12_test_114 : decode cX12_test 114 = .ok (.iload_n 3, 1) := by decide +kernel
theorem dX12_test_115 : decode cX12_test 115 = .ok (.bipush 60, 2) := by decide +kernel
theorem dX12_test_117 : decode cX12_test 117 = .ok (.if_icmp .eq 24, 3) := by decide +kernel
theorem dX12_test_120 : decode cX12_test 120 = .ok (.iload_n 3, 1) := by decide +kernel
theorem dX12_test_121 : decode cX12_test 121 = .ok (.bipush 62, 2) := by decide +kernel
theorem dX12_test_123 : decode cX12_test 123 = .ok (.if_icmp .eq 18, 3) := by decide +kernel
theorem dX12_test_126 : decode cX12_test 126 = .ok (.iload_n 3, 1) := by decide +kernel
theorem dX12_test_127 : decode cX12_test 127 = .ok (.bipush 61, 2) := by decide +kernel
theorem dX12_test_129 : decode cX12_test 129 = .ok (.if_icmp .eq 12, 3) := by decide +kernel
theorem dX12_test_132 : decode cX12_test 132 = .ok (.aload_n 0, 1) := by decide +kernel
theorem dX12_test_133 : decode cX12_test 133 = .ok (.iconst 1, 1) := by decide +kernel
theorem dX12_test_134 : decode cX12_test 134 = .ok (.aload_n 0, 1) := by decide +kernel
theorem dX12_test_135 : decode cX12_test 135 = .ok (.getfield 117, 3) := by decide +kernel
theorem dX12_test_138 : decode cX12_test 138 = .ok (.invokevirtual 141, 3) := by decide +kernel
theorem dX12_test_141 : decode cX12_test 141 = .ok (.aload_n 0, 1) := by decide +kernel
theorem dX12_test_142 : decode cX12_test 142 = .ok (.dup, 1) := by decide +kernel
theorem dX12_test_143 : decode cX12_test 143 = .ok (.getfield 117, 3) := by decide +kernel
theorem dX12_test_146 : decode cX12_test 146 = .ok (.iconst 1, 1) := by decide +kernel
theorem dX12_test_147 : decode cX12_test 147 = .ok (.iadd, 1) := by decide +kernel
theorem dX12_test_148 : decode cX12_test 148 = .ok (.putfield 117, 3) := by decide +kernel
theorem dX12_test_151 : decode cX12_test 151 = .ok (.aload_n 0, 1) := by decide +kernel
theorem dX12_test_152 : decode cX12_test 152 = .ok (.invokevirtual 181, 3) := by decide +kernel
theorem dX12_test_155 : decode cX12_test 155 = .ok (.lstore 4, 2) := by decide +kernel
theorem dX12_test_157 : decode cX12_test 157 = .ok (.iload_n 3, 1) := by decide +kernel
theorem dX12_test_158 : decode cX12_test 158 = .ok (.bipush 60, 2) := by decide +kernel
theorem dX12_test_160 : decode cX12_test 160 = .ok (.if_icmp .ne 18, 3) := by decide +kernel
theorem dX12_test_163 : decode cX12_test 163 = .ok (.lload_n 1, 1) := by decide +kernel
theorem dX12_test_164 : decode cX12_test 164 = .ok (.lload 4, 2) := by decide +kernel
theorem dX12_test_166 : decode cX12_test 166 = .ok (.lcmp, 1) := by decide +kernel
theorem dX12_test_167 : decode cX12_test 167 = .ok (.ifCond .ge 7, 3) := by decide +kernel
theorem dX12_test_170 : decode cX12_test 170 = .ok (.iconst 1, 1) := by decide +kernel
theorem dX12_test_171 : decode cX12_test 171 = .ok (.goto 40, 3) := by decide +kernel
theorem dX12_test_174 : decode cX12_test 174 = .ok (.iconst 0, 1) := by decide +kernel
theorem dX12_test_175 : decode cX12_test 175 = .ok (.goto 36, 3) := by decide +kernel
theorem dX12_test_178 : decode cX12_test 178 = .ok (.iload_n 3, 1) := by decide +kernel
theorem dX12_test_179 : decode cX12_test 179 = .ok (.bipush 62, 2) := by decide +kernel
theorem dX12_test_181 : decode cX12_test 181 = .ok (.if_icmp .ne 18, 3) := by decide +kernel
theorem dX12_test_184 : decode cX12_test 184 = .ok (.lload_n 1, 1) := by decide +kernel
theorem dX12_test_185 : decode cX12_test 185 = .ok (.lload 4, 2) := by decide +kernel
theorem dX12_test_187 : decode cX12_test 187 = .ok (.lcmp, 1) := by decide +kernel
theorem dX12_test_188 : decode cX12_test 188 = .ok (.ifCond .le 7, 3) := by decide +kernel
theorem dX12_test_191 : decode cX12_test 191 = .ok (.iconst 1, 1) := by decide +kernel
theorem dX12_test_192 : decode cX12_test 192 = .ok (.goto 19, 3) := by decide +kernel
theorem dX12_test_195 : decode cX12_test 195 = .ok (.iconst 0, 1) := by decide +kernel
theorem dX12_test_196 : decode cX12_test 196 = .ok (.goto 15, 3) := by decide +kernel
theorem dX12_test_199 : decode cX12_test 199 = .ok (.lload_n 1, 1) := by decide +kernel
theorem dX12_test_200 : decode cX12_test 200 = .ok (.lload 4, 2) := by decide +kernel
theorem dX12_test_202 : decode cX12_test 202 = .ok (.lcmp, 1) := by decide +kernel
theorem dX12_test_203 : decode cX12_test 203 = .ok (.ifCond .ne 7, 3) := by decide +kernel
theorem dX12_test_206 : decode cX12_test 206 = .ok (.iconst 1, 1) := by decide +kernel
theorem dX12_test_207 : decode cX12_test 207 = .ok (.goto 4, 3) := by decide +kernel
theorem dX12_test_210 : decode cX12_test 210 = .ok (.iconst 0, 1) := by decide +kernel
theorem dX12_test_211 : decode cX12_test 211 = .ok (.ireturn, 1) := by decide +kernel
theorem dX12_ands_0 : decode cX12_ands 0 = .ok (.aload_n 0, 1) := by decide +kernel
theorem dX12_ands_1 : decode cX12_ands 1 = .ok (.invokevirtual 197, 3) := by decide +kernel
theorem dX12_ands_4 : decode cX12_ands 4 = .ok (.istore_n 1, 1) := by decide +kernel
theorem dX12_ands_5 : decode cX12_ands 5 = .ok (.aload_n 0, 1) := by decide +kernel
theorem dX12_ands_6 : decode cX12_ands 6 = .ok (.getfield 124, 3) := by decide +kernel
theorem dX12_ands_9 : decode cX12_ands 9 = .ok (.ifCond .ne 43, 3) := by decide +kernel
theorem dX12_ands_12 : decode cX12_ands 12 = .ok (.aload_n 0, 1) := by decide +kernel
theorem dX12_ands_13 : decode cX12_ands 13 = .ok (.iconst 1, 1) := by decide +kernel
theorem dX12_ands_14 : decode cX12_ands 14 = .ok (.bipush 14, 2) := by decide +kernel
theorem dX12_ands_16 : decode cX12_ands 16 = .ok (.iconst 4, 1) := by decide +kernel
theorem dX12_ands_17 : decode cX12_ands 17 = .ok (.iconst 0, 1) := by decide +kernel
theorem dX12_ands_18 : decode cX12_ands 18 = .ok (.iconst 0, 1) := by decide +kernel
theorem dX12_ands_19 : decode cX12_ands 19 = .ok (.iconst 0, 1) := by decide +kernel
theorem dX12_ands_20 : decode cX12_ands 20 = .ok (.invokevirtual 159, 3) := by decide +kernel
theorem dX12_ands_23 : decode cX12_ands 23 = .ok (.ifCond .eq 29, 3) := by decide +kernel
theorem dX12_ands_26 : decode cX12_ands 26 = .ok (.aload_n 0, 1) := by decide +kernel
theorem dX12_ands_27 : decode cX12_ands 27 = .ok (.invokevirtual 174, 3) := by decide +kernel
theorem dX12_ands_30 : decode cX12_ands 30 = .ok (.aload_n 0, 1) := by decide +kernel
theorem dX12_ands_31 : decode cX12_ands 31 = .ok (.invokevirtual 197, 3) := by decide +kernel
theorem dX12_ands_34 : decode cX12_ands 34 = .ok (.istore_n 2, 1) := by decide +kernel
theorem dX12_ands_35 : decode cX12_ands 35 = .ok (.iload_n 1, 1) := by decide +kernel
theorem dX12_ands_36 : decode cX12_ands 36 = .ok (.ifCond .eq 11, 3) := by decide +kernel
theorem dX12_ands_39 : decode cX12_ands 39 = .ok (.iload_n 2, 1) := by decide +kernel
theorem dX12_ands_40 : decode cX12_ands 40 = .ok (.ifCond .eq 7, 3) := by decide +kernel
theorem dX12_ands_43 : decode cX12_ands 43 = .ok (.iconst 1, 1) := by decide +kernel
theorem dX12_ands_44 : decode cX12_ands 44 = .ok (.goto 4, 3) := by decide +kernel
theorem dX12_ands_47 : decode cX12_ands 47 = .ok (.iconst 0, 1) := by decide +kernel
theorem dX12_ands_48 : decode cX12_ands 48 = .ok (.istore_n 1, 1) := by decide +kernel
theorem dX12_ands_49 : decode cX12_ands 49 = .ok (.goto (-44), 3) := by decide +kernel
theorem dX12_ands_52 : decode cX12_ands 52 = .ok (.iload_n 1, 1) := by decide +kernel
theorem dX12_ands_53 : decode cX12_ands 53 = .ok (.ireturn, 1) := by decide +kernel
theorem dX12_ors_0 : decode cX12_ors 0 = .ok (.aload_n 0, 1) := by decide +kernel
theorem dX12_ors_1 : decode cX12_ors 1 = .ok (.invokevirtual 204, 3) := by decide +kernel
theorem dX12_ors_4 : decode cX12_ors 4 = .ok (.istore_n 1, 1) := by decide +kernel
theorem dX12_ors_5 : decode cX12_ors 5 = .ok (.aload_n 0, 1) := by decide +kernel
theorem dX12_ors_6 : decode cX12_ors 6 = .ok (.getfield 124, 3) := by decide +kernel
theorem dX12_ors_9 : decode cX12_ors 9 = .ok (.ifCond .ne 44, 3) := by decide +kernel
theorem dX12_ors_12 : decode cX12_ors 12 = .ok (.aload_n 0, 1) := by decide +kernel
theorem dX12_ors_13 : decode cX12_ors 13 = .ok (.bipush 15, 2) := by decide +kernel
theorem dX12_ors_15 : decode cX12_ors 15 = .ok (.bipush 18, 2) := by decide +kernel
theorem dX12_ors_17 : decode cX12_ors 17 = .ok (.iconst 0, 1) := by decide +kernel
theorem dX12_ors_18 : decode cX12_ors 18 = .ok (.iconst 0, 1) := by decide +kernel
theorem dX12_ors_19 : decode cX12_ors 19 = .ok (.iconst 0, 1) := by decide +kernel
theorem dX12_ors_20 : decode cX12_ors 20 = .ok (.iconst 0, 1) := by decide +kernel
theorem dX12_ors_21 : decode cX12_ors 21 = .ok (.invokevirtual 159, 3) := by decide +kernel
theorem dX12_ors_24 : decode cX12_ors 24 = .ok (.ifCond .eq 29, 3) := by decide +kernel
theorem dX12_ors_27 : decode cX12_ors 27 = .ok (.aload_n 0, 1) := by decide +kernel
theorem dX12_ors_28 : decode cX12_ors 28 = .ok (.invokevirtual 174, 3) := by decide +kernel
theorem dX12_ors_31 : decode cX12_ors 31 = .ok (.aload_n 0, 1) := by decide +kernel
theorem dX12_ors_32 : decode cX12_ors 32 = .ok (.invokevirtual 204, 3) := by decide +kernel
theorem dX12_ors_35 : decode cX12_ors 35 = .ok (.istore_n 2, 1) := by decide +kernel
theorem dX12_ors_36 : decode cX12_ors 36 = .ok (.iload_n 1, 1) := by decide +kernel
theorem dX12_ors_37 : decode cX12_ors 37 = .ok (.ifCond .ne 7, 3) := by decide +kernel
theorem dX12_ors_40 : decode cX12_ors 40 = .ok (.iload_n 2, 1) := by decide +kernel
theorem dX12_ors_41 : decode cX12_ors 41 = .ok (.ifCond .eq 7, 3) := by decide +kernel
theorem dX12_ors_44 : decode cX12_ors 44 = .ok (.iconst 1, 1) := by decide +kernel
theorem dX12_ors_45 : decode cX12_ors 45 = .ok (.goto 4, 3) := by decide +kernel
theorem dX12_ors_48 : decode cX12_ors 48 = .ok (.iconst 0, 1) := by decide +kernel
theorem dX12_ors_49 : decode cX12_ors 49 = .ok (.istore_n 1, 1) := by decide +kernel
theorem dX12_ors_50 : decode cX12_ors 50 = .ok (.goto (-45), 3) := by decide +kernel
theorem dX12_ors_53 : decode cX12_ors 53 = .ok (.iload_n 1, 1) := by decide +kernel
theorem dX12_ors_54 : decode cX12_ors 54 = .ok (.ireturn, 1) := by decide +kernel
theorem dX12_wordOf_0 : decode cX12_wordOf 0 = .ok (.aload_n 0, 1) := by decide +kernel
theorem dX12_wordOf_1 : decode cX12_wordOf 1 = .ok (.getfield 207, 3) := by decide +kernel
theorem dX12_wordOf_4 : decode cX12_wordOf 4 = .ok (.ifCond .eq 64, 3) := by decide +kernel
theorem dX12_wordOf_7 : decode cX12_wordOf 7 = .ok (.aload_n 0, 1) := by decide +kernel
theorem dX12_wordOf_8 : decode cX12_wordOf 8 = .ok (.bipush 15, 2) := by decide +kernel
theorem dX12_wordOf_10 : decode cX12_wordOf 10 = .ok (.bipush 6, 2) := by decide +kernel
theorem dX12_wordOf_12 : decode cX12_wordOf 12 = .ok (.bipush 6, 2) := by decide +kernel
theorem dX12_wordOf_14 : decode cX12_wordOf 14 = .ok (.iconst 0, 1) := by decide +kernel
theorem dX12_wordOf_15 : decode cX12_wordOf 15 = .ok (.iconst 0, 1) := by decide +kernel
theorem dX12_wordOf_16 : decode cX12_wordOf 16 = .ok (.iconst 0, 1) := by decide +kernel
theorem dX12_wordOf_17 : decode cX12_wordOf 17 = .ok (.invokevirtual 159, 3) := by decide +kernel
theorem dX12_wordOf_20 : decode cX12_wordOf 20 = .ok (.ifCond .eq 7, 3) := by decide +kernel
theorem dX12_wordOf_23 : decode cX12_wordOf 23 = .ok (.iconst 5, 1) := by decide +kernel
theorem dX12_wordOf_24 : decode cX12_wordOf 24 = .ok (.goto 43, 3) := by decide +kernel
theorem dX12_wordOf_27 : decode cX12_wordOf 27 = .ok (.aload_n 0, 1) := by decide +kernel
theorem dX12_wordOf_28 : decode cX12_wordOf 28 = .ok (.iconst 1, 1) := by decide +kernel
theorem dX12_wordOf_29 : decode cX12_wordOf 29 = .ok (.iconst 4, 1) := by decide +kernel
theorem dX12_wordOf_30 : decode cX12_wordOf 30 = .ok (.iconst 4, 1) := by decide +kernel
theorem dX12_wordOf_31 : decode cX12_wordOf 31 = .ok (.iconst 0, 1) := by decide +kernel
theorem dX12_wordOf_32 : decode cX12_wordOf 32 = .ok (.iconst 0, 1) := by decide +kernel
theorem dX12_wordOf_33 : decode cX12_wordOf 33 = .ok (.iconst 0, 1) := by decide +kernel
theorem dX12_wordOf_34 : decode cX12_wordOf 34 = .ok (.invokevirtual 159, 3) := by decide +kernel
theorem dX12_wordOf_37 : decode cX12_wordOf 37 = .ok (.ifCond .eq 8, 3) := by decide +kernel
theorem dX12_wordOf_40 : decode cX12_wordOf 40 = .ok (.bipush 6, 2) := by decide +kernel
theorem dX12_wordOf_42 : decode cX12_wordOf 42 = .ok (.goto 25, 3) := by decide +kernel
theorem dX12_wordOf_45 : decode cX12_wordOf 45 = .ok (.aload_n 0, 1) := by decide +kernel
theorem dX12_wordOf_46 : decode cX12_wordOf 46 = .ok (.bipush 13, 2) := by decide +kernel
theorem dX12_wordOf_48 : decode cX12_wordOf 48 = .ok (.bipush 15, 2) := by decide +kernel
theorem dX12_wordOf_50 : decode cX12_wordOf 50 = .ok (.bipush 18, 2) := by decide +kernel
theorem dX12_wordOf_52 : decode cX12_wordOf 52 = .ok (.iconst 5, 1) := by decide +kernel
theorem dX12_wordOf_53 : decode cX12_wordOf 53 = .ok (.iconst 0, 1) := by decide +kernel
theorem dX12_wordOf_54 : decode cX12_wordOf 54 = .ok (.iconst 0, 1) := by decide +kernel
theorem dX12_wordOf_55 : decode cX12_wordOf 55 = .ok (.invokevirtual 159, 3) := by decide +kernel
theorem dX12_wordOf_58 : decode cX12_wordOf 58 = .ok (.ifCond .eq 8, 3) := by decide +kernel
theorem dX12_wordOf_61 : decode cX12_wordOf 61 = .ok (.bipush 7, 2) := by decide +kernel
theorem dX12_wordOf_63 : decode cX12_wordOf 63 = .ok (.goto 4, 3) := by decide +kernel
theorem dX12_wordOf_66 : decode cX12_wordOf 66 = .ok (.iconst (-1), 1) := by decide +kernel
theorem dX12_wordOf_67 : decode cX12_wordOf 67 = .ok (.ireturn, 1) := by decide +kernel
theorem dX12_wordOf_68 : decode cX12_wordOf 68 = .ok (.aload_n 0, 1) := by decide +kernel
theorem dX12_wordOf_69 : decode cX12_wordOf 69 = .ok (.bipush 19, 2) := by decide +kernel
theorem dX12_wordOf_71 : decode cX12_wordOf 71 = .ok (.bipush 11, 2) := by decide +kernel
theorem dX12_wordOf_73 : decode cX12_wordOf 73 = .ok (.bipush 9, 2) := by decide +kernel
theorem dX12_wordOf_75 : decode cX12_wordOf 75 = .ok (.bipush 14, 2) := by decide +kernel
theorem dX12_wordOf_77 : decode cX12_wordOf 77 = .ok (.iconst 0, 1) := by decide +kernel
theorem dX12_wordOf_78 : decode cX12_wordOf 78 = .ok (.iconst 0, 1) := by decide +kernel
theorem dX12_wordOf_79 : decode cX12_wordOf 79 = .ok (.invokevirtual 159, 3) := by decide +kernel
theorem dX12_wordOf_82 : decode cX12_wordOf 82 = .ok (.ifCond .eq 5, 3) := by decide +kernel
theorem dX12_wordOf_85 : decode cX12_wordOf 85 = .ok (.iconst 0, 1) := by decide +kernel
theorem dX12_wordOf_86 : decode cX12_wordOf 86 = .ok (.ireturn, 1) := by decide +kernel
theorem dX12_wordOf_87 : decode cX12_wordOf 87 = .ok (.aload_n 0, 1) := by decide +kernel
theorem dX12_wordOf_88 : decode cX12_wordOf 88 = .ok (.bipush 23, 2) := by decide +kernel
theorem dX12_wordOf_90 : decode cX12_wordOf 90 = .ok (.iconst 1, 1) := by decide +kernel
theorem dX12_wordOf_91 : decode cX12_wordOf 91 = .ok (.bipush 22, 2) := by decide +kernel
theorem dX12_wordOf_93 : decode cX12_wordOf 93 = .ok (.iconst 5, 1) := by decide +kernel
theorem dX12_wordOf_94 : decode cX12_wordOf 94 = .ok (.iconst 0, 1) := by decide +kernel
theorem dX12_wordOf_95 : decode cX12_wordOf 95 = .ok (.iconst 0, 1) := by decide +kernel
theorem dX12_wordOf_96 : decode cX12_wordOf 96 = .ok (.invokevirtual 159, 3) := by decide +kernel
theorem dX12_wordOf_99 : decode cX12_wordOf 99 = .ok (.ifCond .eq 5, 3) := by decide +kernel
theorem dX12_wordOf_102 : decode cX12_wordOf 102 = .ok (.iconst 1, 1) := by decide +kernel
theorem dX12_wordOf_103 : decode cX12_wordOf 103 = .ok (.ireturn, 1) := by decide +kernel
theorem dX12_wordOf_104 : decode cX12_wordOf 104 = .ok (.aload_n 0, 1) := by decide +kernel
theorem dX12_wordOf_105 : decode cX12_wordOf 105 = .ok (.iconst 5, 1) := by decide +kernel
theorem dX12_wordOf_106 : decode cX12_wordOf 106 = .ok (.iconst 4, 1) := by decide +kernel
theorem dX12_wordOf_107 : decode cX12_wordOf 107 = .ok (.iconst 4, 1) := by decide +kernel
theorem dX12_wordOf_108 : decode cX12_wordOf 108 = .ok (.bipush 25, 2) := by decide +kernel
theorem dX12_wordOf_110 : decode cX12_wordOf 110 = .ok (.iconst 0, 1) := by decide +kernel
theorem dX12_wordOf_111 : decode cX12_wordOf 111 = .ok (.iconst 0, 1) := by decide +kernel
theorem dX12_wordOf_112 : decode cX12_wordOf 112 = .ok (.invokevirtual 159, 3) := by decide +kernel
theorem dX12_wordOf_115 : decode cX12_wordOf 115 = .ok (.ifCond .eq 5, 3) := by decide +kernel
theorem dX12_wordOf_118 : decode cX12_wordOf 118 = .ok (.iconst 2, 1) := by decide +kernel
theorem dX12_wordOf_119 : decode cX12_wordOf 119 = .ok (.ireturn, 1) := by decide +kernel
theorem dX12_wordOf_120 : decode cX12_wordOf 120 = .ok (.aload_n 0, 1) := by decide +kernel
theorem dX12_wordOf_121 : decode cX12_wordOf 121 = .ok (.bipush 19, 2) := by decide +kernel
theorem dX12_wordOf_123 : decode cX12_wordOf 123 = .ok (.bipush 9, 2) := by decide +kernel
theorem dX12_wordOf_125 : decode cX12_wordOf 125 = .ok (.iconst 4, 1) := by decide +kernel
theorem dX12_wordOf_126 : decode cX12_wordOf 126 = .ok (.iconst 5, 1) := by decide +kernel
theorem dX12_wordOf_127 : decode cX12_wordOf 127 = .ok (.bipush 19, 2) := by decide +kernel
theorem dX12_wordOf_129 : decode cX12_wordOf 129 = .ok (.iconst 0, 1) := by decide +kernel
theorem dX12_wordOf_130 : decode cX12_wordOf 130 = .ok (.invokevirtual 159, 3) := by decide +kernel
theorem dX12_wordOf_133 : decode cX12_wordOf 133 = .ok (.ifCond .eq 5, 3) := by decide +kernel
theorem dX12_wordOf_136 : decode cX12_wordOf 136 = .ok (.iconst 3, 1) := by decide +kernel
theorem dX12_wordOf_137 : decode cX12_wordOf 137 = .ok (.ireturn, 1) := by decide +kernel
theorem dX12_wordOf_138 : decode cX12_wordOf 138 = .ok (.aload_n 0, 1) := by decide +kernel
theorem dX12_wordOf_139 : decode cX12_wordOf 139 = .ok (.bipush 6, 2) := by decide +kernel
theorem dX12_wordOf_141 : decode cX12_wordOf 141 = .ok (.bipush 15, 2) := by decide +kernel
theorem dX12_wordOf_143 : decode cX12_wordOf 143 = .ok (.bipush 21, 2) := by decide +kernel
theorem dX12_wordOf_145 : decode cX12_wordOf 145 = .ok (.bipush 12, 2) := by decide +kernel
theorem dX12_wordOf_147 : decode cX12_wordOf 147 = .ok (.iconst 0, 1) := by decide +kernel
theorem dX12_wordOf_148 : decode cX12_wordOf 148 = .ok (.iconst 0, 1) := by decide +kernel
theorem dX12_wordOf_149 : decode cX12_wordOf 149 = .ok (.invokevirtual 159, 3) := by decide +kernel
theorem dX12_wordOf_152 : decode cX12_wordOf 152 = .ok (.ifCond .eq 7, 3) := by decide +kernel
theorem dX12_wordOf_155 : decode cX12_wordOf 155 = .ok (.iconst 4, 1) := by decide +kernel
theorem dX12_wordOf_156 : decode cX12_wordOf 156 = .ok (.goto 4, 3) := by decide +kernel
theorem dX12_wordOf_159 : decode cX12_wordOf 159 = .ok (.iconst (-1), 1) := by decide +kernel
theorem dX12_wordOf_160 : decode cX12_wordOf 160 = .ok (.ireturn, 1) := by decide +kernel
theorem dX12_clause_0 : decode cX12_clause 0 = .ok (.aload_n 0, 1) := by decide +kernel
theorem dX12_clause_1 : decode cX12_clause 1 = .ok (.invokevirtual 211, 3) := by decide +kernel
theorem dX12_clause_4 : decode cX12_clause 4 = .ok (.istore_n 1, 1) := by decide +kernel
theorem dX12_clause_5 : decode cX12_clause 5 = .ok (.iload_n 1, 1) := by decide +kernel
theorem dX12_clause_6 : decode cX12_clause 6 = .ok (.iconst (-1), 1) := by decide +kernel
theorem dX12_clause_7 : decode cX12_clause 7 = .ok (.if_icmp .ne 15, 3) := by decide +kernel
theorem dX12_clause_10 : decode cX12_clause 10 = .ok (.aload_n 0, 1) := by decide +kernel
theorem dX12_clause_11 : decode cX12_clause 11 = .ok (.iconst 1, 1) := by decide +kernel
theorem dX12_clause_12 : decode cX12_clause 12 = .ok (.aload_n 0, 1) := by decide +kernel
theorem dX12_clause_13 : decode cX12_clause 13 = .ok (.getfield 117, 3) := by decide +kernel
theorem dX12_clause_16 : decode cX12_clause 16 = .ok (.invokevirtual 141, 3) := by decide +kernel
theorem dX12_clause_19 : decode cX12_clause 19 = .ok (.goto 21, 3) := by decide +kernel
theorem dX12_clause_22 : decode cX12_clause 22 = .ok (.aload_n 0, 1) := by decide +kernel
theorem dX12_clause_23 : decode cX12_clause 23 = .ok (.getfield 214, 3) := by decide +kernel
theorem dX12_clause_26 : decode cX12_clause 26 = .ok (.bipush 16, 2) := by decide +kernel
theorem dX12_clause_28 : decode cX12_clause 28 = .ok (.if_icmp .ne 12, 3) := by decide +kernel
theorem dX12_clause_31 : decode cX12_clause 31 = .ok (.aload_n 0, 1) := by decide +kernel
theorem dX12_clause_32 : decode cX12_clause 32 = .ok (.iconst 3, 1) := by decide +kernel
theorem dX12_clause_33 : decode cX12_clause 33 = .ok (.aload_n 0, 1) := by decide +kernel
theorem dX12_clause_34 : decode cX12_clause 34 = .ok (.getfield 117, 3) := by decide +kernel
theorem dX12_clause_37 : decode cX12_clause 37 = .ok (.invokevirtual 141, 3) := by decide +kernel
theorem dX12_clause_40 : decode cX12_clause 40 = .ok (.aload_n 0, 1) := by decide +kernel
theorem dX12_clause_41 : decode cX12_clause 41 = .ok (.getfield 124, 3) := by decide +kernel
theorem dX12_clause_44 : decode cX12_clause 44 = .ok (.ifCond .eq 4, 3) := by decide +kernel
theorem dX12_clause_47 : decode cX12_clause 47 = .ok (.return_, 1) := by decide +kernel
theorem dX12_clause_48 : decode cX12_clause 48 = .ok (.aload_n 0, 1) := by decide +kernel
theorem dX12_clause_49 : decode cX12_clause 49 = .ok (.invokevirtual 174, 3) := by decide +kernel
theorem dX12_clause_52 : decode cX12_clause 52 = .ok (.aload_n 0, 1) := by decide +kernel
theorem dX12_clause_53 : decode cX12_clause 53 = .ok (.invokevirtual 181, 3) := by decide +kernel
theorem dX12_clause_56 : decode cX12_clause 56 = .ok (.lstore_n 2, 1) := by decide +kernel
theorem dX12_clause_57 : decode cX12_clause 57 = .ok (.iconst 1, 1) := by decide +kernel
theorem dX12_clause_58 : decode cX12_clause 58 = .ok (.istore 4, 2) := by decide +kernel
theorem dX12_clause_60 : decode cX12_clause 60 = .ok (.aload_n 0, 1) := by decide +kernel
theorem dX12_clause_61 : decode cX12_clause 61 = .ok (.getfield 124, 3) := by decide +kernel
theorem dX12_clause_64 : decode cX12_clause 64 = .ok (.ifCond .ne 28, 3) := by decide +kernel
theorem dX12_clause_67 : decode cX12_clause 67 = .ok (.aload_n 0, 1) := by decide +kernel
theorem dX12_clause_68 : decode cX12_clause 68 = .ok (.bipush 9, 2) := by decide +kernel
theorem dX12_clause_70 : decode cX12_clause 70 = .ok (.bipush 6, 2) := by decide +kernel
theorem dX12_clause_72 : decode cX12_clause 72 = .ok (.iconst 0, 1) := by decide +kernel
theorem dX12_clause_73 : decode cX12_clause 73 = .ok (.iconst 0, 1) := by decide +kernel
theorem dX12_clause_74 : decode cX12_clause 74 = .ok (.iconst 0, 1) := by decide +kernel
theorem dX12_clause_75 : decode cX12_clause 75 = .ok (.iconst 0, 1) := by decide +kernel
theorem dX12_clause_76 : decode cX12_clause 76 = .ok (.invokevirtual 159, 3) := by decide +kernel
theorem dX12_clause_79 : decode cX12_clause 79 = .ok (.ifCond .eq 13, 3) := by decide +kernel
theorem dX12_clause_82 : decode cX12_clause 82 = .ok (.aload_n 0, 1) := by decide +kernel
theorem dX12_clause_83 : decode cX12_clause 83 = .ok (.invokevirtual 174, 3) := by decide +kernel
theorem dX12_clause_86 : decode cX12_clause 86 = .ok (.aload_n 0, 1) := by decide +kernel
theorem dX12_clause_87 : decode cX12_clause 87 = .ok (.invokevirtual 201, 3) := by decide +kernel
theorem dX12_clause_90 : decode cX12_clause 90 = .ok (.istore 4, 2) := by decide +kernel
theorem dX12_clause_92 : decode cX12_clause 92 = .ok (.aload_n 0, 1) := by decide +kernel
theorem dX12_clause_93 : decode cX12_clause 93 = .ok (.getfield 124, 3) := by decide +kernel
theorem dX12_clause_96 : decode cX12_clause 96 = .ok (.ifCond .ne 9, 3) := by decide +kernel
theorem dX12_clause_99 : decode cX12_clause 99 = .ok (.aload_n 0, 1) := by decide +kernel
theorem dX12_clause_100 : decode cX12_clause 100 = .ok (.bipush 59, 2) := by decide +kernel
theorem dX12_clause_102 : decode cX12_clause 102 = .ok (.invokevirtual 184, 3) := by decide +kernel
theorem dX12_clause_105 : decode cX12_clause 105 = .ok (.iload 4, 2) := by decide +kernel
theorem dX12_clause_107 : decode cX12_clause 107 = .ok (.ifCond .eq 10, 3) := by decide +kernel
theorem dX12_clause_110 : decode cX12_clause 110 = .ok (.aload_n 0, 1) := by decide +kernel
theorem dX12_clause_111 : decode cX12_clause 111 = .ok (.getfield 31, 3) := by decide +kernel
theorem dX12_clause_114 : decode cX12_clause 114 = .ok (.iload_n 1, 1) := by decide +kernel
theorem dX12_clause_115 : decode cX12_clause 115 = .ok (.lload_n 2, 1) := by decide +kernel
theorem dX12_clause_116 : decode cX12_clause 116 = .ok (.lastore, 1) := by decide +kernel
theorem dX12_clause_117 : decode cX12_clause 117 = .ok (.aload_n 0, 1) := by decide +kernel
theorem dX12_clause_118 : decode cX12_clause 118 = .ok (.dup, 1) := by decide +kernel
theorem dX12_clause_119 : decode cX12_clause 119 = .ok (.getfield 214, 3) := by decide +kernel
theorem dX12_clause_122 : decode cX12_clause 122 = .ok (.iconst 1, 1) := by decide +kernel
theorem dX12_clause_123 : decode cX12_clause 123 = .ok (.iadd, 1) := by decide +kernel
theorem dX12_clause_124 : decode cX12_clause 124 = .ok (.putfield 214, 3) := by decide +kernel
theorem dX12_clause_127 : decode cX12_clause 127 = .ok (.return_, 1) := by decide +kernel
theorem dX12_walks_0 : decode cX12_walks 0 = .ok (.aload_n 0, 1) := by decide +kernel
theorem dX12_walks_1 : decode cX12_walks 1 = .ok (.iconst 0, 1) := by decide +kernel
theorem dX12_walks_2 : decode cX12_walks 2 = .ok (.putfield 117, 3) := by decide +kernel
theorem dX12_walks_5 : decode cX12_walks 5 = .ok (.aload_n 0, 1) := by decide +kernel
theorem dX12_walks_6 : decode cX12_walks 6 = .ok (.iconst 0, 1) := by decide +kernel
theorem dX12_walks_7 : decode cX12_walks 7 = .ok (.putfield 156, 3) := by decide +kernel
theorem dX12_walks_10 : decode cX12_walks 10 = .ok (.aload_n 0, 1) := by decide +kernel
theorem dX12_walks_11 : decode cX12_walks 11 = .ok (.iconst 0, 1) := by decide +kernel
theorem dX12_walks_12 : decode cX12_walks 12 = .ok (.putfield 124, 3) := by decide +kernel
theorem dX12_walks_15 : decode cX12_walks 15 = .ok (.aload_n 0, 1) := by decide +kernel
theorem dX12_walks_16 : decode cX12_walks 16 = .ok (.iconst (-1), 1) := by decide +kernel
theorem dX12_walks_17 : decode cX12_walks 17 = .ok (.putfield 127, 3) := by decide +kernel
theorem dX12_walks_20 : decode cX12_walks 20 = .ok (.aload_n 0, 1) := by decide +kernel
theorem dX12_walks_21 : decode cX12_walks 21 = .ok (.iconst 0, 1) := by decide +kernel
theorem dX12_walks_22 : decode cX12_walks 22 = .ok (.putfield 214, 3) := by decide +kernel
theorem dX12_walks_25 : decode cX12_walks 25 = .ok (.iconst 0, 1) := by decide +kernel
theorem dX12_walks_26 : decode cX12_walks 26 = .ok (.istore_n 1, 1) := by decide +kernel
theorem dX12_walks_27 : decode cX12_walks 27 = .ok (.iload_n 1, 1) := by decide +kernel
theorem dX12_walks_28 : decode cX12_walks 28 = .ok (.bipush 8, 2) := by decide +kernel
theorem dX12_walks_30 : decode cX12_walks 30 = .ok (.if_icmp .ge 16, 3) := by decide +kernel
theorem dX12_walks_33 : decode cX12_walks 33 = .ok (.aload_n 0, 1) := by decide +kernel
theorem dX12_walks_34 : decode cX12_walks 34 = .ok (.getfield 31, 3) := by decide +kernel
theorem dX12_walks_37 : decode cX12_walks 37 = .ok (.iload_n 1, 1) := by decide +kernel
theorem dX12_walks_38 : decode cX12_walks 38 = .ok (.lconst 0, 1) := by decide +kernel
theorem dX12_walks_39 : decode cX12_walks 39 = .ok (.lastore, 1) := by decide +kernel
theorem dX12_walks_40 : decode cX12_walks 40 = .ok (.iinc 1 1, 3) := by decide +kernel
theorem dX12_walks_43 : decode cX12_walks 43 = .ok (.goto (-16), 3) := by decide +kernel
theorem dX12_walks_46 : decode cX12_walks 46 = .ok (.aload_n 0, 1) := by decide +kernel
theorem dX12_walks_47 : decode cX12_walks 47 = .ok (.invokevirtual 145, 3) := by decide +kernel
theorem dX12_walks_50 : decode cX12_walks 50 = .ok (.aload_n 0, 1) := by decide +kernel
theorem dX12_walks_51 : decode cX12_walks 51 = .ok (.getfield 124, 3) := by decide +kernel
theorem dX12_walks_54 : decode cX12_walks 54 = .ok (.ifCond .ne 25, 3) := by decide +kernel
theorem dX12_walks_57 : decode cX12_walks 57 = .ok (.aload_n 0, 1) := by decide +kernel
theorem dX12_walks_58 : decode cX12_walks 58 = .ok (.getfield 117, 3) := by decide +kernel
theorem dX12_walks_61 : decode cX12_walks 61 = .ok (.aload_n 0, 1) := by decide +kernel
theorem dX12_walks_62 : decode cX12_walks 62 = .ok (.getfield 111, 3) := by decide +kernel
theorem dX12_walks_65 : decode cX12_walks 65 = .ok (.if_icmp .ge 14, 3) := by decide +kernel
theorem dX12_walks_68 : decode cX12_walks 68 = .ok (.aload_n 0, 1) := by decide +kernel
theorem dX12_walks_69 : decode cX12_walks 69 = .ok (.invokevirtual 217, 3) := by decide +kernel
theorem dX12_walks_72 : decode cX12_walks 72 = .ok (.aload_n 0, 1) := by decide +kernel
theorem dX12_walks_73 : decode cX12_walks 73 = .ok (.invokevirtual 145, 3) := by decide +kernel
theorem dX12_walks_76 : decode cX12_walks 76 = .ok (.goto (-26), 3) := by decide +kernel
theorem dX12_walks_79 : decode cX12_walks 79 = .ok (.return_, 1) := by decide +kernel
theorem dX12_law_0 : decode cX12_law 0 = .ok (.aload_n 0, 1) := by decide +kernel
theorem dX12_law_1 : decode cX12_law 1 = .ok (.iconst 0, 1) := by decide +kernel
theorem dX12_law_2 : decode cX12_law 2 = .ok (.putfield 79, 3) := by decide +kernel
theorem dX12_law_5 : decode cX12_law 5 = .ok (.aload_n 0, 1) := by decide +kernel
theorem dX12_law_6 : decode cX12_law 6 = .ok (.iload_n 1, 1) := by decide +kernel
theorem dX12_law_7 : decode cX12_law 7 = .ok (.iconst 0, 1) := by decide +kernel
theorem dX12_law_8 : decode cX12_law 8 = .ok (.aload_n 0, 1) := by decide +kernel
theorem dX12_law_9 : decode cX12_law 9 = .ok (.getfield 108, 3) := by decide +kernel
theorem dX12_law_12 : decode cX12_law 12 = .ok (.invokestatic 82, 3) := by decide +kernel
theorem dX12_law_15 : decode cX12_law 15 = .ok (.ifCond .ne 7, 3) := by decide +kernel
theorem dX12_law_18 : decode cX12_law 18 = .ok (.iconst 1, 1) := by decide +kernel
theorem dX12_law_19 : decode cX12_law 19 = .ok (.goto 4, 3) := by decide +kernel
theorem dX12_law_22 : decode cX12_law 22 = .ok (.iconst 0, 1) := by decide +kernel
theorem dX12_law_23 : decode cX12_law 23 = .ok (.iconst 1, 1) := by decide +kernel
theorem dX12_law_24 : decode cX12_law 24 = .ok (.invokevirtual 86, 3) := by decide +kernel
theorem dX12_law_27 : decode cX12_law 27 = .ok (.ifCond .eq 5, 3) := by decide +kernel
theorem dX12_law_30 : decode cX12_law 30 = .ok (.iconst 0, 1) := by decide +kernel
theorem dX12_law_31 : decode cX12_law 31 = .ok (.ireturn, 1) := by decide +kernel
theorem dX12_law_32 : decode cX12_law 32 = .ok (.aload_n 0, 1) := by decide +kernel
theorem dX12_law_33 : decode cX12_law 33 = .ok (.iconst 0, 1) := by decide +kernel
theorem dX12_law_34 : decode cX12_law 34 = .ok (.putfield 108, 3) := by decide +kernel
theorem dX12_law_37 : decode cX12_law 37 = .ok (.aload_n 0, 1) := by decide +kernel
theorem dX12_law_38 : decode cX12_law 38 = .ok (.iconst (-1), 1) := by decide +kernel
theorem dX12_law_39 : decode cX12_law 39 = .ok (.putfield 11, 3) := by decide +kernel
theorem dX12_law_42 : decode cX12_law 42 = .ok (.iload_n 2, 1) := by decide +kernel
theorem dX12_law_43 : decode cX12_law 43 = .ok (.ifCond .eq 14, 3) := by decide +kernel
theorem dX12_law_46 : decode cX12_law 46 = .ok (.aload_n 0, 1) := by decide +kernel
theorem dX12_law_47 : decode cX12_law 47 = .ok (.getfield 220, 3) := by decide +kernel
theorem dX12_law_50 : decode cX12_law 50 = .ok (.iconst 3, 1) := by decide +kernel
theorem dX12_law_51 : decode cX12_law 51 = .ok (.if_icmp .ne 16, 3) := by decide +kernel
theorem dX12_law_54 : decode cX12_law 54 = .ok (.goto 11, 3) := by decide +kernel
theorem dX12_law_57 : decode cX12_law 57 = .ok (.aload_n 0, 1) := by decide +kernel
theorem dX12_law_58 : decode cX12_law 58 = .ok (.getfield 223, 3) := by decide +kernel
theorem dX12_law_61 : decode cX12_law 61 = .ok (.iconst 4, 1) := by decide +kernel
theorem dX12_law_62 : decode cX12_law 62 = .ok (.if_icmp .ne 5, 3) := by decide +kernel
theorem dX12_law_65 : decode cX12_law 65 = .ok (.iconst (-1), 1) := by decide +kernel
theorem dX12_law_66 : decode cX12_law 66 = .ok (.ireturn, 1) := by decide +kernel
theorem dX12_law_67 : decode cX12_law 67 = .ok (.aload_n 0, 1) := by decide +kernel
theorem dX12_law_68 : decode cX12_law 68 = .ok (.iconst (-1), 1) := by decide +kernel
theorem dX12_law_69 : decode cX12_law 69 = .ok (.putfield 114, 3) := by decide +kernel
theorem dX12_law_72 : decode cX12_law 72 = .ok (.aload_n 0, 1) := by decide +kernel
theorem dX12_law_73 : decode cX12_law 73 = .ok (.iload_n 1, 1) := by decide +kernel
theorem dX12_law_74 : decode cX12_law 74 = .ok (.putfield 111, 3) := by decide +kernel
theorem dX12_law_77 : decode cX12_law 77 = .ok (.aload_n 0, 1) := by decide +kernel
theorem dX12_law_78 : decode cX12_law 78 = .ok (.iload_n 2, 1) := by decide +kernel
theorem dX12_law_79 : decode cX12_law 79 = .ok (.putfield 207, 3) := by decide +kernel
theorem dX12_law_82 : decode cX12_law 82 = .ok (.aload_n 0, 1) := by decide +kernel
theorem dX12_law_83 : decode cX12_law 83 = .ok (.invokevirtual 226, 3) := by decide +kernel
theorem dX12_law_86 : decode cX12_law 86 = .ok (.aload_n 0, 1) := by decide +kernel
theorem dX12_law_87 : decode cX12_law 87 = .ok (.aload_n 0, 1) := by decide +kernel
theorem dX12_law_88 : decode cX12_law 88 = .ok (.getfield 127, 3) := by decide +kernel
theorem dX12_law_91 : decode cX12_law 91 = .ok (.putfield 11, 3) := by decide +kernel
theorem dX12_law_94 : decode cX12_law 94 = .ok (.aload_n 0, 1) := by decide +kernel
theorem dX12_law_95 : decode cX12_law 95 = .ok (.getfield 124, 3) := by decide +kernel
theorem dX12_law_98 : decode cX12_law 98 = .ok (.ifCond .eq 11, 3) := by decide +kernel
theorem dX12_law_101 : decode cX12_law 101 = .ok (.aload_n 0, 1) := by decide +kernel
theorem dX12_law_102 : decode cX12_law 102 = .ok (.getfield 124, 3) := by decide +kernel
theorem dX12_law_105 : decode cX12_law 105 = .ok (.bipush 10, 2) := by decide +kernel
theorem dX12_law_107 : decode cX12_law 107 = .ok (.isub, 1) := by decide +kernel
theorem dX12_law_108 : decode cX12_law 108 = .ok (.ireturn, 1) := by decide +kernel
theorem dX12_law_109 : decode cX12_law 109 = .ok (.iload_n 2, 1) := by decide +kernel
theorem dX12_law_110 : decode cX12_law 110 = .ok (.ifCond .eq 12, 3) := by decide +kernel
theorem dX12_law_113 : decode cX12_law 113 = .ok (.iconst 4, 1) := by decide +kernel
theorem dX12_law_114 : decode cX12_law 114 = .ok (.aload_n 0, 1) := by decide +kernel
theorem dX12_law_115 : decode cX12_law 115 = .ok (.getfield 220, 3) := by decide +kernel
theorem dX12_law_118 : decode cX12_law 118 = .ok (.iadd, 1) := by decide +kernel
theorem dX12_law_119 : decode cX12_law 119 = .ok (.goto 7, 3) := by decide +kernel
theorem dX12_law_122 : decode cX12_law 122 = .ok (.aload_n 0, 1) := by decide +kernel
theorem dX12_law_123 : decode cX12_law 123 = .ok (.getfield 223, 3) := by decide +kernel
theorem dX12_law_126 : decode cX12_law 126 = .ok (.istore_n 3, 1) := by decide +kernel
theorem dX12_law_127 : decode cX12_law 127 = .ok (.iconst 0, 1) := by decide +kernel
theorem dX12_law_128 : decode cX12_law 128 = .ok (.istore 4, 2) := by decide +kernel
theorem dX12_law_130 : decode cX12_law 130 = .ok (.iload 4, 2) := by decide +kernel
theorem dX12_law_132 : decode cX12_law 132 = .ok (.iload_n 1, 1) := by decide +kernel
theorem dX12_law_133 : decode cX12_law 133 = .ok (.if_icmp .ge 25, 3) := by decide +kernel
theorem dX12_law_136 : decode cX12_law 136 = .ok (.aload_n 0, 1) := by decide +kernel
theorem dX12_law_137 : decode cX12_law 137 = .ok (.getfield 21, 3) := by decide +kernel
theorem dX12_law_140 : decode cX12_law 140 = .ok (.iload_n 3, 1) := by decide +kernel
theorem dX12_law_141 : decode cX12_law 141 = .ok (.aaload, 1) := by decide +kernel
theorem dX12_law_142 : decode cX12_law 142 = .ok (.iload 4, 2) := by decide +kernel
theorem dX12_law_144 : decode cX12_law 144 = .ok (.aload_n 0, 1) := by decide +kernel
theorem dX12_law_145 : decode cX12_law 145 = .ok (.getfield 15, 3) := by decide +kernel
theorem dX12_law_148 : decode cX12_law 148 = .ok (.iload 4, 2) := by decide +kernel
theorem dX12_law_150 : decode cX12_law 150 = .ok (.iaload, 1) := by decide +kernel
theorem dX12_law_151 : decode cX12_law 151 = .ok (.iastore, 1) := by decide +kernel
theorem dX12_law_152 : decode cX12_law 152 = .ok (.iinc 4 1, 3) := by decide +kernel
theorem dX12_law_155 : decode cX12_law 155 = .ok (.goto (-25), 3) := by decide +kernel
theorem dX12_law_158 : decode cX12_law 158 = .ok (.aload_n 0, 1) := by decide +kernel
theorem dX12_law_159 : decode cX12_law 159 = .ok (.getfield 24, 3) := by decide +kernel
theorem dX12_law_162 : decode cX12_law 162 = .ok (.iload_n 3, 1) := by decide +kernel
theorem dX12_law_163 : decode cX12_law 163 = .ok (.iload_n 1, 1) := by decide +kernel
theorem dX12_law_164 : decode cX12_law 164 = .ok (.iastore, 1) := by decide +kernel
theorem dX12_law_165 : decode cX12_law 165 = .ok (.iload_n 2, 1) := by decide +kernel
theorem dX12_law_166 : decode cX12_law 166 = .ok (.ifCond .eq 16, 3) := by decide +kernel
theorem dX12_law_169 : decode cX12_law 169 = .ok (.aload_n 0, 1) := by decide +kernel
theorem dX12_law_170 : decode cX12_law 170 = .ok (.dup, 1) := by decide +kernel
theorem dX12_law_171 : decode cX12_law 171 = .ok (.getfield 220, 3) := by decide +kernel
theorem dX12_law_174 : decode cX12_law 174 = .ok (.iconst 1, 1) := by decide +kernel
theorem dX12_law_175 : decode cX12_law 175 = .ok (.iadd, 1) := by decide +kernel
theorem dX12_law_176 : decode cX12_law 176 = .ok (.putfield 220, 3) := by decide +kernel
theorem dX12_law_179 : decode cX12_law 179 = .ok (.goto 13, 3) := by decide +kernel
theorem dX12_law_182 : decode cX12_law 182 = .ok (.aload_n 0, 1) := by decide +kernel
theorem dX12_law_183 : decode cX12_law 183 = .ok (.dup, 1) := by decide +kernel
theorem dX12_law_184 : decode cX12_law 184 = .ok (.getfield 223, 3) := by decide +kernel
theorem dX12_law_187 : decode cX12_law 187 = .ok (.iconst 1, 1) := by decide +kernel
theorem dX12_law_188 : decode cX12_law 188 = .ok (.iadd, 1) := by decide +kernel
theorem dX12_law_189 : decode cX12_law 189 = .ok (.putfield 223, 3) := by decide +kernel
theorem dX12_law_192 : decode cX12_law 192 = .ok (.iload_n 2, 1) := by decide +kernel
theorem dX12_law_193 : decode cX12_law 193 = .ok (.ifCond .eq 12, 3) := by decide +kernel
theorem dX12_law_196 : decode cX12_law 196 = .ok (.aload_n 0, 1) := by decide +kernel
theorem dX12_law_197 : decode cX12_law 197 = .ok (.getfield 220, 3) := by decide +kernel
theorem dX12_law_200 : decode cX12_law 200 = .ok (.iconst 1, 1) := by decide +kernel
theorem dX12_law_201 : decode cX12_law 201 = .ok (.isub, 1) := by decide +kernel
theorem dX12_law_202 : decode cX12_law 202 = .ok (.goto 9, 3) := by decide +kernel
theorem dX12_law_205 : decode cX12_law 205 = .ok (.aload_n 0, 1) := by decide +kernel
theorem dX12_law_206 : decode cX12_law 206 = .ok (.getfield 223, 3) := by decide +kernel
theorem dX12_law_209 : decode cX12_law 209 = .ok (.iconst 1, 1) := by decide +kernel
theorem dX12_law_210 : decode cX12_law 210 = .ok (.isub, 1) := by decide +kernel
theorem dX12_law_211 : decode cX12_law 211 = .ok (.ireturn, 1) := by decide +kernel
theorem dX12_fault_0 : decode cX12_fault 0 = .ok (.aload_n 0, 1) := by decide +kernel
theorem dX12_fault_1 : decode cX12_fault 1 = .ok (.iconst 0, 1) := by decide +kernel
theorem dX12_fault_2 : decode cX12_fault 2 = .ok (.putfield 79, 3) := by decide +kernel
theorem dX12_fault_5 : decode cX12_fault 5 = .ok (.aload_n 0, 1) := by decide +kernel
theorem dX12_fault_6 : decode cX12_fault 6 = .ok (.getfield 11, 3) := by decide +kernel
theorem dX12_fault_9 : decode cX12_fault 9 = .ok (.ireturn, 1) := by decide +kernel
theorem dX12_asks_0 : decode cX12_asks 0 = .ok (.aload_n 0, 1) := by decide +kernel
theorem dX12_asks_1 : decode cX12_asks 1 = .ok (.iload_n 1, 1) := by decide +kernel
theorem dX12_asks_2 : decode cX12_asks 2 = .ok (.putfield 114, 3) := by decide +kernel
theorem dX12_asks_5 : decode cX12_asks 5 = .ok (.aload_n 0, 1) := by decide +kernel
theorem dX12_asks_6 : decode cX12_asks 6 = .ok (.aload_n 0, 1) := by decide +kernel
theorem dX12_asks_7 : decode cX12_asks 7 = .ok (.getfield 24, 3) := by decide +kernel
theorem dX12_asks_10 : decode cX12_asks 10 = .ok (.iload_n 1, 1) := by decide +kernel
theorem dX12_asks_11 : decode cX12_asks 11 = .ok (.iaload, 1) := by decide +kernel
theorem dX12_asks_12 : decode cX12_asks 12 = .ok (.putfield 111, 3) := by decide +kernel
theorem dX12_asks_15 : decode cX12_asks 15 = .ok (.aload_n 0, 1) := by decide +kernel
theorem dX12_asks_16 : decode cX12_asks 16 = .ok (.iload_n 1, 1) := by decide +kernel
theorem dX12_asks_17 : decode cX12_asks 17 = .ok (.iconst 3, 1) := by decide +kernel
theorem dX12_asks_18 : decode cX12_asks 18 = .ok (.if_icmp .le 7, 3) := by decide +kernel
theorem dX12_asks_21 : decode cX12_asks 21 = .ok (.iconst 1, 1) := by decide +kernel
theorem dX12_asks_22 : decode cX12_asks 22 = .ok (.goto 4, 3) := by decide +kernel
theorem dX12_asks_25 : decode cX12_asks 25 = .ok (.iconst 0, 1) := by decide +kernel
theorem dX12_asks_26 : decode cX12_asks 26 = .ok (.putfield 207, 3) := by decide +kernel
theorem dX12_asks_29 : decode cX12_asks 29 = .ok (.aload_n 0, 1) := by decide +kernel
theorem dX12_asks_30 : decode cX12_asks 30 = .ok (.invokevirtual 226, 3) := by decide +kernel
theorem dX12_asks_33 : decode cX12_asks 33 = .ok (.iconst 0, 1) := by decide +kernel
theorem dX12_asks_34 : decode cX12_asks 34 = .ok (.istore_n 2, 1) := by decide +kernel
theorem dX12_asks_35 : decode cX12_asks 35 = .ok (.iload_n 2, 1) := by decide +kernel
theorem dX12_asks_36 : decode cX12_asks 36 = .ok (.bipush 8, 2) := by decide +kernel
theorem dX12_asks_38 : decode cX12_asks 38 = .ok (.if_icmp .ge 50, 3) := by decide +kernel
theorem dX12_asks_41 : decode cX12_asks 41 = .ok (.aload_n 0, 1) := by decide +kernel
theorem dX12_asks_42 : decode cX12_asks 42 = .ok (.getfield 31, 3) := by decide +kernel
theorem dX12_asks_45 : decode cX12_asks 45 = .ok (.iload_n 2, 1) := by decide +kernel
theorem dX12_asks_46 : decode cX12_asks 46 = .ok (.aload_n 0, 1) := by decide +kernel
theorem dX12_asks_47 : decode cX12_asks 47 = .ok (.getfield 31, 3) := by decide +kernel
theorem dX12_asks_50 : decode cX12_asks 50 = .ok (.iload_n 2, 1) := by decide +kernel
theorem dX12_asks_51 : decode cX12_asks 51 = .ok (.laload, 1) := by decide +kernel
theorem dX12_asks_52 : decode cX12_asks 52 = .ok (.lconst 0, 1) := by decide +kernel
theorem dX12_asks_53 : decode cX12_asks 53 = .ok (.iload_n 2, 1) := by decide +kernel
theorem dX12_asks_54 : decode cX12_asks 54 = .ok (.iconst 3, 1) := by decide +kernel
theorem dX12_asks_55 : decode cX12_asks 55 = .ok (.if_icmp .eq 14, 3) := by decide +kernel
theorem dX12_asks_58 : decode cX12_asks 58 = .ok (.iload_n 2, 1) := by decide +kernel
theorem dX12_asks_59 : decode cX12_asks 59 = .ok (.iconst 4, 1) := by decide +kernel
theorem dX12_asks_60 : decode cX12_asks 60 = .ok (.if_icmp .eq 9, 3) := by decide +kernel
theorem dX12_asks_63 : decode cX12_asks 63 = .ok (.iload_n 2, 1) := by decide +kernel
theorem dX12_asks_64 : decode cX12_asks 64 = .ok (.bipush 7, 2) := by decide +kernel
theorem dX12_asks_66 : decode cX12_asks 66 = .ok (.if_icmp .ne 9, 3) := by decide +kernel
theorem dX12_asks_69 : decode cX12_asks 69 = .ok (.ldc2_w 99, 3) := by decide +kernel
theorem dX12_asks_72 : decode cX12_asks 72 = .ok (.goto 6, 3) := by decide +kernel
theorem dX12_asks_75 : decode cX12_asks 75 = .ok (.ldc2_w 229, 3) := by decide +kernel
theorem dX12_asks_78 : decode cX12_asks 78 = .ok (.invokestatic 231, 3) := by decide +kernel
theorem dX12_asks_81 : decode cX12_asks 81 = .ok (.lastore, 1) := by decide +kernel
theorem dX12_asks_82 : decode cX12_asks 82 = .ok (.iinc 2 1, 3) := by decide +kernel
theorem dX12_asks_85 : decode cX12_asks 85 = .ok (.goto (-50), 3) := by decide +kernel
theorem dX12_asks_88 : decode cX12_asks 88 = .ok (.return_, 1) := by decide +kernel
theorem dX12_tellsNames_0 : decode cX12_tellsNames 0 = .ok (.iconst 0, 1) := by decide +kernel
theorem dX12_tellsNames_1 : decode cX12_tellsNames 1 = .ok (.istore 7, 2) := by decide +kernel
theorem dX12_tellsNames_3 : decode cX12_tellsNames 3 = .ok (.iload 7, 2) := by decide +kernel
theorem dX12_tellsNames_5 : decode cX12_tellsNames 5 = .ok (.iconst 5, 1) := by decide +kernel
theorem dX12_tellsNames_6 : decode cX12_tellsNames 6 = .ok (.if_icmp .ge 35, 3) := by decide +kernel
theorem dX12_tellsNames_9 : decode cX12_tellsNames 9 = .ok (.aload_n 0, 1) := by decide +kernel
theorem dX12_tellsNames_10 : decode cX12_tellsNames 10 = .ok (.getfield 27, 3) := by decide +kernel
theorem dX12_tellsNames_13 : decode cX12_tellsNames 13 = .ok (.iload 7, 2) := by decide +kernel
theorem dX12_tellsNames_15 : decode cX12_tellsNames 15 = .ok (.ifCond .ne 7, 3) := by decide +kernel
theorem dX12_tellsNames_18 : decode cX12_tellsNames 18 = .ok (.iconst 0, 1) := by decide +kernel
theorem dX12_tellsNames_19 : decode cX12_tellsNames 19 = .ok (.goto 7, 3) := by decide +kernel
theorem dX12_tellsNames_22 : decode cX12_tellsNames 22 = .ok (.iload 7, 2) := by decide +kernel
theorem dX12_tellsNames_24 : decode cX12_tellsNames 24 = .ok (.iconst 1, 1) := by decide +kernel
theorem dX12_tellsNames_25 : decode cX12_tellsNames 25 = .ok (.iadd, 1) := by decide +kernel
theorem dX12_tellsNames_26 : decode cX12_tellsNames 26 = .ok (.aload_n 0, 1) := by decide +kernel
theorem dX12_tellsNames_27 : decode cX12_tellsNames 27 = .ok (.iload_n 1, 1) := by decide +kernel
theorem dX12_tellsNames_28 : decode cX12_tellsNames 28 = .ok (.iload_n 2, 1) := by decide +kernel
theorem dX12_tellsNames_29 : decode cX12_tellsNames 29 = .ok (.iload 7, 2) := by decide +kernel
theorem dX12_tellsNames_31 : decode cX12_tellsNames 31 = .ok (.invokevirtual 101, 3) := by decide +kernel
theorem dX12_tellsNames_34 : decode cX12_tellsNames 34 = .ok (.lastore, 1) := by decide +kernel
theorem dX12_tellsNames_35 : decode cX12_tellsNames 35 = .ok (.iinc 7 1, 3) := by decide +kernel
theorem dX12_tellsNames_38 : decode cX12_tellsNames 38 = .ok (.goto (-35), 3) := by decide +kernel
theorem dX12_tellsNames_41 : decode cX12_tellsNames 41 = .ok (.aload_n 0, 1) := by decide +kernel
theorem dX12_tellsNames_42 : decode cX12_tellsNames 42 = .ok (.getfield 27, 3) := by decide +kernel
theorem dX12_tellsNames_45 : decode cX12_tellsNames 45 = .ok (.iconst 1, 1) := by decide +kernel
theorem dX12_tellsNames_46 : decode cX12_tellsNames 46 = .ok (.iload_n 3, 1) := by decide +kernel
theorem dX12_tellsNames_47 : decode cX12_tellsNames 47 = .ok (.i2l, 1) := by decide +kernel
theorem dX12_tellsNames_48 : decode cX12_tellsNames 48 = .ok (.lastore, 1) := by decide +kernel
theorem dX12_tellsNames_49 : decode cX12_tellsNames 49 = .ok (.aload_n 0, 1) := by decide +kernel
theorem dX12_tellsNames_50 : decode cX12_tellsNames 50 = .ok (.getfield 27, 3) := by decide +kernel
theorem dX12_tellsNames_53 : decode cX12_tellsNames 53 = .ok (.bipush 6, 2) := by decide +kernel
theorem dX12_tellsNames_55 : decode cX12_tellsNames 55 = .ok (.ldc2_w 97, 3) := by decide +kernel
theorem dX12_tellsNames_58 : decode cX12_tellsNames 58 = .ok (.iload_n 3, 1) := by decide +kernel
theorem dX12_tellsNames_59 : decode cX12_tellsNames 59 = .ok (.i2l, 1) := by decide +kernel
theorem dX12_tellsNames_60 : decode cX12_tellsNames 60 = .ok (.lmul, 1) := by decide +kernel
theorem dX12_tellsNames_61 : decode cX12_tellsNames 61 = .ok (.iload_n 3, 1) := by decide +kernel
theorem dX12_tellsNames_62 : decode cX12_tellsNames 62 = .ok (.i2l, 1) := by decide +kernel
theorem dX12_tellsNames_63 : decode cX12_tellsNames 63 = .ok (.lmul, 1) := by decide +kernel
theorem dX12_tellsNames_64 : decode cX12_tellsNames 64 = .ok (.aload_n 0, 1) := by decide +kernel
theorem dX12_tellsNames_65 : decode cX12_tellsNames 65 = .ok (.getfield 27, 3) := by decide +kernel
theorem dX12_tellsNames_68 : decode cX12_tellsNames 68 = .ok (.iconst 0, 1) := by decide +kernel
theorem dX12_tellsNames_69 : decode cX12_tellsNames 69 = .ok (.laload, 1) := by decide +kernel
theorem dX12_tellsNames_70 : decode cX12_tellsNames 70 = .ok (.ldiv, 1) := by decide +kernel
theorem dX12_tellsNames_71 : decode cX12_tellsNames 71 = .ok (.lastore, 1) := by decide +kernel
theorem dX12_tellsNames_72 : decode cX12_tellsNames 72 = .ok (.aload_n 0, 1) := by decide +kernel
theorem dX12_tellsNames_73 : decode cX12_tellsNames 73 = .ok (.getfield 27, 3) := by decide +kernel
theorem dX12_tellsNames_76 : decode cX12_tellsNames 76 = .ok (.bipush 7, 2) := by decide +kernel
theorem dX12_tellsNames_78 : decode cX12_tellsNames 78 = .ok (.iload 5, 2) := by decide +kernel
theorem dX12_tellsNames_80 : decode cX12_tellsNames 80 = .ok (.i2l, 1) := by decide +kernel
theorem dX12_tellsNames_81 : decode cX12_tellsNames 81 = .ok (.lastore, 1) := by decide +kernel
theorem dX12_tellsNames_82 : decode cX12_tellsNames 82 = .ok (.aload_n 0, 1) := by decide +kernel
theorem dX12_tellsNames_83 : decode cX12_tellsNames 83 = .ok (.getfield 27, 3) := by decide +kernel
theorem dX12_tellsNames_86 : decode cX12_tellsNames 86 = .ok (.bipush 8, 2) := by decide +kernel
theorem dX12_tellsNames_88 : decode cX12_tellsNames 88 = .ok (.iload 4, 2) := by decide +kernel
theorem dX12_tellsNames_90 : decode cX12_tellsNames 90 = .ok (.iconst (-1), 1) := by decide +kernel
theorem dX12_tellsNames_91 : decode cX12_tellsNames 91 = .ok (.if_icmp .ne 7, 3) := by decide +kernel
theorem dX12_tellsNames_94 : decode cX12_tellsNames 94 = .ok (.lconst 0, 1) := by decide +kernel
theorem dX12_tellsNames_95 : decode cX12_tellsNames 95 = .ok (.goto 32, 3) := by decide +kernel
theorem dX12_tellsNames_98 : decode cX12_tellsNames 98 = .ok (.ldc2_w 97, 3) := by decide +kernel
theorem dX12_tellsNames_101 : decode cX12_tellsNames 101 = .ok (.aload_n 0, 1) := by decide +kernel
theorem dX12_tellsNames_102 : decode cX12_tellsNames 102 = .ok (.iload_n 1, 1) := by decide +kernel
theorem dX12_tellsNames_103 : decode cX12_tellsNames 103 = .ok (.iload_n 2, 1) := by decide +kernel
theorem dX12_tellsNames_104 : decode cX12_tellsNames 104 = .ok (.iconst 5, 1) := by decide +kernel
theorem dX12_tellsNames_105 : decode cX12_tellsNames 105 = .ok (.invokevirtual 101, 3) := by decide +kernel
theorem dX12_tellsNames_108 : decode cX12_tellsNames 108 = .ok (.lmul, 1) := by decide +kernel
theorem dX12_tellsNames_109 : decode cX12_tellsNames 109 = .ok (.aload_n 0, 1) := by decide +kernel
theorem dX12_tellsNames_110 : decode cX12_tellsNames 110 = .ok (.getfield 46, 3) := by decide +kernel
theorem dX12_tellsNames_113 : decode cX12_tellsNames 113 = .ok (.iload 4, 2) := by decide +kernel
theorem dX12_tellsNames_115 : decode cX12_tellsNames 115 = .ok (.iaload, 1) := by decide +kernel
theorem dX12_tellsNames_116 : decode cX12_tellsNames 116 = .ok (.i2l, 1) := by decide +kernel
theorem dX12_tellsNames_117 : decode cX12_tellsNames 117 = .ok (.aload_n 0, 1) := by decide +kernel
theorem dX12_tellsNames_118 : decode cX12_tellsNames 118 = .ok (.getfield 49, 3) := by decide +kernel
theorem dX12_tellsNames_121 : decode cX12_tellsNames 121 = .ok (.iload 4, 2) := by decide +kernel
theorem dX12_tellsNames_123 : decode cX12_tellsNames 123 = .ok (.iaload, 1) := by decide +kernel
theorem dX12_tellsNames_124 : decode cX12_tellsNames 124 = .ok (.i2l, 1) := by decide +kernel
theorem dX12_tellsNames_125 : decode cX12_tellsNames 125 = .ok (.lmul, 1) := by decide +kernel
theorem dX12_tellsNames_126 : decode cX12_tellsNames 126 = .ok (.ldiv, 1) := by decide +kernel
theorem dX12_tellsNames_127 : decode cX12_tellsNames 127 = .ok (.lastore, 1) := by decide +kernel
theorem dX12_tellsNames_128 : decode cX12_tellsNames 128 = .ok (.aload_n 0, 1) := by decide +kernel
theorem dX12_tellsNames_129 : decode cX12_tellsNames 129 = .ok (.getfield 27, 3) := by decide +kernel
theorem dX12_tellsNames_132 : decode cX12_tellsNames 132 = .ok (.bipush 9, 2) := by decide +kernel
theorem dX12_tellsNames_134 : decode cX12_tellsNames 134 = .ok (.iload 6, 2) := by decide +kernel
theorem dX12_tellsNames_136 : decode cX12_tellsNames 136 = .ok (.i2l, 1) := by decide +kernel
theorem dX12_tellsNames_137 : decode cX12_tellsNames 137 = .ok (.lastore, 1) := by decide +kernel
theorem dX12_tellsNames_138 : decode cX12_tellsNames 138 = .ok (.return_, 1) := by decide +kernel
theorem dX12_skinOf_0 : decode cX12_skinOf 0 = .ok (.aload_n 0, 1) := by decide +kernel
theorem dX12_skinOf_1 : decode cX12_skinOf 1 = .ok (.iload_n 1, 1) := by decide +kernel
theorem dX12_skinOf_2 : decode cX12_skinOf 2 = .ok (.invokevirtual 235, 3) := by decide +kernel
theorem dX12_skinOf_5 : decode cX12_skinOf 5 = .ok (.aload_n 0, 1) := by decide +kernel
theorem dX12_skinOf_6 : decode cX12_skinOf 6 = .ok (.getfield 31, 3) := by decide +kernel
theorem dX12_skinOf_9 : decode cX12_skinOf 9 = .ok (.iconst 0, 1) := by decide +kernel
theorem dX12_skinOf_10 : decode cX12_skinOf 10 = .ok (.laload, 1) := by decide +kernel
theorem dX12_skinOf_11 : decode cX12_skinOf 11 = .ok (.aload_n 0, 1) := by decide +kernel
theorem dX12_skinOf_12 : decode cX12_skinOf 12 = .ok (.getfield 31, 3) := by decide +kernel
theorem dX12_skinOf_15 : decode cX12_skinOf 15 = .ok (.iconst 0, 1) := by decide +kernel
theorem dX12_skinOf_16 : decode cX12_skinOf 16 = .ok (.laload, 1) := by decide +kernel
theorem dX12_skinOf_17 : decode cX12_skinOf 17 = .ok (.aload_n 0, 1) := by decide +kernel
theorem dX12_skinOf_18 : decode cX12_skinOf 18 = .ok (.getfield 31, 3) := by decide +kernel
theorem dX12_skinOf_21 : decode cX12_skinOf 21 = .ok (.iconst 4, 1) := by decide +kernel
theorem dX12_skinOf_22 : decode cX12_skinOf 22 = .ok (.laload, 1) := by decide +kernel
theorem dX12_skinOf_23 : decode cX12_skinOf 23 = .ok (.lmul, 1) := by decide +kernel
theorem dX12_skinOf_24 : decode cX12_skinOf 24 = .ok (.ldc2_w 97, 3) := by decide +kernel
theorem dX12_skinOf_27 : decode cX12_skinOf 27 = .ok (.ldiv, 1) := by decide +kernel
theorem dX12_skinOf_28 : decode cX12_skinOf 28 = .ok (.ladd, 1) := by decide +kernel
theorem dX12_skinOf_29 : decode cX12_skinOf 29 = .ok (.lreturn, 1) := by decide +kernel
theorem dX12_allOf_0 : decode cX12_allOf 0 = .ok (.aload_n 0, 1) := by decide +kernel
theorem dX12_allOf_1 : decode cX12_allOf 1 = .ok (.iload_n 1, 1) := by decide +kernel
theorem dX12_allOf_2 : decode cX12_allOf 2 = .ok (.invokevirtual 238, 3) := by decide +kernel
theorem dX12_allOf_5 : decode cX12_allOf 5 = .ok (.lstore_n 2, 1) := by decide +kernel
theorem dX12_allOf_6 : decode cX12_allOf 6 = .ok (.lload_n 2, 1) := by decide +kernel
theorem dX12_allOf_7 : decode cX12_allOf 7 = .ok (.aload_n 0, 1) := by decide +kernel
theorem dX12_allOf_8 : decode cX12_allOf 8 = .ok (.getfield 31, 3) := by decide +kernel
theorem dX12_allOf_11 : decode cX12_allOf 11 = .ok (.iconst 1, 1) := by decide +kernel
theorem dX12_allOf_12 : decode cX12_allOf 12 = .ok (.laload, 1) := by decide +kernel
theorem dX12_allOf_13 : decode cX12_allOf 13 = .ok (.ladd, 1) := by decide +kernel
theorem dX12_allOf_14 : decode cX12_allOf 14 = .ok (.aload_n 0, 1) := by decide +kernel
theorem dX12_allOf_15 : decode cX12_allOf 15 = .ok (.getfield 31, 3) := by decide +kernel
theorem dX12_allOf_18 : decode cX12_allOf 18 = .ok (.iconst 2, 1) := by decide +kernel
theorem dX12_allOf_19 : decode cX12_allOf 19 = .ok (.laload, 1) := by decide +kernel
theorem dX12_allOf_20 : decode cX12_allOf 20 = .ok (.ladd, 1) := by decide +kernel
theorem dX12_allOf_21 : decode cX12_allOf 21 = .ok (.lreturn, 1) := by decide +kernel
theorem dX12_pullOf_0 : decode cX12_pullOf 0 = .ok (.aload_n 0, 1) := by decide +kernel
theorem dX12_pullOf_1 : decode cX12_pullOf 1 = .ok (.iload_n 1, 1) := by decide +kernel
theorem dX12_pullOf_2 : decode cX12_pullOf 2 = .ok (.invokevirtual 242, 3) := by decide +kernel
theorem dX12_pullOf_5 : decode cX12_pullOf 5 = .ok (.lstore_n 2, 1) := by decide +kernel
theorem dX12_pullOf_6 : decode cX12_pullOf 6 = .ok (.lload_n 2, 1) := by decide +kernel
theorem dX12_pullOf_7 : decode cX12_pullOf 7 = .ok (.lload_n 2, 1) := by decide +kernel
theorem dX12_pullOf_8 : decode cX12_pullOf 8 = .ok (.aload_n 0, 1) := by decide +kernel
theorem dX12_pullOf_9 : decode cX12_pullOf 9 = .ok (.getfield 31, 3) := by decide +kernel
theorem dX12_pullOf_12 : decode cX12_pullOf 12 = .ok (.iconst 3, 1) := by decide +kernel
theorem dX12_pullOf_13 : decode cX12_pullOf 13 = .ok (.laload, 1) := by decide +kernel
theorem dX12_pullOf_14 : decode cX12_pullOf 14 = .ok (.lmul, 1) := by decide +kernel
theorem dX12_pullOf_15 : decode cX12_pullOf 15 = .ok (.ldc2_w 97, 3) := by decide +kernel
theorem dX12_pullOf_18 : decode cX12_pullOf 18 = .ok (.ldiv, 1) := by decide +kernel
theorem dX12_pullOf_19 : decode cX12_pullOf 19 = .ok (.ladd, 1) := by decide +kernel
theorem dX12_pullOf_20 : decode cX12_pullOf 20 = .ok (.lreturn, 1) := by decide +kernel
theorem dX12_atHand_0 : decode cX12_atHand 0 = .ok (.aload_n 0, 1) := by decide +kernel
theorem dX12_atHand_1 : decode cX12_atHand 1 = .ok (.aload_n 0, 1) := by decide +kernel
theorem dX12_atHand_2 : decode cX12_atHand 2 = .ok (.getfield 52, 3) := by decide +kernel
theorem dX12_atHand_5 : decode cX12_atHand 5 = .ok (.iconst 0, 1) := by decide +kernel
theorem dX12_atHand_6 : decode cX12_atHand 6 = .ok (.iaload, 1) := by decide +kernel
theorem dX12_atHand_7 : decode cX12_atHand 7 = .ok (.aload_n 0, 1) := by decide +kernel
theorem dX12_atHand_8 : decode cX12_atHand 8 = .ok (.getfield 52, 3) := by decide +kernel
theorem dX12_atHand_11 : decode cX12_atHand 11 = .ok (.iconst 1, 1) := by decide +kernel
theorem dX12_atHand_12 : decode cX12_atHand 12 = .ok (.iaload, 1) := by decide +kernel
theorem dX12_atHand_13 : decode cX12_atHand 13 = .ok (.aload_n 0, 1) := by decide +kernel
theorem dX12_atHand_14 : decode cX12_atHand 14 = .ok (.getfield 52, 3) := by decide +kernel
theorem dX12_atHand_17 : decode cX12_atHand 17 = .ok (.iconst 2, 1) := by decide +kernel
theorem dX12_atHand_18 : decode cX12_atHand 18 = .ok (.iaload, 1) := by decide +kernel
theorem dX12_atHand_19 : decode cX12_atHand 19 = .ok (.aload_n 0, 1) := by decide +kernel
theorem dX12_atHand_20 : decode cX12_atHand 20 = .ok (.getfield 52, 3) := by decide +kernel
theorem dX12_atHand_23 : decode cX12_atHand 23 = .ok (.iconst 3, 1) := by decide +kernel
theorem dX12_atHand_24 : decode cX12_atHand 24 = .ok (.iaload, 1) := by decide +kernel
theorem dX12_atHand_25 : decode cX12_atHand 25 = .ok (.aload_n 0, 1) := by decide +kernel
theorem dX12_atHand_26 : decode cX12_atHand 26 = .ok (.getfield 52, 3) := by decide +kernel
theorem dX12_atHand_29 : decode cX12_atHand 29 = .ok (.iconst 4, 1) := by decide +kernel
theorem dX12_atHand_30 : decode cX12_atHand 30 = .ok (.iaload, 1) := by decide +kernel
theorem dX12_atHand_31 : decode cX12_atHand 31 = .ok (.aload_n 0, 1) := by decide +kernel
theorem dX12_atHand_32 : decode cX12_atHand 32 = .ok (.getfield 52, 3) := by decide +kernel
theorem dX12_atHand_35 : decode cX12_atHand 35 = .ok (.iconst 5, 1) := by decide +kernel
theorem dX12_atHand_36 : decode cX12_atHand 36 = .ok (.iaload, 1) := by decide +kernel
theorem dX12_atHand_37 : decode cX12_atHand 37 = .ok (.invokevirtual 245, 3) := by decide +kernel
theorem dX12_atHand_40 : decode cX12_atHand 40 = .ok (.return_, 1) := by decide +kernel
theorem dX12_set_0 : decode cX12_set 0 = .ok (.aload_n 0, 1) := by decide +kernel
theorem dX12_set_1 : decode cX12_set 1 = .ok (.iconst 0, 1) := by decide +kernel
theorem dX12_set_2 : decode cX12_set 2 = .ok (.putfield 79, 3) := by decide +kernel
theorem dX12_set_5 : decode cX12_set 5 = .ok (.aload_n 0, 1) := by decide +kernel
theorem dX12_set_6 : decode cX12_set 6 = .ok (.aload_n 0, 1) := by decide +kernel
theorem dX12_set_7 : decode cX12_set 7 = .ok (.iload_n 1, 1) := by decide +kernel
theorem dX12_set_8 : decode cX12_set 8 = .ok (.invokevirtual 93, 3) := by decide +kernel
theorem dX12_set_11 : decode cX12_set 11 = .ok (.ifCond .ne 7, 3) := by decide +kernel
theorem dX12_set_14 : decode cX12_set 14 = .ok (.iconst 1, 1) := by decide +kernel
theorem dX12_set_15 : decode cX12_set 15 = .ok (.goto 4, 3) := by decide +kernel
theorem dX12_set_18 : decode cX12_set 18 = .ok (.iconst 0, 1) := by decide +kernel
theorem dX12_set_19 : decode cX12_set 19 = .ok (.iconst 1, 1) := by decide +kernel
theorem dX12_set_20 : decode cX12_set 20 = .ok (.invokevirtual 86, 3) := by decide +kernel
theorem dX12_set_23 : decode cX12_set 23 = .ok (.ifCond .ne 64, 3) := by decide +kernel
theorem dX12_set_26 : decode cX12_set 26 = .ok (.aload_n 0, 1) := by decide +kernel
theorem dX12_set_27 : decode cX12_set 27 = .ok (.iload 4, 2) := by decide +kernel
theorem dX12_set_29 : decode cX12_set 29 = .ok (.iconst (-1), 1) := by decide +kernel
theorem dX12_set_30 : decode cX12_set 30 = .ok (.aload_n 0, 1) := by decide +kernel
theorem dX12_set_31 : decode cX12_set 31 = .ok (.getfield 105, 3) := by decide +kernel
theorem dX12_set_34 : decode cX12_set 34 = .ok (.iconst 1, 1) := by decide +kernel
theorem dX12_set_35 : decode cX12_set 35 = .ok (.isub, 1) := by decide +kernel
theorem dX12_set_36 : decode cX12_set 36 = .ok (.invokestatic 82, 3) := by decide +kernel
theorem dX12_set_39 : decode cX12_set 39 = .ok (.ifCond .ne 7, 3) := by decide +kernel
theorem dX12_set_42 : decode cX12_set 42 = .ok (.iconst 1, 1) := by decide +kernel
theorem dX12_set_43 : decode cX12_set 43 = .ok (.goto 4, 3) := by decide +kernel
theorem dX12_set_46 : decode cX12_set 46 = .ok (.iconst 0, 1) := by decide +kernel
theorem dX12_set_47 : decode cX12_set 47 = .ok (.iconst 2, 1) := by decide +kernel
theorem dX12_set_48 : decode cX12_set 48 = .ok (.invokevirtual 86, 3) := by decide +kernel
theorem dX12_set_51 : decode cX12_set 51 = .ok (.ifCond .ne 36, 3) := by decide +kernel
theorem dX12_set_54 : decode cX12_set 54 = .ok (.aload_n 0, 1) := by decide +kernel
theorem dX12_set_55 : decode cX12_set 55 = .ok (.iload_n 2, 1) := by decide +kernel
theorem dX12_set_56 : decode cX12_set 56 = .ok (.iconst 1, 1) := by decide +kernel
theorem dX12_set_57 : decode cX12_set 57 = .ok (.bipush 40, 2) := by decide +kernel
theorem dX12_set_59 : decode cX12_set 59 = .ok (.invokestatic 82, 3) := by decide +kernel
theorem dX12_set_62 : decode cX12_set 62 = .ok (.ifCond .eq 13, 3) := by decide +kernel
theorem dX12_set_65 : decode cX12_set 65 = .ok (.iload_n 3, 1) := by decide +kernel
theorem dX12_set_66 : decode cX12_set 66 = .ok (.iconst 1, 1) := by decide +kernel
theorem dX12_set_67 : decode cX12_set 67 = .ok (.bipush 99, 2) := by decide +kernel
theorem dX12_set_69 : decode cX12_set 69 = .ok (.invokestatic 82, 3) := by decide +kernel
theorem dX12_set_72 : decode cX12_set 72 = .ok (.ifCond .ne 7, 3) := by decide +kernel
theorem dX12_set_75 : decode cX12_set 75 = .ok (.iconst 1, 1) := by decide +kernel
theorem dX12_set_76 : decode cX12_set 76 = .ok (.goto 4, 3) := by decide +kernel
theorem dX12_set_79 : decode cX12_set 79 = .ok (.iconst 0, 1) := by decide +kernel
theorem dX12_set_80 : decode cX12_set 80 = .ok (.iconst 3, 1) := by decide +kernel
theorem dX12_set_81 : decode cX12_set 81 = .ok (.invokevirtual 86, 3) := by decide +kernel
theorem dX12_set_84 : decode cX12_set 84 = .ok (.ifCond .eq 5, 3) := by decide +kernel
theorem dX12_set_87 : decode cX12_set 87 = .ok (.iconst 0, 1) := by decide +kernel
theorem dX12_set_88 : decode cX12_set 88 = .ok (.ireturn, 1) := by decide +kernel
theorem dX12_set_89 : decode cX12_set 89 = .ok (.aload_n 0, 1) := by decide +kernel
theorem dX12_set_90 : decode cX12_set 90 = .ok (.getfield 52, 3) := by decide +kernel
theorem dX12_set_93 : decode cX12_set 93 = .ok (.iconst 1, 1) := by decide +kernel
theorem dX12_set_94 : decode cX12_set 94 = .ok (.iaload, 1) := by decide +kernel
theorem dX12_set_95 : decode cX12_set 95 = .ok (.istore 5, 2) := by decide +kernel
theorem dX12_set_97 : decode cX12_set 97 = .ok (.aload_n 0, 1) := by decide +kernel
theorem dX12_set_98 : decode cX12_set 98 = .ok (.getfield 52, 3) := by decide +kernel
theorem dX12_set_101 : decode cX12_set 101 = .ok (.iconst 0, 1) := by decide +kernel
theorem dX12_set_102 : decode cX12_set 102 = .ok (.iload_n 1, 1) := by decide +kernel
theorem dX12_set_103 : decode cX12_set 103 = .ok (.iastore, 1) := by decide +kernel
theorem dX12_set_104 : decode cX12_set 104 = .ok (.aload_n 0, 1) := by decide +kernel
theorem dX12_set_105 : decode cX12_set 105 = .ok (.getfield 52, 3) := by decide +kernel
theorem dX12_set_108 : decode cX12_set 108 = .ok (.iconst 1, 1) := by decide +kernel
theorem dX12_set_109 : decode cX12_set 109 = .ok (.iload_n 2, 1) := by decide +kernel
theorem dX12_set_110 : decode cX12_set 110 = .ok (.iastore, 1) := by decide +kernel
theorem dX12_set_111 : decode cX12_set 111 = .ok (.aload_n 0, 1) := by decide +kernel
theorem dX12_set_112 : decode cX12_set 112 = .ok (.getfield 52, 3) := by decide +kernel
theorem dX12_set_115 : decode cX12_set 115 = .ok (.iconst 2, 1) := by decide +kernel
theorem dX12_set_116 : decode cX12_set 116 = .ok (.iload_n 3, 1) := by decide +kernel
theorem dX12_set_117 : decode cX12_set 117 = .ok (.iastore, 1) := by decide +kernel
theorem dX12_set_118 : decode cX12_set 118 = .ok (.aload_n 0, 1) := by decide +kernel
theorem dX12_set_119 : decode cX12_set 119 = .ok (.getfield 52, 3) := by decide +kernel
theorem dX12_set_122 : decode cX12_set 122 = .ok (.iconst 3, 1) := by decide +kernel
theorem dX12_set_123 : decode cX12_set 123 = .ok (.iload 4, 2) := by decide +kernel
theorem dX12_set_125 : decode cX12_set 125 = .ok (.iastore, 1) := by decide +kernel
theorem dX12_set_126 : decode cX12_set 126 = .ok (.iload 5, 2) := by decide +kernel
theorem dX12_set_128 : decode cX12_set 128 = .ok (.ireturn, 1) := by decide +kernel
theorem dX12_trim_0 : decode cX12_trim 0 = .ok (.aload_n 0, 1) := by decide +kernel
theorem dX12_trim_1 : decode cX12_trim 1 = .ok (.iconst 0, 1) := by decide +kernel
theorem dX12_trim_2 : decode cX12_trim 2 = .ok (.putfield 79, 3) := by decide +kernel
theorem dX12_trim_5 : decode cX12_trim 5 = .ok (.aload_n 0, 1) := by decide +kernel
theorem dX12_trim_6 : decode cX12_trim 6 = .ok (.iload_n 2, 1) := by decide +kernel
theorem dX12_trim_7 : decode cX12_trim 7 = .ok (.iconst 0, 1) := by decide +kernel
theorem dX12_trim_8 : decode cX12_trim 8 = .ok (.bipush 99, 2) := by decide +kernel
theorem dX12_trim_10 : decode cX12_trim 10 = .ok (.invokestatic 82, 3) := by decide +kernel
theorem dX12_trim_13 : decode cX12_trim 13 = .ok (.ifCond .ne 7, 3) := by decide +kernel
theorem dX12_trim_16 : decode cX12_trim 16 = .ok (.iconst 1, 1) := by decide +kernel
theorem dX12_trim_17 : decode cX12_trim 17 = .ok (.goto 4, 3) := by decide +kernel
theorem dX12_trim_20 : decode cX12_trim 20 = .ok (.iconst 0, 1) := by decide +kernel
theorem dX12_trim_21 : decode cX12_trim 21 = .ok (.iconst 1, 1) := by decide +kernel
theorem dX12_trim_22 : decode cX12_trim 22 = .ok (.invokevirtual 86, 3) := by decide +kernel
theorem dX12_trim_25 : decode cX12_trim 25 = .ok (.ifCond .eq 5, 3) := by decide +kernel
theorem dX12_trim_28 : decode cX12_trim 28 = .ok (.iconst 0, 1) := by decide +kernel
theorem dX12_trim_29 : decode cX12_trim 29 = .ok (.ireturn, 1) := by decide +kernel
theorem dX12_trim_30 : decode cX12_trim 30 = .ok (.aload_n 0, 1) := by decide +kernel
theorem dX12_trim_31 : decode cX12_trim 31 = .ok (.getfield 52, 3) := by decide +kernel
theorem dX12_trim_34 : decode cX12_trim 34 = .ok (.iconst 5, 1) := by decide +kernel
theorem dX12_trim_35 : decode cX12_trim 35 = .ok (.iaload, 1) := by decide +kernel
theorem dX12_trim_36 : decode cX12_trim 36 = .ok (.istore_n 3, 1) := by decide +kernel
theorem dX12_trim_37 : decode cX12_trim 37 = .ok (.aload_n 0, 1) := by decide +kernel
theorem dX12_trim_38 : decode cX12_trim 38 = .ok (.getfield 52, 3) := by decide +kernel
theorem dX12_trim_41 : decode cX12_trim 41 = .ok (.iconst 4, 1) := by decide +kernel
theorem dX12_trim_42 : decode cX12_trim 42 = .ok (.iload_n 1, 1) := by decide +kernel
theorem dX12_trim_43 : decode cX12_trim 43 = .ok (.ifCond .eq 7, 3) := by decide +kernel
theorem dX12_trim_46 : decode cX12_trim 46 = .ok (.iconst 1, 1) := by decide +kernel
theorem dX12_trim_47 : decode cX12_trim 47 = .ok (.goto 4, 3) := by decide +kernel
theorem dX12_trim_50 : decode cX12_trim 50 = .ok (.iconst 0, 1) := by decide +kernel
theorem dX12_trim_51 : decode cX12_trim 51 = .ok (.iastore, 1) := by decide +kernel
theorem dX12_trim_52 : decode cX12_trim 52 = .ok (.aload_n 0, 1) := by decide +kernel
theorem dX12_trim_53 : decode cX12_trim 53 = .ok (.getfield 52, 3) := by decide +kernel
theorem dX12_trim_56 : decode cX12_trim 56 = .ok (.iconst 5, 1) := by decide +kernel
theorem dX12_trim_57 : decode cX12_trim 57 = .ok (.iload_n 2, 1) := by decide +kernel
theorem dX12_trim_58 : decode cX12_trim 58 = .ok (.iastore, 1) := by decide +kernel
theorem dX12_trim_59 : decode cX12_trim 59 = .ok (.iload_n 3, 1) := by decide +kernel
theorem dX12_trim_60 : decode cX12_trim 60 = .ok (.ireturn, 1) := by decide +kernel
theorem dX12_name_0 : decode cX12_name 0 = .ok (.aload_n 0, 1) := by decide +kernel
theorem dX12_name_1 : decode cX12_name 1 = .ok (.iconst 0, 1) := by decide +kernel
theorem dX12_name_2 : decode cX12_name 2 = .ok (.putfield 79, 3) := by decide +kernel
theorem dX12_name_5 : decode cX12_name 5 = .ok (.aload_n 0, 1) := by decide +kernel
theorem dX12_name_6 : decode cX12_name 6 = .ok (.aload_n 0, 1) := by decide +kernel
theorem dX12_name_7 : decode cX12_name 7 = .ok (.getfield 90, 3) := by decide +kernel
theorem dX12_name_10 : decode cX12_name 10 = .ok (.ifCond .ne 7, 3) := by decide +kernel
theorem dX12_name_13 : decode cX12_name 13 = .ok (.iconst 1, 1) := by decide +kernel
theorem dX12_name_14 : decode cX12_name 14 = .ok (.goto 4, 3) := by decide +kernel
theorem dX12_name_17 : decode cX12_name 17 = .ok (.iconst 0, 1) := by decide +kernel
theorem dX12_name_18 : decode cX12_name 18 = .ok (.iconst 1, 1) := by decide +kernel
theorem dX12_name_19 : decode cX12_name 19 = .ok (.invokevirtual 86, 3) := by decide +kernel
theorem dX12_name_22 : decode cX12_name 22 = .ok (.ifCond .ne 26, 3) := by decide +kernel
theorem dX12_name_25 : decode cX12_name 25 = .ok (.aload_n 0, 1) := by decide +kernel
theorem dX12_name_26 : decode cX12_name 26 = .ok (.iload_n 1, 1) := by decide +kernel
theorem dX12_name_27 : decode cX12_name 27 = .ok (.iconst 0, 1) := by decide +kernel
theorem dX12_name_28 : decode cX12_name 28 = .ok (.bipush 9, 2) := by decide +kernel
theorem dX12_name_30 : decode cX12_name 30 = .ok (.invokestatic 82, 3) := by decide +kernel
theorem dX12_name_33 : decode cX12_name 33 = .ok (.ifCond .ne 7, 3) := by decide +kernel
theorem dX12_name_36 : decode cX12_name 36 = .ok (.iconst 1, 1) := by decide +kernel
theorem dX12_name_37 : decode cX12_name 37 = .ok (.goto 4, 3) := by decide +kernel
theorem dX12_name_40 : decode cX12_name 40 = .ok (.iconst 0, 1) := by decide +kernel
theorem dX12_name_41 : decode cX12_name 41 = .ok (.iconst 2, 1) := by decide +kernel
theorem dX12_name_42 : decode cX12_name 42 = .ok (.invokevirtual 86, 3) := by decide +kernel
theorem dX12_name_45 : decode cX12_name 45 = .ok (.ifCond .eq 5, 3) := by decide +kernel
theorem dX12_name_48 : decode cX12_name 48 = .ok (.iconst 0, 1) := by decide +kernel
theorem dX12_name_49 : decode cX12_name 49 = .ok (.ireturn, 1) := by decide +kernel
theorem dX12_name_50 : decode cX12_name 50 = .ok (.aload_n 0, 1) := by decide +kernel
theorem dX12_name_51 : decode cX12_name 51 = .ok (.invokevirtual 249, 3) := by decide +kernel
theorem dX12_name_54 : decode cX12_name 54 = .ok (.aload_n 0, 1) := by decide +kernel
theorem dX12_name_55 : decode cX12_name 55 = .ok (.getfield 27, 3) := by decide +kernel
theorem dX12_name_58 : decode cX12_name 58 = .ok (.iload_n 1, 1) := by decide +kernel
theorem dX12_name_59 : decode cX12_name 59 = .ok (.laload, 1) := by decide +kernel
theorem dX12_name_60 : decode cX12_name 60 = .ok (.l2i, 1) := by decide +kernel
theorem dX12_name_61 : decode cX12_name 61 = .ok (.ireturn, 1) := by decide +kernel
theorem dX12_isLaw_0 : decode cX12_isLaw 0 = .ok (.iload_n 1, 1) := by decide +kernel
theorem dX12_isLaw_1 : decode cX12_isLaw 1 = .ok (.iconst 0, 1) := by decide +kernel
theorem dX12_isLaw_2 : decode cX12_isLaw 2 = .ok (.aload_n 0, 1) := by decide +kernel
theorem dX12_isLaw_3 : decode cX12_isLaw 3 = .ok (.getfield 223, 3) := by decide +kernel
theorem dX12_isLaw_6 : decode cX12_isLaw 6 = .ok (.iconst 1, 1) := by decide +kernel
theorem dX12_isLaw_7 : decode cX12_isLaw 7 = .ok (.isub, 1) := by decide +kernel
theorem dX12_isLaw_8 : decode cX12_isLaw 8 = .ok (.invokestatic 82, 3) := by decide +kernel
theorem dX12_isLaw_11 : decode cX12_isLaw 11 = .ok (.ireturn, 1) := by decide +kernel
theorem dX12_pull_0 : decode cX12_pull 0 = .ok (.aload_n 0, 1) := by decide +kernel
theorem dX12_pull_1 : decode cX12_pull 1 = .ok (.iconst 0, 1) := by decide +kernel
theorem dX12_pull_2 : decode cX12_pull 2 = .ok (.putfield 79, 3) := by decide +kernel
theorem dX12_pull_5 : decode cX12_pull 5 = .ok (.aload_n 0, 1) := by decide +kernel
theorem dX12_pull_6 : decode cX12_pull 6 = .ok (.aload_n 0, 1) := by decide +kernel
theorem dX12_pull_7 : decode cX12_pull 7 = .ok (.getfield 90, 3) := by decide +kernel
theorem dX12_pull_10 : decode cX12_pull 10 = .ok (.ifCond .ne 7, 3) := by decide +kernel
theorem dX12_pull_13 : decode cX12_pull 13 = .ok (.iconst 1, 1) := by decide +kernel
theorem dX12_pull_14 : decode cX12_pull 14 = .ok (.goto 4, 3) := by decide +kernel
theorem dX12_pull_17 : decode cX12_pull 17 = .ok (.iconst 0, 1) := by decide +kernel
theorem dX12_pull_18 : decode cX12_pull 18 = .ok (.iconst 1, 1) := by decide +kernel
theorem dX12_pull_19 : decode cX12_pull 19 = .ok (.invokevirtual 86, 3) := by decide +kernel
theorem dX12_pull_22 : decode cX12_pull 22 = .ok (.ifCond .ne 46, 3) := by decide +kernel
theorem dX12_pull_25 : decode cX12_pull 25 = .ok (.aload_n 0, 1) := by decide +kernel
theorem dX12_pull_26 : decode cX12_pull 26 = .ok (.aload_n 0, 1) := by decide +kernel
theorem dX12_pull_27 : decode cX12_pull 27 = .ok (.iload_n 1, 1) := by decide +kernel
theorem dX12_pull_28 : decode cX12_pull 28 = .ok (.invokevirtual 252, 3) := by decide +kernel
theorem dX12_pull_31 : decode cX12_pull 31 = .ok (.ifCond .ne 7, 3) := by decide +kernel
theorem dX12_pull_34 : decode cX12_pull 34 = .ok (.iconst 1, 1) := by decide +kernel
theorem dX12_pull_35 : decode cX12_pull 35 = .ok (.goto 4, 3) := by decide +kernel
theorem dX12_pull_38 : decode cX12_pull 38 = .ok (.iconst 0, 1) := by decide +kernel
theorem dX12_pull_39 : decode cX12_pull 39 = .ok (.iconst 2, 1) := by decide +kernel
theorem dX12_pull_40 : decode cX12_pull 40 = .ok (.invokevirtual 86, 3) := by decide +kernel
theorem dX12_pull_43 : decode cX12_pull 43 = .ok (.ifCond .ne 25, 3) := by decide +kernel
theorem dX12_pull_46 : decode cX12_pull 46 = .ok (.aload_n 0, 1) := by decide +kernel
theorem dX12_pull_47 : decode cX12_pull 47 = .ok (.iload_n 2, 1) := by decide +kernel
theorem dX12_pull_48 : decode cX12_pull 48 = .ok (.iconst 0, 1) := by decide +kernel
theorem dX12_pull_49 : decode cX12_pull 49 = .ok (.iconst 4, 1) := by decide +kernel
theorem dX12_pull_50 : decode cX12_pull 50 = .ok (.invokestatic 82, 3) := by decide +kernel
theorem dX12_pull_53 : decode cX12_pull 53 = .ok (.ifCond .ne 7, 3) := by decide +kernel
theorem dX12_pull_56 : decode cX12_pull 56 = .ok (.iconst 1, 1) := by decide +kernel
theorem dX12_pull_57 : decode cX12_pull 57 = .ok (.goto 4, 3) := by decide +kernel
theorem dX12_pull_60 : decode cX12_pull 60 = .ok (.iconst 0, 1) := by decide +kernel
theorem dX12_pull_61 : decode cX12_pull 61 = .ok (.iconst 3, 1) := by decide +kernel
theorem dX12_pull_62 : decode cX12_pull 62 = .ok (.invokevirtual 86, 3) := by decide +kernel
theorem dX12_pull_65 : decode cX12_pull 65 = .ok (.ifCond .eq 5, 3) := by decide +kernel
theorem dX12_pull_68 : decode cX12_pull 68 = .ok (.lconst 0, 1) := by decide +kernel
theorem dX12_pull_69 : decode cX12_pull 69 = .ok (.lreturn, 1) := by decide +kernel
theorem dX12_pull_70 : decode cX12_pull 70 = .ok (.aload_n 0, 1) := by decide +kernel
theorem dX12_pull_71 : decode cX12_pull 71 = .ok (.invokevirtual 249, 3) := by decide +kernel
theorem dX12_pull_74 : decode cX12_pull 74 = .ok (.iload_n 2, 1) := by decide +kernel
theorem dX12_pull_75 : decode cX12_pull 75 = .ok (.ifCond .ne 9, 3) := by decide +kernel
theorem dX12_pull_78 : decode cX12_pull 78 = .ok (.aload_n 0, 1) := by decide +kernel
theorem dX12_pull_79 : decode cX12_pull 79 = .ok (.iload_n 1, 1) := by decide +kernel
theorem dX12_pull_80 : decode cX12_pull 80 = .ok (.invokevirtual 255, 3) := by decide +kernel
theorem dX12_pull_83 : decode cX12_pull 83 = .ok (.lreturn, 1) := by decide +kernel
theorem dX12_pull_84 : decode cX12_pull 84 = .ok (.iload_n 2, 1) := by decide +kernel
theorem dX12_pull_85 : decode cX12_pull 85 = .ok (.iconst 4, 1) := by decide +kernel
theorem dX12_pull_86 : decode cX12_pull 86 = .ok (.if_icmp .ne 9, 3) := by decide +kernel
theorem dX12_pull_89 : decode cX12_pull 89 = .ok (.aload_n 0, 1) := by decide +kernel
theorem dX12_pull_90 : decode cX12_pull 90 = .ok (.iload_n 1, 1) := by decide +kernel
theorem dX12_pull_91 : decode cX12_pull 91 = .ok (.invokevirtual 242, 3) := by decide +kernel
theorem dX12_pull_94 : decode cX12_pull 94 = .ok (.lreturn, 1) := by decide +kernel
theorem dX12_pull_95 : decode cX12_pull 95 = .ok (.aload_n 0, 1) := by decide +kernel
theorem dX12_pull_96 : decode cX12_pull 96 = .ok (.iload_n 1, 1) := by decide +kernel
theorem dX12_pull_97 : decode cX12_pull 97 = .ok (.invokevirtual 238, 3) := by decide +kernel
theorem dX12_pull_100 : decode cX12_pull 100 = .ok (.lstore_n 3, 1) := by decide +kernel
theorem dX12_pull_101 : decode cX12_pull 101 = .ok (.iload_n 2, 1) := by decide +kernel
theorem dX12_pull_102 : decode cX12_pull 102 = .ok (.iconst 1, 1) := by decide +kernel
theorem dX12_pull_103 : decode cX12_pull 103 = .ok (.if_icmp .ne 7, 3) := by decide +kernel
theorem dX12_pull_106 : decode cX12_pull 106 = .ok (.lload_n 3, 1) := by decide +kernel
theorem dX12_pull_107 : decode cX12_pull 107 = .ok (.goto 23, 3) := by decide +kernel
theorem dX12_pull_110 : decode cX12_pull 110 = .ok (.iload_n 2, 1) := by decide +kernel
theorem dX12_pull_111 : decode cX12_pull 111 = .ok (.iconst 2, 1) := by decide +kernel
theorem dX12_pull_112 : decode cX12_pull 112 = .ok (.if_icmp .ne 12, 3) := by decide +kernel
theorem dX12_pull_115 : decode cX12_pull 115 = .ok (.aload_n 0, 1) := by decide +kernel
theorem dX12_pull_116 : decode cX12_pull 116 = .ok (.getfield 31, 3) := by decide +kernel
theorem dX12_pull_119 : decode cX12_pull 119 = .ok (.iconst 1, 1) := by decide +kernel
theorem dX12_pull_120 : decode cX12_pull 120 = .ok (.laload, 1) := by decide +kernel
theorem dX12_pull_121 : decode cX12_pull 121 = .ok (.goto 9, 3) := by decide +kernel
theorem dX12_pull_124 : decode cX12_pull 124 = .ok (.aload_n 0, 1) := by decide +kernel
theorem dX12_pull_125 : decode cX12_pull 125 = .ok (.getfield 31, 3) := by decide +kernel
theorem dX12_pull_128 : decode cX12_pull 128 = .ok (.iconst 2, 1) := by decide +kernel
theorem dX12_pull_129 : decode cX12_pull 129 = .ok (.laload, 1) := by decide +kernel
theorem dX12_pull_130 : decode cX12_pull 130 = .ok (.lreturn, 1) := by decide +kernel
theorem dX12_shipSpeed_0 : decode cX12_shipSpeed 0 = .ok (.iload_n 0, 1) := by decide +kernel
theorem dX12_shipSpeed_1 : decode cX12_shipSpeed 1 = .ok (.i2l, 1) := by decide +kernel
theorem dX12_shipSpeed_2 : decode cX12_shipSpeed 2 = .ok (.iload_n 1, 1) := by decide +kernel
theorem dX12_shipSpeed_3 : decode cX12_shipSpeed 3 = .ok (.i2l, 1) := by decide +kernel
theorem dX12_shipSpeed_4 : decode cX12_shipSpeed 4 = .ok (.lmul, 1) := by decide +kernel
theorem dX12_shipSpeed_5 : decode cX12_shipSpeed 5 = .ok (.iload_n 1, 1) := by decide +kernel
theorem dX12_shipSpeed_6 : decode cX12_shipSpeed 6 = .ok (.i2l, 1) := by decide +kernel
theorem dX12_shipSpeed_7 : decode cX12_shipSpeed 7 = .ok (.lmul, 1) := by decide +kernel
theorem dX12_shipSpeed_8 : decode cX12_shipSpeed 8 = .ok (.invokestatic 187, 3) := by decide +kernel
theorem dX12_shipSpeed_11 : decode cX12_shipSpeed 11 = .ok (.lconst 0, 1) := by decide +kernel
theorem dX12_shipSpeed_12 : decode cX12_shipSpeed 12 = .ok (.ldc2_w 258, 3) := by decide +kernel
theorem dX12_shipSpeed_15 : decode cX12_shipSpeed 15 = .ok (.invokestatic 231, 3) := by decide +kernel
theorem dX12_shipSpeed_18 : decode cX12_shipSpeed 18 = .ok (.l2i, 1) := by decide +kernel
theorem dX12_shipSpeed_19 : decode cX12_shipSpeed 19 = .ok (.ireturn, 1) := by decide +kernel
theorem dX12_needOf_0 : decode cX12_needOf 0 = .ok (.aload_n 0, 1) := by decide +kernel
theorem dX12_needOf_1 : decode cX12_needOf 1 = .ok (.iload 5, 2) := by decide +kernel
theorem dX12_needOf_3 : decode cX12_needOf 3 = .ok (.iload 6, 2) := by decide +kernel
theorem dX12_needOf_5 : decode cX12_needOf 5 = .ok (.iload 7, 2) := by decide +kernel
theorem dX12_needOf_7 : decode cX12_needOf 7 = .ok (.iload 8, 2) := by decide +kernel
theorem dX12_needOf_9 : decode cX12_needOf 9 = .ok (.iload 9, 2) := by decide +kernel
theorem dX12_needOf_11 : decode cX12_needOf 11 = .ok (.iload 10, 2) := by decide +kernel
theorem dX12_needOf_13 : decode cX12_needOf 13 = .ok (.invokevirtual 245, 3) := by decide +kernel
theorem dX12_needOf_16 : decode cX12_needOf 16 = .ok (.aload_n 0, 1) := by decide +kernel
theorem dX12_needOf_17 : decode cX12_needOf 17 = .ok (.iconst 4, 1) := by decide +kernel
theorem dX12_needOf_18 : decode cX12_needOf 18 = .ok (.iload_n 1, 1) := by decide +kernel
theorem dX12_needOf_19 : decode cX12_needOf 19 = .ok (.iadd, 1) := by decide +kernel
theorem dX12_needOf_20 : decode cX12_needOf 20 = .ok (.invokevirtual 235, 3) := by decide +kernel
theorem dX12_needOf_23 : decode cX12_needOf 23 = .ok (.lload_n 2, 1) := by decide +kernel
theorem dX12_needOf_24 : decode cX12_needOf 24 = .ok (.aload_n 0, 1) := by decide +kernel
theorem dX12_needOf_25 : decode cX12_needOf 25 = .ok (.getfield 31, 3) := by decide +kernel
theorem dX12_needOf_28 : decode cX12_needOf 28 = .ok (.iconst 5, 1) := by decide +kernel
theorem dX12_needOf_29 : decode cX12_needOf 29 = .ok (.laload, 1) := by decide +kernel
theorem dX12_needOf_30 : decode cX12_needOf 30 = .ok (.lcmp, 1) := by decide +kernel
theorem dX12_needOf_31 : decode cX12_needOf 31 = .ok (.ifCond .le 14, 3) := by decide +kernel
theorem dX12_needOf_34 : decode cX12_needOf 34 = .ok (.lload_n 2, 1) := by decide +kernel
theorem dX12_needOf_35 : decode cX12_needOf 35 = .ok (.aload_n 0, 1) := by decide +kernel
theorem dX12_needOf_36 : decode cX12_needOf 36 = .ok (.getfield 31, 3) := by decide +kernel
theorem dX12_needOf_39 : decode cX12_needOf 39 = .ok (.iconst 5, 1) := by decide +kernel
theorem dX12_needOf_40 : decode cX12_needOf 40 = .ok (.laload, 1) := by decide +kernel
theorem dX12_needOf_41 : decode cX12_needOf 41 = .ok (.lsub, 1) := by decide +kernel
theorem dX12_needOf_42 : decode cX12_needOf 42 = .ok (.goto 4, 3) := by decide +kernel
theorem dX12_needOf_45 : decode cX12_needOf 45 = .ok (.lconst 0, 1) := by decide +kernel
theorem dX12_needOf_46 : decode cX12_needOf 46 = .ok (.lstore 11, 2) := by decide +kernel
theorem dX12_needOf_48 : decode cX12_needOf 48 = .ok (.lload 11, 2) := by decide +kernel
theorem dX12_needOf_50 : decode cX12_needOf 50 = .ok (.iload 6, 2) := by decide +kernel
theorem dX12_needOf_52 : decode cX12_needOf 52 = .ok (.i2l, 1) := by decide +kernel
theorem dX12_needOf_53 : decode cX12_needOf 53 = .ok (.lmul, 1) := by decide +kernel
theorem dX12_needOf_54 : decode cX12_needOf 54 = .ok (.iload 6, 2) := by decide +kernel
theorem dX12_needOf_56 : decode cX12_needOf 56 = .ok (.i2l, 1) := by decide +kernel
theorem dX12_needOf_57 : decode cX12_needOf 57 = .ok (.lmul, 1) := by decide +kernel
theorem dX12_needOf_58 : decode cX12_needOf 58 = .ok (.iload 6, 2) := by decide +kernel
theorem dX12_needOf_60 : decode cX12_needOf 60 = .ok (.i2l, 1) := by decide +kernel
theorem dX12_needOf_61 : decode cX12_needOf 61 = .ok (.lmul, 1) := by decide +kernel
theorem dX12_needOf_62 : decode cX12_needOf 62 = .ok (.lstore 13, 2) := by decide +kernel
theorem dX12_needOf_64 : decode cX12_needOf 64 = .ok (.iload 4, 2) := by decide +kernel
theorem dX12_needOf_66 : decode cX12_needOf 66 = .ok (.iconst 2, 1) := by decide +kernel
theorem dX12_needOf_67 : decode cX12_needOf 67 = .ok (.if_icmp .ge 16, 3) := by decide +kernel
theorem dX12_needOf_70 : decode cX12_needOf 70 = .ok (.iload 4, 2) := by decide +kernel
theorem dX12_needOf_72 : decode cX12_needOf 72 = .ok (.ifCond .ne 8, 3) := by decide +kernel
theorem dX12_needOf_75 : decode cX12_needOf 75 = .ok (.lload 11, 2) := by decide +kernel
theorem dX12_needOf_77 : decode cX12_needOf 77 = .ok (.goto 5, 3) := by decide +kernel
theorem dX12_needOf_80 : decode cX12_needOf 80 = .ok (.lload 13, 2) := by decide +kernel
theorem dX12_needOf_82 : decode cX12_needOf 82 = .ok (.lreturn, 1) := by decide +kernel
theorem dX12_needOf_83 : decode cX12_needOf 83 = .ok (.aload_n 0, 1) := by decide +kernel
theorem dX12_needOf_84 : decode cX12_needOf 84 = .ok (.iload 5, 2) := by decide +kernel
theorem dX12_needOf_86 : decode cX12_needOf 86 = .ok (.iconst 1, 1) := by decide +kernel
theorem dX12_needOf_87 : decode cX12_needOf 87 = .ok (.iload 6, 2) := by decide +kernel
theorem dX12_needOf_89 : decode cX12_needOf 89 = .ok (.iload 7, 2) := by decide +kernel
theorem dX12_needOf_91 : decode cX12_needOf 91 = .ok (.invokestatic 260, 3) := by decide +kernel
theorem dX12_needOf_94 : decode cX12_needOf 94 = .ok (.iconst (-1), 1) := by decide +kernel
theorem dX12_needOf_95 : decode cX12_needOf 95 = .ok (.iconst 0, 1) := by decide +kernel
theorem dX12_needOf_96 : decode cX12_needOf 96 = .ok (.iload 10, 2) := by decide +kernel
theorem dX12_needOf_98 : decode cX12_needOf 98 = .ok (.invokevirtual 245, 3) := by decide +kernel
theorem dX12_needOf_101 : decode cX12_needOf 101 = .ok (.aload_n 0, 1) := by decide +kernel
theorem dX12_needOf_102 : decode cX12_needOf 102 = .ok (.iconst 4, 1) := by decide +kernel
theorem dX12_needOf_103 : decode cX12_needOf 103 = .ok (.iload_n 1, 1) := by decide +kernel
theorem dX12_needOf_104 : decode cX12_needOf 104 = .ok (.iadd, 1) := by decide +kernel
theorem dX12_needOf_105 : decode cX12_needOf 105 = .ok (.invokevirtual 235, 3) := by decide +kernel
theorem dX12_needOf_108 : decode cX12_needOf 108 = .ok (.lload 13, 2) := by decide +kernel
theorem dX12_needOf_110 : decode cX12_needOf 110 = .ok (.aload_n 0, 1) := by decide +kernel
theorem dX12_needOf_111 : decode cX12_needOf 111 = .ok (.getfield 31, 3) := by decide +kernel
theorem dX12_needOf_114 : decode cX12_needOf 114 = .ok (.bipush 6, 2) := by decide +kernel
theorem dX12_needOf_116 : decode cX12_needOf 116 = .ok (.laload, 1) := by decide +kernel
theorem dX12_needOf_117 : decode cX12_needOf 117 = .ok (.ladd, 1) := by decide +kernel
theorem dX12_needOf_118 : decode cX12_needOf 118 = .ok (.lstore 15, 2) := by decide +kernel
theorem dX12_needOf_120 : decode cX12_needOf 120 = .ok (.lload 15, 2) := by decide +kernel
theorem dX12_needOf_122 : decode cX12_needOf 122 = .ok (.lload 15, 2) := by decide +kernel
theorem dX12_needOf_124 : decode cX12_needOf 124 = .ok (.aload_n 0, 1) := by decide +kernel
theorem dX12_needOf_125 : decode cX12_needOf 125 = .ok (.getfield 31, 3) := by decide +kernel
theorem dX12_needOf_128 : decode cX12_needOf 128 = .ok (.bipush 7, 2) := by decide +kernel
theorem dX12_needOf_130 : decode cX12_needOf 130 = .ok (.laload, 1) := by decide +kernel
theorem dX12_needOf_131 : decode cX12_needOf 131 = .ok (.lmul, 1) := by decide +kernel
theorem dX12_needOf_132 : decode cX12_needOf 132 = .ok (.ldc2_w 97, 3) := by decide +kernel
theorem dX12_needOf_135 : decode cX12_needOf 135 = .ok (.ldiv, 1) := by decide +kernel
theorem dX12_needOf_136 : decode cX12_needOf 136 = .ok (.ladd, 1) := by decide +kernel
theorem dX12_needOf_137 : decode cX12_needOf 137 = .ok (.lreturn, 1) := by decide +kernel
theorem dX12_need_0 : decode cX12_need 0 = .ok (.aload_n 0, 1) := by decide +kernel
theorem dX12_need_1 : decode cX12_need 1 = .ok (.iconst 0, 1) := by decide +kernel
theorem dX12_need_2 : decode cX12_need 2 = .ok (.putfield 79, 3) := by decide +kernel
theorem dX12_need_5 : decode cX12_need 5 = .ok (.aload_n 0, 1) := by decide +kernel
theorem dX12_need_6 : decode cX12_need 6 = .ok (.aload_n 0, 1) := by decide +kernel
theorem dX12_need_7 : decode cX12_need 7 = .ok (.getfield 90, 3) := by decide +kernel
theorem dX12_need_10 : decode cX12_need 10 = .ok (.ifCond .ne 7, 3) := by decide +kernel
theorem dX12_need_13 : decode cX12_need 13 = .ok (.iconst 1, 1) := by decide +kernel
theorem dX12_need_14 : decode cX12_need 14 = .ok (.goto 4, 3) := by decide +kernel
theorem dX12_need_17 : decode cX12_need 17 = .ok (.iconst 0, 1) := by decide +kernel
theorem dX12_need_18 : decode cX12_need 18 = .ok (.iconst 1, 1) := by decide +kernel
theorem dX12_need_19 : decode cX12_need 19 = .ok (.invokevirtual 86, 3) := by decide +kernel
theorem dX12_need_22 : decode cX12_need 22 = .ok (.ifCond .ne 63, 3) := by decide +kernel
theorem dX12_need_25 : decode cX12_need 25 = .ok (.aload_n 0, 1) := by decide +kernel
theorem dX12_need_26 : decode cX12_need 26 = .ok (.iload_n 1, 1) := by decide +kernel
theorem dX12_need_27 : decode cX12_need 27 = .ok (.iconst 0, 1) := by decide +kernel
theorem dX12_need_28 : decode cX12_need 28 = .ok (.aload_n 0, 1) := by decide +kernel
theorem dX12_need_29 : decode cX12_need 29 = .ok (.getfield 220, 3) := by decide +kernel
theorem dX12_need_32 : decode cX12_need 32 = .ok (.iconst 1, 1) := by decide +kernel
theorem dX12_need_33 : decode cX12_need 33 = .ok (.isub, 1) := by decide +kernel
theorem dX12_need_34 : decode cX12_need 34 = .ok (.invokestatic 82, 3) := by decide +kernel
theorem dX12_need_37 : decode cX12_need 37 = .ok (.ifCond .ne 7, 3) := by decide +kernel
theorem dX12_need_40 : decode cX12_need 40 = .ok (.iconst 1, 1) := by decide +kernel
theorem dX12_need_41 : decode cX12_need 41 = .ok (.goto 4, 3) := by decide +kernel
theorem dX12_need_44 : decode cX12_need 44 = .ok (.iconst 0, 1) := by decide +kernel
theorem dX12_need_45 : decode cX12_need 45 = .ok (.iconst 2, 1) := by decide +kernel
theorem dX12_need_46 : decode cX12_need 46 = .ok (.invokevirtual 86, 3) := by decide +kernel
theorem dX12_need_49 : decode cX12_need 49 = .ok (.ifCond .ne 36, 3) := by decide +kernel
theorem dX12_need_52 : decode cX12_need 52 = .ok (.aload_n 0, 1) := by decide +kernel
theorem dX12_need_53 : decode cX12_need 53 = .ok (.iload_n 2, 1) := by decide +kernel
theorem dX12_need_54 : decode cX12_need 54 = .ok (.iconst 0, 1) := by decide +kernel
theorem dX12_need_55 : decode cX12_need 55 = .ok (.ldc_w 264, 3) := by decide +kernel
theorem dX12_need_58 : decode cX12_need 58 = .ok (.invokestatic 82, 3) := by decide +kernel
theorem dX12_need_61 : decode cX12_need 61 = .ok (.ifCond .eq 12, 3) := by decide +kernel
theorem dX12_need_64 : decode cX12_need 64 = .ok (.iload_n 3, 1) := by decide +kernel
theorem dX12_need_65 : decode cX12_need 65 = .ok (.iconst 0, 1) := by decide +kernel
theorem dX12_need_66 : decode cX12_need 66 = .ok (.iconst 3, 1) := by decide +kernel
theorem dX12_need_67 : decode cX12_need 67 = .ok (.invokestatic 82, 3) := by decide +kernel
theorem dX12_need_70 : decode cX12_need 70 = .ok (.ifCond .ne 7, 3) := by decide +kernel
theorem dX12_need_73 : decode cX12_need 73 = .ok (.iconst 1, 1) := by decide +kernel
theorem dX12_need_74 : decode cX12_need 74 = .ok (.goto 4, 3) := by decide +kernel
theorem dX12_need_77 : decode cX12_need 77 = .ok (.iconst 0, 1) := by decide +kernel
theorem dX12_need_78 : decode cX12_need 78 = .ok (.iconst 3, 1) := by decide +kernel
theorem dX12_need_79 : decode cX12_need 79 = .ok (.invokevirtual 86, 3) := by decide +kernel
theorem dX12_need_82 : decode cX12_need 82 = .ok (.ifCond .eq 5, 3) := by decide +kernel
theorem dX12_need_85 : decode cX12_need 85 = .ok (.lconst 0, 1) := by decide +kernel
theorem dX12_need_86 : decode cX12_need 86 = .ok (.lreturn, 1) := by decide +kernel
theorem dX12_need_87 : decode cX12_need 87 = .ok (.iload_n 3, 1) := by decide +kernel
theorem dX12_need_88 : decode cX12_need 88 = .ok (.iconst 3, 1) := by decide +kernel
theorem dX12_need_89 : decode cX12_need 89 = .ok (.if_icmp .ne 20, 3) := by decide +kernel
theorem dX12_need_92 : decode cX12_need 92 = .ok (.aload_n 0, 1) := by decide +kernel
theorem dX12_need_93 : decode cX12_need 93 = .ok (.getfield 52, 3) := by decide +kernel
theorem dX12_need_96 : decode cX12_need 96 = .ok (.iconst 1, 1) := by decide +kernel
theorem dX12_need_97 : decode cX12_need 97 = .ok (.iaload, 1) := by decide +kernel
theorem dX12_need_98 : decode cX12_need 98 = .ok (.aload_n 0, 1) := by decide +kernel
theorem dX12_need_99 : decode cX12_need 99 = .ok (.getfield 52, 3) := by decide +kernel
theorem dX12_need_102 : decode cX12_need 102 = .ok (.iconst 2, 1) := by decide +kernel
theorem dX12_need_103 : decode cX12_need 103 = .ok (.iaload, 1) := by decide +kernel
theorem dX12_need_104 : decode cX12_need 104 = .ok (.invokestatic 260, 3) := by decide +kernel
theorem dX12_need_107 : decode cX12_need 107 = .ok (.i2l, 1) := by decide +kernel
theorem dX12_need_108 : decode cX12_need 108 = .ok (.lreturn, 1) := by decide +kernel
theorem dX12_need_109 : decode cX12_need 109 = .ok (.aload_n 0, 1) := by decide +kernel
theorem dX12_need_110 : decode cX12_need 110 = .ok (.iload_n 1, 1) := by decide +kernel
theorem dX12_need_111 : decode cX12_need 111 = .ok (.iload_n 2, 1) := by decide +kernel
theorem dX12_need_112 : decode cX12_need 112 = .ok (.i2l, 1) := by decide +kernel
theorem dX12_need_113 : decode cX12_need 113 = .ok (.iload_n 3, 1) := by decide +kernel
theorem dX12_need_114 : decode cX12_need 114 = .ok (.aload_n 0, 1) := by decide +kernel
theorem dX12_need_115 : decode cX12_need 115 = .ok (.getfield 52, 3) := by decide +kernel
theorem dX12_need_118 : decode cX12_need 118 = .ok (.iconst 0, 1) := by decide +kernel
theorem dX12_need_119 : decode cX12_need 119 = .ok (.iaload, 1) := by decide +kernel
theorem dX12_need_120 : decode cX12_need 120 = .ok (.aload_n 0, 1) := by decide +kernel
theorem dX12_need_121 : decode cX12_need 121 = .ok (.getfield 52, 3) := by decide +kernel
theorem dX12_need_124 : decode cX12_need 124 = .ok (.iconst 1, 1) := by decide +kernel
theorem dX12_need_125 : decode cX12_need 125 = .ok (.iaload, 1) := by decide +kernel
theorem dX12_need_126 : decode cX12_need 126 = .ok (.aload_n 0, 1) := by decide +kernel
theorem dX12_need_127 : decode cX12_need 127 = .ok (.getfield 52, 3) := by decide +kernel
theorem dX12_need_130 : decode cX12_need 130 = .ok (.iconst 2, 1) := by decide +kernel
theorem dX12_need_131 : decode cX12_need 131 = .ok (.iaload, 1) := by decide +kernel
theorem dX12_need_132 : decode cX12_need 132 = .ok (.aload_n 0, 1) := by decide +kernel
theorem dX12_need_133 : decode cX12_need 133 = .ok (.getfield 52, 3) := by decide +kernel
theorem dX12_need_136 : decode cX12_need 136 = .ok (.iconst 3, 1) := by decide +kernel
theorem dX12_need_137 : decode cX12_need 137 = .ok (.iaload, 1) := by decide +kernel
theorem dX12_need_138 : decode cX12_need 138 = .ok (.aload_n 0, 1) := by decide +kernel
theorem dX12_need_139 : decode cX12_need 139 = .ok (.getfield 52, 3) := by decide +kernel
theorem dX12_need_142 : decode cX12_need 142 = .ok (.iconst 4, 1) := by decide +kernel
theorem dX12_need_143 : decode cX12_need 143 = .ok (.iaload, 1) := by decide +kernel
theorem dX12_need_144 : decode cX12_need 144 = .ok (.aload_n 0, 1) := by decide +kernel
theorem dX12_need_145 : decode cX12_need 145 = .ok (.getfield 52, 3) := by decide +kernel
theorem dX12_need_148 : decode cX12_need 148 = .ok (.iconst 5, 1) := by decide +kernel
theorem dX12_need_149 : decode cX12_need 149 = .ok (.iaload, 1) := by decide +kernel
theorem dX12_need_150 : decode cX12_need 150 = .ok (.invokevirtual 265, 3) := by decide +kernel
theorem dX12_need_153 : decode cX12_need 153 = .ok (.lreturn, 1) := by decide +kernel
theorem dX12_modelSpeed_0 : decode cX12_modelSpeed 0 = .ok (.iconst 1, 1) := by decide +kernel
theorem dX12_modelSpeed_1 : decode cX12_modelSpeed 1 = .ok (.istore_n 2, 1) := by decide +kernel
theorem dX12_modelSpeed_2 : decode cX12_modelSpeed 2 = .ok (.iload_n 2, 1) := by decide +kernel
theorem dX12_modelSpeed_3 : decode cX12_modelSpeed 3 = .ok (.iconst 1, 1) := by decide +kernel
theorem dX12_modelSpeed_4 : decode cX12_modelSpeed 4 = .ok (.iadd, 1) := by decide +kernel
theorem dX12_modelSpeed_5 : decode cX12_modelSpeed 5 = .ok (.iload_n 2, 1) := by decide +kernel
theorem dX12_modelSpeed_6 : decode cX12_modelSpeed 6 = .ok (.iconst 1, 1) := by decide +kernel
theorem dX12_modelSpeed_7 : decode cX12_modelSpeed 7 = .ok (.iadd, 1) := by decide +kernel
theorem dX12_modelSpeed_8 : decode cX12_modelSpeed 8 = .ok (.imul, 1) := by decide +kernel
theorem dX12_modelSpeed_9 : decode cX12_modelSpeed 9 = .ok (.iload_n 1, 1) := by decide +kernel
theorem dX12_modelSpeed_10 : decode cX12_modelSpeed 10 = .ok (.imul, 1) := by decide +kernel
theorem dX12_modelSpeed_11 : decode cX12_modelSpeed 11 = .ok (.iload_n 0, 1) := by decide +kernel
theorem dX12_modelSpeed_12 : decode cX12_modelSpeed 12 = .ok (.iload_n 0, 1) := by decide +kernel
theorem dX12_modelSpeed_13 : decode cX12_modelSpeed 13 = .ok (.imul, 1) := by decide +kernel
theorem dX12_modelSpeed_14 : decode cX12_modelSpeed 14 = .ok (.if_icmp .gt 9, 3) := by decide +kernel
theorem dX12_modelSpeed_17 : decode cX12_modelSpeed 17 = .ok (.iinc 2 1, 3) := by decide +kernel
theorem dX12_modelSpeed_20 : decode cX12_modelSpeed 20 = .ok (.goto (-18), 3) := by decide +kernel
theorem dX12_modelSpeed_23 : decode cX12_modelSpeed 23 = .ok (.iload_n 2, 1) := by decide +kernel
theorem dX12_modelSpeed_24 : decode cX12_modelSpeed 24 = .ok (.ireturn, 1) := by decide +kernel
theorem dX12_errorOf_0 : decode cX12_errorOf 0 = .ok (.iload_n 3, 1) := by decide +kernel
theorem dX12_errorOf_1 : decode cX12_errorOf 1 = .ok (.iload 4, 2) := by decide +kernel
theorem dX12_errorOf_3 : decode cX12_errorOf 3 = .ok (.invokestatic 269, 3) := by decide +kernel
theorem dX12_errorOf_6 : decode cX12_errorOf 6 = .ok (.istore 5, 2) := by decide +kernel
theorem dX12_errorOf_8 : decode cX12_errorOf 8 = .ok (.aload_n 0, 1) := by decide +kernel
theorem dX12_errorOf_9 : decode cX12_errorOf 9 = .ok (.aload_n 0, 1) := by decide +kernel
theorem dX12_errorOf_10 : decode cX12_errorOf 10 = .ok (.getfield 52, 3) := by decide +kernel
theorem dX12_errorOf_13 : decode cX12_errorOf 13 = .ok (.iconst 0, 1) := by decide +kernel
theorem dX12_errorOf_14 : decode cX12_errorOf 14 = .ok (.iaload, 1) := by decide +kernel
theorem dX12_errorOf_15 : decode cX12_errorOf 15 = .ok (.iload 4, 2) := by decide +kernel
theorem dX12_errorOf_17 : decode cX12_errorOf 17 = .ok (.iload 5, 2) := by decide +kernel
theorem dX12_errorOf_19 : decode cX12_errorOf 19 = .ok (.iconst (-1), 1) := by decide +kernel
theorem dX12_errorOf_20 : decode cX12_errorOf 20 = .ok (.iconst 0, 1) := by decide +kernel
theorem dX12_errorOf_21 : decode cX12_errorOf 21 = .ok (.iconst 0, 1) := by decide +kernel
theorem dX12_errorOf_22 : decode cX12_errorOf 22 = .ok (.invokevirtual 245, 3) := by decide +kernel
theorem dX12_errorOf_25 : decode cX12_errorOf 25 = .ok (.aload_n 0, 1) := by decide +kernel
theorem dX12_errorOf_26 : decode cX12_errorOf 26 = .ok (.iload_n 1, 1) := by decide +kernel
theorem dX12_errorOf_27 : decode cX12_errorOf 27 = .ok (.invokevirtual 255, 3) := by decide +kernel
theorem dX12_errorOf_30 : decode cX12_errorOf 30 = .ok (.lconst 0, 1) := by decide +kernel
theorem dX12_errorOf_31 : decode cX12_errorOf 31 = .ok (.ldc2_w 229, 3) := by decide +kernel
theorem dX12_errorOf_34 : decode cX12_errorOf 34 = .ok (.invokestatic 231, 3) := by decide +kernel
theorem dX12_errorOf_37 : decode cX12_errorOf 37 = .ok (.lstore 6, 2) := by decide +kernel
theorem dX12_errorOf_39 : decode cX12_errorOf 39 = .ok (.aload_n 0, 1) := by decide +kernel
theorem dX12_errorOf_40 : decode cX12_errorOf 40 = .ok (.iload_n 2, 1) := by decide +kernel
theorem dX12_errorOf_41 : decode cX12_errorOf 41 = .ok (.lload 6, 2) := by decide +kernel
theorem dX12_errorOf_43 : decode cX12_errorOf 43 = .ok (.iconst 2, 1) := by decide +kernel
theorem dX12_errorOf_44 : decode cX12_errorOf 44 = .ok (.aload_n 0, 1) := by decide +kernel
theorem dX12_errorOf_45 : decode cX12_errorOf 45 = .ok (.getfield 52, 3) := by decide +kernel
theorem dX12_errorOf_48 : decode cX12_errorOf 48 = .ok (.iconst 0, 1) := by decide +kernel
theorem dX12_errorOf_49 : decode cX12_errorOf 49 = .ok (.iaload, 1) := by decide +kernel
theorem dX12_errorOf_50 : decode cX12_errorOf 50 = .ok (.iload 4, 2) := by decide +kernel
theorem dX12_errorOf_52 : decode cX12_errorOf 52 = .ok (.iload 5, 2) := by decide +kernel
theorem dX12_errorOf_54 : decode cX12_errorOf 54 = .ok (.iconst (-1), 1) := by decide +kernel
theorem dX12_errorOf_55 : decode cX12_errorOf 55 = .ok (.iconst 0, 1) := by decide +kernel
theorem dX12_errorOf_56 : decode cX12_errorOf 56 = .ok (.iconst 0, 1) := by decide +kernel
theorem dX12_errorOf_57 : decode cX12_errorOf 57 = .ok (.invokevirtual 265, 3) := by decide +kernel
theorem dX12_errorOf_60 : decode cX12_errorOf 60 = .ok (.lstore 8, 2) := by decide +kernel
theorem dX12_errorOf_62 : decode cX12_errorOf 62 = .ok (.aload_n 0, 1) := by decide +kernel
theorem dX12_errorOf_63 : decode cX12_errorOf 63 = .ok (.aload_n 0, 1) := by decide +kernel
theorem dX12_errorOf_64 : decode cX12_errorOf 64 = .ok (.getfield 52, 3) := by decide +kernel
theorem dX12_errorOf_67 : decode cX12_errorOf 67 = .ok (.iconst 0, 1) := by decide +kernel
theorem dX12_errorOf_68 : decode cX12_errorOf 68 = .ok (.iaload, 1) := by decide +kernel
theorem dX12_errorOf_69 : decode cX12_errorOf 69 = .ok (.iconst 1, 1) := by decide +kernel
theorem dX12_errorOf_70 : decode cX12_errorOf 70 = .ok (.iload_n 3, 1) := by decide +kernel
theorem dX12_errorOf_71 : decode cX12_errorOf 71 = .ok (.iconst (-1), 1) := by decide +kernel
theorem dX12_errorOf_72 : decode cX12_errorOf 72 = .ok (.iconst 0, 1) := by decide +kernel
theorem dX12_errorOf_73 : decode cX12_errorOf 73 = .ok (.iconst 0, 1) := by decide +kernel
theorem dX12_errorOf_74 : decode cX12_errorOf 74 = .ok (.invokevirtual 245, 3) := by decide +kernel
theorem dX12_errorOf_77 : decode cX12_errorOf 77 = .ok (.lload 8, 2) := by decide +kernel
theorem dX12_errorOf_79 : decode cX12_errorOf 79 = .ok (.aload_n 0, 1) := by decide +kernel
theorem dX12_errorOf_80 : decode cX12_errorOf 80 = .ok (.iload_n 1, 1) := by decide +kernel
theorem dX12_errorOf_81 : decode cX12_errorOf 81 = .ok (.invokevirtual 255, 3) := by decide +kernel
theorem dX12_errorOf_84 : decode cX12_errorOf 84 = .ok (.lsub, 1) := by decide +kernel
theorem dX12_errorOf_85 : decode cX12_errorOf 85 = .ok (.invokestatic 272, 3) := by decide +kernel
theorem dX12_errorOf_88 : decode cX12_errorOf 88 = .ok (.lreturn, 1) := by decide +kernel
theorem dX12_badBoth_0 : decode cX12_badBoth 0 = .ok (.aload_n 0, 1) := by decide +kernel
theorem dX12_badBoth_1 : decode cX12_badBoth 1 = .ok (.aload_n 0, 1) := by decide +kernel
theorem dX12_badBoth_2 : decode cX12_badBoth 2 = .ok (.getfield 90, 3) := by decide +kernel
theorem dX12_badBoth_5 : decode cX12_badBoth 5 = .ok (.ifCond .ne 7, 3) := by decide +kernel
theorem dX12_badBoth_8 : decode cX12_badBoth 8 = .ok (.iconst 1, 1) := by decide +kernel
theorem dX12_badBoth_9 : decode cX12_badBoth 9 = .ok (.goto 4, 3) := by decide +kernel
theorem dX12_badBoth_12 : decode cX12_badBoth 12 = .ok (.iconst 0, 1) := by decide +kernel
theorem dX12_badBoth_13 : decode cX12_badBoth 13 = .ok (.iconst 1, 1) := by decide +kernel
theorem dX12_badBoth_14 : decode cX12_badBoth 14 = .ok (.invokevirtual 86, 3) := by decide +kernel
theorem dX12_badBoth_17 : decode cX12_badBoth 17 = .ok (.ifCond .ne 38, 3) := by decide +kernel
theorem dX12_badBoth_20 : decode cX12_badBoth 20 = .ok (.aload_n 0, 1) := by decide +kernel
theorem dX12_badBoth_21 : decode cX12_badBoth 21 = .ok (.aload_n 0, 1) := by decide +kernel
theorem dX12_badBoth_22 : decode cX12_badBoth 22 = .ok (.iload_n 1, 1) := by decide +kernel
theorem dX12_badBoth_23 : decode cX12_badBoth 23 = .ok (.invokevirtual 252, 3) := by decide +kernel
theorem dX12_badBoth_26 : decode cX12_badBoth 26 = .ok (.ifCond .eq 17, 3) := by decide +kernel
theorem dX12_badBoth_29 : decode cX12_badBoth 29 = .ok (.iload_n 2, 1) := by decide +kernel
theorem dX12_badBoth_30 : decode cX12_badBoth 30 = .ok (.iconst 0, 1) := by decide +kernel
theorem dX12_badBoth_31 : decode cX12_badBoth 31 = .ok (.aload_n 0, 1) := by decide +kernel
theorem dX12_badBoth_32 : decode cX12_badBoth 32 = .ok (.getfield 220, 3) := by decide +kernel
theorem dX12_badBoth_35 : decode cX12_badBoth 35 = .ok (.iconst 1, 1) := by decide +kernel
theorem dX12_badBoth_36 : decode cX12_badBoth 36 = .ok (.isub, 1) := by decide +kernel
theorem dX12_badBoth_37 : decode cX12_badBoth 37 = .ok (.invokestatic 82, 3) := by decide +kernel
theorem dX12_badBoth_40 : decode cX12_badBoth 40 = .ok (.ifCond .ne 7, 3) := by decide +kernel
theorem dX12_badBoth_43 : decode cX12_badBoth 43 = .ok (.iconst 1, 1) := by decide +kernel
theorem dX12_badBoth_44 : decode cX12_badBoth 44 = .ok (.goto 4, 3) := by decide +kernel
theorem dX12_badBoth_47 : decode cX12_badBoth 47 = .ok (.iconst 0, 1) := by decide +kernel
theorem dX12_badBoth_48 : decode cX12_badBoth 48 = .ok (.iconst 2, 1) := by decide +kernel
theorem dX12_badBoth_49 : decode cX12_badBoth 49 = .ok (.invokevirtual 86, 3) := by decide +kernel
theorem dX12_badBoth_52 : decode cX12_badBoth 52 = .ok (.ifCond .eq 7, 3) := by decide +kernel
theorem dX12_badBoth_55 : decode cX12_badBoth 55 = .ok (.iconst 1, 1) := by decide +kernel
theorem dX12_badBoth_56 : decode cX12_badBoth 56 = .ok (.goto 4, 3) := by decide +kernel
theorem dX12_badBoth_59 : decode cX12_badBoth 59 = .ok (.iconst 0, 1) := by decide +kernel
theorem dX12_badBoth_60 : decode cX12_badBoth 60 = .ok (.ireturn, 1) := by decide +kernel
theorem dX12_error_0 : decode cX12_error 0 = .ok (.aload_n 0, 1) := by decide +kernel
theorem dX12_error_1 : decode cX12_error 1 = .ok (.iconst 0, 1) := by decide +kernel
theorem dX12_error_2 : decode cX12_error 2 = .ok (.putfield 79, 3) := by decide +kernel
theorem dX12_error_5 : decode cX12_error 5 = .ok (.aload_n 0, 1) := by decide +kernel
theorem dX12_error_6 : decode cX12_error 6 = .ok (.iload_n 1, 1) := by decide +kernel
theorem dX12_error_7 : decode cX12_error 7 = .ok (.iload_n 2, 1) := by decide +kernel
theorem dX12_error_8 : decode cX12_error 8 = .ok (.invokevirtual 275, 3) := by decide +kernel
theorem dX12_error_11 : decode cX12_error 11 = .ok (.ifCond .ne 37, 3) := by decide +kernel
theorem dX12_error_14 : decode cX12_error 14 = .ok (.aload_n 0, 1) := by decide +kernel
theorem dX12_error_15 : decode cX12_error 15 = .ok (.iload_n 3, 1) := by decide +kernel
theorem dX12_error_16 : decode cX12_error 16 = .ok (.iconst 1, 1) := by decide +kernel
theorem dX12_error_17 : decode cX12_error 17 = .ok (.bipush 99, 2) := by decide +kernel
theorem dX12_error_19 : decode cX12_error 19 = .ok (.invokestatic 82, 3) := by decide +kernel
theorem dX12_error_22 : decode cX12_error 22 = .ok (.ifCond .eq 14, 3) := by decide +kernel
theorem dX12_error_25 : decode cX12_error 25 = .ok (.iload 4, 2) := by decide +kernel
theorem dX12_error_27 : decode cX12_error 27 = .ok (.iconst 1, 1) := by decide +kernel
theorem dX12_error_28 : decode cX12_error 28 = .ok (.bipush 40, 2) := by decide +kernel
theorem dX12_error_30 : decode cX12_error 30 = .ok (.invokestatic 82, 3) := by decide +kernel
theorem dX12_error_33 : decode cX12_error 33 = .ok (.ifCond .ne 7, 3) := by decide +kernel
theorem dX12_error_36 : decode cX12_error 36 = .ok (.iconst 1, 1) := by decide +kernel
theorem dX12_error_37 : decode cX12_error 37 = .ok (.goto 4, 3) := by decide +kernel
theorem dX12_error_40 : decode cX12_error 40 = .ok (.iconst 0, 1) := by decide +kernel
theorem dX12_error_41 : decode cX12_error 41 = .ok (.iconst 3, 1) := by decide +kernel
theorem dX12_error_42 : decode cX12_error 42 = .ok (.invokevirtual 86, 3) := by decide +kernel
theorem dX12_error_45 : decode cX12_error 45 = .ok (.ifCond .eq 5, 3) := by decide +kernel
theorem dX12_error_48 : decode cX12_error 48 = .ok (.lconst 0, 1) := by decide +kernel
theorem dX12_error_49 : decode cX12_error 49 = .ok (.lreturn, 1) := by decide +kernel
theorem dX12_error_50 : decode cX12_error 50 = .ok (.aload_n 0, 1) := by decide +kernel
theorem dX12_error_51 : decode cX12_error 51 = .ok (.iload_n 1, 1) := by decide +kernel
theorem dX12_error_52 : decode cX12_error 52 = .ok (.iload_n 2, 1) := by decide +kernel
theorem dX12_error_53 : decode cX12_error 53 = .ok (.iload_n 3, 1) := by decide +kernel
theorem dX12_error_54 : decode cX12_error 54 = .ok (.iload 4, 2) := by decide +kernel
theorem dX12_error_56 : decode cX12_error 56 = .ok (.invokevirtual 279, 3) := by decide +kernel
theorem dX12_error_59 : decode cX12_error 59 = .ok (.lreturn, 1) := by decide +kernel
theorem dX12_size_0 : decode cX12_size 0 = .ok (.aload_n 0, 1) := by decide +kernel
theorem dX12_size_1 : decode cX12_size 1 = .ok (.iconst 0, 1) := by decide +kernel
theorem dX12_size_2 : decode cX12_size 2 = .ok (.putfield 79, 3) := by decide +kernel
theorem dX12_size_5 : decode cX12_size 5 = .ok (.aload_n 0, 1) := by decide +kernel
theorem dX12_size_6 : decode cX12_size 6 = .ok (.iload_n 1, 1) := by decide +kernel
theorem dX12_size_7 : decode cX12_size 7 = .ok (.iload_n 2, 1) := by decide +kernel
theorem dX12_size_8 : decode cX12_size 8 = .ok (.invokevirtual 275, 3) := by decide +kernel
theorem dX12_size_11 : decode cX12_size 11 = .ok (.ifCond .ne 38, 3) := by decide +kernel
theorem dX12_size_14 : decode cX12_size 14 = .ok (.aload_n 0, 1) := by decide +kernel
theorem dX12_size_15 : decode cX12_size 15 = .ok (.iload_n 3, 1) := by decide +kernel
theorem dX12_size_16 : decode cX12_size 16 = .ok (.iconst 1, 1) := by decide +kernel
theorem dX12_size_17 : decode cX12_size 17 = .ok (.bipush 99, 2) := by decide +kernel
theorem dX12_size_19 : decode cX12_size 19 = .ok (.invokestatic 82, 3) := by decide +kernel
theorem dX12_size_22 : decode cX12_size 22 = .ok (.ifCond .eq 15, 3) := by decide +kernel
theorem dX12_size_25 : decode cX12_size 25 = .ok (.iload 4, 2) := by decide +kernel
theorem dX12_size_27 : decode cX12_size 27 = .ok (.iconst 0, 1) := by decide +kernel
theorem dX12_size_28 : decode cX12_size 28 = .ok (.sipush 9999, 3) := by decide +kernel
theorem dX12_size_31 : decode cX12_size 31 = .ok (.invokestatic 82, 3) := by decide +kernel
theorem dX12_size_34 : decode cX12_size 34 = .ok (.ifCond .ne 7, 3) := by decide +kernel
theorem dX12_size_37 : decode cX12_size 37 = .ok (.iconst 1, 1) := by decide +kernel
theorem dX12_size_38 : decode cX12_size 38 = .ok (.goto 4, 3) := by decide +kernel
theorem dX12_size_41 : decode cX12_size 41 = .ok (.iconst 0, 1) := by decide +kernel
theorem dX12_size_42 : decode cX12_size 42 = .ok (.iconst 3, 1) := by decide +kernel
theorem dX12_size_43 : decode cX12_size 43 = .ok (.invokevirtual 86, 3) := by decide +kernel
theorem dX12_size_46 : decode cX12_size 46 = .ok (.ifCond .eq 5, 3) := by decide +kernel
theorem dX12_size_49 : decode cX12_size 49 = .ok (.iconst 0, 1) := by decide +kernel
theorem dX12_size_50 : decode cX12_size 50 = .ok (.ireturn, 1) := by decide +kernel
theorem dX12_size_51 : decode cX12_size 51 = .ok (.iconst 2, 1) := by decide +kernel
theorem dX12_size_52 : decode cX12_size 52 = .ok (.istore 5, 2) := by decide +kernel
theorem dX12_size_54 : decode cX12_size 54 = .ok (.lconst 0, 1) := by decide +kernel
theorem dX12_size_55 : decode cX12_size 55 = .ok (.lstore 6, 2) := by decide +kernel
theorem dX12_size_57 : decode cX12_size 57 = .ok (.iconst 2, 1) := by decide +kernel
theorem dX12_size_58 : decode cX12_size 58 = .ok (.istore 8, 2) := by decide +kernel
theorem dX12_size_60 : decode cX12_size 60 = .ok (.iload 8, 2) := by decide +kernel
theorem dX12_size_62 : decode cX12_size 62 = .ok (.bipush 40, 2) := by decide +kernel
theorem dX12_size_64 : decode cX12_size 64 = .ok (.if_icmp .gt 63, 3) := by decide +kernel
theorem dX12_size_67 : decode cX12_size 67 = .ok (.aload_n 0, 1) := by decide +kernel
theorem dX12_size_68 : decode cX12_size 68 = .ok (.iload_n 1, 1) := by decide +kernel
theorem dX12_size_69 : decode cX12_size 69 = .ok (.iload_n 2, 1) := by decide +kernel
theorem dX12_size_70 : decode cX12_size 70 = .ok (.iload_n 3, 1) := by decide +kernel
theorem dX12_size_71 : decode cX12_size 71 = .ok (.iload 8, 2) := by decide +kernel
theorem dX12_size_73 : decode cX12_size 73 = .ok (.invokevirtual 279, 3) := by decide +kernel
theorem dX12_size_76 : decode cX12_size 76 = .ok (.iload 4, 2) := by decide +kernel
theorem dX12_size_78 : decode cX12_size 78 = .ok (.i2l, 1) := by decide +kernel
theorem dX12_size_79 : decode cX12_size 79 = .ok (.aload_n 0, 1) := by decide +kernel
theorem dX12_size_80 : decode cX12_size 80 = .ok (.aload_n 0, 1) := by decide +kernel
theorem dX12_size_81 : decode cX12_size 81 = .ok (.getfield 52, 3) := by decide +kernel
theorem dX12_size_84 : decode cX12_size 84 = .ok (.iconst 0, 1) := by decide +kernel
theorem dX12_size_85 : decode cX12_size 85 = .ok (.iaload, 1) := by decide +kernel
theorem dX12_size_86 : decode cX12_size 86 = .ok (.iload 8, 2) := by decide +kernel
theorem dX12_size_88 : decode cX12_size 88 = .ok (.iconst 0, 1) := by decide +kernel
theorem dX12_size_89 : decode cX12_size 89 = .ok (.invokevirtual 101, 3) := by decide +kernel
theorem dX12_size_92 : decode cX12_size 92 = .ok (.lmul, 1) := by decide +kernel
theorem dX12_size_93 : decode cX12_size 93 = .ok (.ladd, 1) := by decide +kernel
theorem dX12_size_94 : decode cX12_size 94 = .ok (.lstore 9, 2) := by decide +kernel
theorem dX12_size_96 : decode cX12_size 96 = .ok (.iload 8, 2) := by decide +kernel
theorem dX12_size_98 : decode cX12_size 98 = .ok (.iconst 2, 1) := by decide +kernel
theorem dX12_size_99 : decode cX12_size 99 = .ok (.if_icmp .le 14, 3) := by decide +kernel
theorem dX12_size_102 : decode cX12_size 102 = .ok (.lload 9, 2) := by decide +kernel
theorem dX12_size_104 : decode cX12_size 104 = .ok (.lload 6, 2) := by decide +kernel
theorem dX12_size_106 : decode cX12_size 106 = .ok (.lcmp, 1) := by decide +kernel
theorem dX12_size_107 : decode cX12_size 107 = .ok (.ifCond .lt 6, 3) := by decide +kernel
theorem dX12_size_110 : decode cX12_size 110 = .ok (.goto 11, 3) := by decide +kernel
theorem dX12_size_113 : decode cX12_size 113 = .ok (.iload 8, 2) := by decide +kernel
theorem dX12_size_115 : decode cX12_size 115 = .ok (.istore 5, 2) := by decide +kernel
theorem dX12_size_117 : decode cX12_size 117 = .ok (.lload 9, 2) := by decide +kernel
theorem dX12_size_119 : decode cX12_size 119 = .ok (.lstore 6, 2) := by decide +kernel
theorem dX12_size_121 : decode cX12_size 121 = .ok (.iinc 8 1, 3) := by decide +kernel
theorem dX12_size_124 : decode cX12_size 124 = .ok (.goto (-64), 3) := by decide +kernel
theorem dX12_size_127 : decode cX12_size 127 = .ok (.iload 5, 2) := by decide +kernel
theorem dX12_size_129 : decode cX12_size 129 = .ok (.ireturn, 1) := by decide +kernel
theorem dX12_pullAt_0 : decode cX12_pullAt 0 = .ok (.aload_n 0, 1) := by decide +kernel
theorem dX12_pullAt_1 : decode cX12_pullAt 1 = .ok (.aload_n 0, 1) := by decide +kernel
theorem dX12_pullAt_2 : decode cX12_pullAt 2 = .ok (.getfield 52, 3) := by decide +kernel
theorem dX12_pullAt_5 : decode cX12_pullAt 5 = .ok (.iconst 0, 1) := by decide +kernel
theorem dX12_pullAt_6 : decode cX12_pullAt 6 = .ok (.iaload, 1) := by decide +kernel
theorem dX12_pullAt_7 : decode cX12_pullAt 7 = .ok (.iload_n 2, 1) := by decide +kernel
theorem dX12_pullAt_8 : decode cX12_pullAt 8 = .ok (.aload_n 0, 1) := by decide +kernel
theorem dX12_pullAt_9 : decode cX12_pullAt 9 = .ok (.getfield 52, 3) := by decide +kernel
theorem dX12_pullAt_12 : decode cX12_pullAt 12 = .ok (.iconst 2, 1) := by decide +kernel
theorem dX12_pullAt_13 : decode cX12_pullAt 13 = .ok (.iaload, 1) := by decide +kernel
theorem dX12_pullAt_14 : decode cX12_pullAt 14 = .ok (.iload_n 3, 1) := by decide +kernel
theorem dX12_pullAt_15 : decode cX12_pullAt 15 = .ok (.ifCond .eq 7, 3) := by decide +kernel
theorem dX12_pullAt_18 : decode cX12_pullAt 18 = .ok (.iconst (-1), 1) := by decide +kernel
theorem dX12_pullAt_19 : decode cX12_pullAt 19 = .ok (.goto 9, 3) := by decide +kernel
theorem dX12_pullAt_22 : decode cX12_pullAt 22 = .ok (.aload_n 0, 1) := by decide +kernel
theorem dX12_pullAt_23 : decode cX12_pullAt 23 = .ok (.getfield 52, 3) := by decide +kernel
theorem dX12_pullAt_26 : decode cX12_pullAt 26 = .ok (.iconst 3, 1) := by decide +kernel
theorem dX12_pullAt_27 : decode cX12_pullAt 27 = .ok (.iaload, 1) := by decide +kernel
theorem dX12_pullAt_28 : decode cX12_pullAt 28 = .ok (.aload_n 0, 1) := by decide +kernel
theorem dX12_pullAt_29 : decode cX12_pullAt 29 = .ok (.getfield 52, 3) := by decide +kernel
theorem dX12_pullAt_32 : decode cX12_pullAt 32 = .ok (.iconst 4, 1) := by decide +kernel
theorem dX12_pullAt_33 : decode cX12_pullAt 33 = .ok (.iaload, 1) := by decide +kernel
theorem dX12_pullAt_34 : decode cX12_pullAt 34 = .ok (.aload_n 0, 1) := by decide +kernel
theorem dX12_pullAt_35 : decode cX12_pullAt 35 = .ok (.getfield 52, 3) := by decide +kernel
theorem dX12_pullAt_38 : decode cX12_pullAt 38 = .ok (.iconst 5, 1) := by decide +kernel
theorem dX12_pullAt_39 : decode cX12_pullAt 39 = .ok (.iaload, 1) := by decide +kernel
theorem dX12_pullAt_40 : decode cX12_pullAt 40 = .ok (.invokevirtual 245, 3) := by decide +kernel
theorem dX12_pullAt_43 : decode cX12_pullAt 43 = .ok (.aload_n 0, 1) := by decide +kernel
theorem dX12_pullAt_44 : decode cX12_pullAt 44 = .ok (.iload_n 1, 1) := by decide +kernel
theorem dX12_pullAt_45 : decode cX12_pullAt 45 = .ok (.invokevirtual 255, 3) := by decide +kernel
theorem dX12_pullAt_48 : decode cX12_pullAt 48 = .ok (.lreturn, 1) := by decide +kernel
theorem dX12_sides_0 : decode cX12_sides 0 = .ok (.aload_n 0, 1) := by decide +kernel
theorem dX12_sides_1 : decode cX12_sides 1 = .ok (.iconst 0, 1) := by decide +kernel
theorem dX12_sides_2 : decode cX12_sides 2 = .ok (.putfield 79, 3) := by decide +kernel
theorem dX12_sides_5 : decode cX12_sides 5 = .ok (.aload_n 0, 1) := by decide +kernel
theorem dX12_sides_6 : decode cX12_sides 6 = .ok (.aload_n 0, 1) := by decide +kernel
theorem dX12_sides_7 : decode cX12_sides 7 = .ok (.getfield 90, 3) := by decide +kernel
theorem dX12_sides_10 : decode cX12_sides 10 = .ok (.ifCond .ne 7, 3) := by decide +kernel
theorem dX12_sides_13 : decode cX12_sides 13 = .ok (.iconst 1, 1) := by decide +kernel
theorem dX12_sides_14 : decode cX12_sides 14 = .ok (.goto 4, 3) := by decide +kernel
theorem dX12_sides_17 : decode cX12_sides 17 = .ok (.iconst 0, 1) := by decide +kernel
theorem dX12_sides_18 : decode cX12_sides 18 = .ok (.iconst 1, 1) := by decide +kernel
theorem dX12_sides_19 : decode cX12_sides 19 = .ok (.invokevirtual 86, 3) := by decide +kernel
theorem dX12_sides_22 : decode cX12_sides 22 = .ok (.ifCond .ne 24, 3) := by decide +kernel
theorem dX12_sides_25 : decode cX12_sides 25 = .ok (.aload_n 0, 1) := by decide +kernel
theorem dX12_sides_26 : decode cX12_sides 26 = .ok (.aload_n 0, 1) := by decide +kernel
theorem dX12_sides_27 : decode cX12_sides 27 = .ok (.iload_n 1, 1) := by decide +kernel
theorem dX12_sides_28 : decode cX12_sides 28 = .ok (.invokevirtual 252, 3) := by decide +kernel
theorem dX12_sides_31 : decode cX12_sides 31 = .ok (.ifCond .ne 7, 3) := by decide +kernel
theorem dX12_sides_34 : decode cX12_sides 34 = .ok (.iconst 1, 1) := by decide +kernel
theorem dX12_sides_35 : decode cX12_sides 35 = .ok (.goto 4, 3) := by decide +kernel
theorem dX12_sides_38 : decode cX12_sides 38 = .ok (.iconst 0, 1) := by decide +kernel
theorem dX12_sides_39 : decode cX12_sides 39 = .ok (.iconst 2, 1) := by decide +kernel
theorem dX12_sides_40 : decode cX12_sides 40 = .ok (.invokevirtual 86, 3) := by decide +kernel
theorem dX12_sides_43 : decode cX12_sides 43 = .ok (.ifCond .eq 5, 3) := by decide +kernel
theorem dX12_sides_46 : decode cX12_sides 46 = .ok (.lconst 0, 1) := by decide +kernel
theorem dX12_sides_47 : decode cX12_sides 47 = .ok (.lreturn, 1) := by decide +kernel
theorem dX12_sides_48 : decode cX12_sides 48 = .ok (.aload_n 0, 1) := by decide +kernel
theorem dX12_sides_49 : decode cX12_sides 49 = .ok (.iload_n 1, 1) := by decide +kernel
theorem dX12_sides_50 : decode cX12_sides 50 = .ok (.aload_n 0, 1) := by decide +kernel
theorem dX12_sides_51 : decode cX12_sides 51 = .ok (.getfield 52, 3) := by decide +kernel
theorem dX12_sides_54 : decode cX12_sides 54 = .ok (.iconst 1, 1) := by decide +kernel
theorem dX12_sides_55 : decode cX12_sides 55 = .ok (.iaload, 1) := by decide +kernel
theorem dX12_sides_56 : decode cX12_sides 56 = .ok (.iconst 0, 1) := by decide +kernel
theorem dX12_sides_57 : decode cX12_sides 57 = .ok (.invokevirtual 283, 3) := by decide +kernel
theorem dX12_sides_60 : decode cX12_sides 60 = .ok (.aload_n 0, 1) := by decide +kernel
theorem dX12_sides_61 : decode cX12_sides 61 = .ok (.iload_n 1, 1) := by decide +kernel
theorem dX12_sides_62 : decode cX12_sides 62 = .ok (.aload_n 0, 1) := by decide +kernel
theorem dX12_sides_63 : decode cX12_sides 63 = .ok (.getfield 52, 3) := by decide +kernel
theorem dX12_sides_66 : decode cX12_sides 66 = .ok (.iconst 1, 1) := by decide +kernel
theorem dX12_sides_67 : decode cX12_sides 67 = .ok (.iaload, 1) := by decide +kernel
theorem dX12_sides_68 : decode cX12_sides 68 = .ok (.iconst 1, 1) := by decide +kernel
theorem dX12_sides_69 : decode cX12_sides 69 = .ok (.invokevirtual 283, 3) := by decide +kernel
theorem dX12_sides_72 : decode cX12_sides 72 = .ok (.lsub, 1) := by decide +kernel
theorem dX12_sides_73 : decode cX12_sides 73 = .ok (.lreturn, 1) := by decide +kernel
theorem dX12_widest_0 : decode cX12_widest 0 = .ok (.aload_n 0, 1) := by decide +kernel
theorem dX12_widest_1 : decode cX12_widest 1 = .ok (.iconst 0, 1) := by decide +kernel
theorem dX12_widest_2 : decode cX12_widest 2 = .ok (.putfield 79, 3) := by decide +kernel
theorem dX12_widest_5 : decode cX12_widest 5 = .ok (.aload_n 0, 1) := by decide +kernel
theorem dX12_widest_6 : decode cX12_widest 6 = .ok (.aload_n 0, 1) := by decide +kernel
theorem dX12_widest_7 : decode cX12_widest 7 = .ok (.getfield 90, 3) := by decide +kernel
theorem dX12_widest_10 : decode cX12_widest 10 = .ok (.ifCond .ne 7, 3) := by decide +kernel
theorem dX12_widest_13 : decode cX12_widest 13 = .ok (.iconst 1, 1) := by decide +kernel
theorem dX12_widest_14 : decode cX12_widest 14 = .ok (.goto 4, 3) := by decide +kernel
theorem dX12_widest_17 : decode cX12_widest 17 = .ok (.iconst 0, 1) := by decide +kernel
theorem dX12_widest_18 : decode cX12_widest 18 = .ok (.iconst 1, 1) := by decide +kernel
theorem dX12_widest_19 : decode cX12_widest 19 = .ok (.invokevirtual 86, 3) := by decide +kernel
theorem dX12_widest_22 : decode cX12_widest 22 = .ok (.ifCond .ne 47, 3) := by decide +kernel
theorem dX12_widest_25 : decode cX12_widest 25 = .ok (.aload_n 0, 1) := by decide +kernel
theorem dX12_widest_26 : decode cX12_widest 26 = .ok (.aload_n 0, 1) := by decide +kernel
theorem dX12_widest_27 : decode cX12_widest 27 = .ok (.iload_n 1, 1) := by decide +kernel
theorem dX12_widest_28 : decode cX12_widest 28 = .ok (.invokevirtual 252, 3) := by decide +kernel
theorem dX12_widest_31 : decode cX12_widest 31 = .ok (.ifCond .ne 7, 3) := by decide +kernel
theorem dX12_widest_34 : decode cX12_widest 34 = .ok (.iconst 1, 1) := by decide +kernel
theorem dX12_widest_35 : decode cX12_widest 35 = .ok (.goto 4, 3) := by decide +kernel
theorem dX12_widest_38 : decode cX12_widest 38 = .ok (.iconst 0, 1) := by decide +kernel
theorem dX12_widest_39 : decode cX12_widest 39 = .ok (.iconst 2, 1) := by decide +kernel
theorem dX12_widest_40 : decode cX12_widest 40 = .ok (.invokevirtual 86, 3) := by decide +kernel
theorem dX12_widest_43 : decode cX12_widest 43 = .ok (.ifCond .ne 26, 3) := by decide +kernel
theorem dX12_widest_46 : decode cX12_widest 46 = .ok (.aload_n 0, 1) := by decide +kernel
theorem dX12_widest_47 : decode cX12_widest 47 = .ok (.iload_n 2, 1) := by decide +kernel
theorem dX12_widest_48 : decode cX12_widest 48 = .ok (.iconst 0, 1) := by decide +kernel
theorem dX12_widest_49 : decode cX12_widest 49 = .ok (.bipush 99, 2) := by decide +kernel
theorem dX12_widest_51 : decode cX12_widest 51 = .ok (.invokestatic 82, 3) := by decide +kernel
theorem dX12_widest_54 : decode cX12_widest 54 = .ok (.ifCond .ne 7, 3) := by decide +kernel
theorem dX12_widest_57 : decode cX12_widest 57 = .ok (.iconst 1, 1) := by decide +kernel
theorem dX12_widest_58 : decode cX12_widest 58 = .ok (.goto 4, 3) := by decide +kernel
theorem dX12_widest_61 : decode cX12_widest 61 = .ok (.iconst 0, 1) := by decide +kernel
theorem dX12_widest_62 : decode cX12_widest 62 = .ok (.iconst 3, 1) := by decide +kernel
theorem dX12_widest_63 : decode cX12_widest 63 = .ok (.invokevirtual 86, 3) := by decide +kernel
theorem dX12_widest_66 : decode cX12_widest 66 = .ok (.ifCond .eq 5, 3) := by decide +kernel
theorem dX12_widest_69 : decode cX12_widest 69 = .ok (.iconst 0, 1) := by decide +kernel
theorem dX12_widest_70 : decode cX12_widest 70 = .ok (.ireturn, 1) := by decide +kernel
theorem dX12_widest_71 : decode cX12_widest 71 = .ok (.iconst 1, 1) := by decide +kernel
theorem dX12_widest_72 : decode cX12_widest 72 = .ok (.istore_n 3, 1) := by decide +kernel
theorem dX12_widest_73 : decode cX12_widest 73 = .ok (.iload_n 3, 1) := by decide +kernel
theorem dX12_widest_74 : decode cX12_widest 74 = .ok (.bipush 40, 2) := by decide +kernel
theorem dX12_widest_76 : decode cX12_widest 76 = .ok (.if_icmp .gt 43, 3) := by decide +kernel
theorem dX12_widest_79 : decode cX12_widest 79 = .ok (.aload_n 0, 1) := by decide +kernel
theorem dX12_widest_80 : decode cX12_widest 80 = .ok (.iload_n 1, 1) := by decide +kernel
theorem dX12_widest_81 : decode cX12_widest 81 = .ok (.iload_n 3, 1) := by decide +kernel
theorem dX12_widest_82 : decode cX12_widest 82 = .ok (.iconst 1, 1) := by decide +kernel
theorem dX12_widest_83 : decode cX12_widest 83 = .ok (.invokevirtual 283, 3) := by decide +kernel
theorem dX12_widest_86 : decode cX12_widest 86 = .ok (.lstore 4, 2) := by decide +kernel
theorem dX12_widest_88 : decode cX12_widest 88 = .ok (.aload_n 0, 1) := by decide +kernel
theorem dX12_widest_89 : decode cX12_widest 89 = .ok (.iload_n 1, 1) := by decide +kernel
theorem dX12_widest_90 : decode cX12_widest 90 = .ok (.iload_n 3, 1) := by decide +kernel
theorem dX12_widest_91 : decode cX12_widest 91 = .ok (.iconst 0, 1) := by decide +kernel
theorem dX12_widest_92 : decode cX12_widest 92 = .ok (.invokevirtual 283, 3) := by decide +kernel
theorem dX12_widest_95 : decode cX12_widest 95 = .ok (.lload 4, 2) := by decide +kernel
theorem dX12_widest_97 : decode cX12_widest 97 = .ok (.lsub, 1) := by decide +kernel
theorem dX12_widest_98 : decode cX12_widest 98 = .ok (.lload 4, 2) := by decide +kernel
theorem dX12_widest_100 : decode cX12_widest 100 = .ok (.iload_n 2, 1) := by decide +kernel
theorem dX12_widest_101 : decode cX12_widest 101 = .ok (.i2l, 1) := by decide +kernel
theorem dX12_widest_102 : decode cX12_widest 102 = .ok (.lmul, 1) := by decide +kernel
theorem dX12_widest_103 : decode cX12_widest 103 = .ok (.ldc2_w 97, 3) := by decide +kernel
theorem dX12_widest_106 : decode cX12_widest 106 = .ok (.ldiv, 1) := by decide +kernel
theorem dX12_widest_107 : decode cX12_widest 107 = .ok (.lcmp, 1) := by decide +kernel
theorem dX12_widest_108 : decode cX12_widest 108 = .ok (.ifCond .gt 5, 3) := by decide +kernel
theorem dX12_widest_111 : decode cX12_widest 111 = .ok (.iload_n 3, 1) := by decide +kernel
theorem dX12_widest_112 : decode cX12_widest 112 = .ok (.ireturn, 1) := by decide +kernel
theorem dX12_widest_113 : decode cX12_widest 113 = .ok (.iinc 3 1, 3) := by decide +kernel
theorem dX12_widest_116 : decode cX12_widest 116 = .ok (.goto (-43), 3) := by decide +kernel
theorem dX12_widest_119 : decode cX12_widest 119 = .ok (.iconst (-1), 1) := by decide +kernel
theorem dX12_widest_120 : decode cX12_widest 120 = .ok (.ireturn, 1) := by decide +kernel
theorem dX12_keepsRun_0 : decode cX12_keepsRun 0 = .ok (.iconst 0, 1) := by decide +kernel
theorem dX12_keepsRun_1 : decode cX12_keepsRun 1 = .ok (.istore_n 2, 1) := by decide +kernel
theorem dX12_keepsRun_2 : decode cX12_keepsRun 2 = .ok (.iload_n 2, 1) := by decide +kernel
theorem dX12_keepsRun_3 : decode cX12_keepsRun 3 = .ok (.bipush 6, 2) := by decide +kernel
theorem dX12_keepsRun_5 : decode cX12_keepsRun 5 = .ok (.if_icmp .ge 26, 3) := by decide +kernel
theorem dX12_keepsRun_8 : decode cX12_keepsRun 8 = .ok (.aload_n 0, 1) := by decide +kernel
theorem dX12_keepsRun_9 : decode cX12_keepsRun 9 = .ok (.getfield 58, 3) := by decide +kernel
theorem dX12_keepsRun_12 : decode cX12_keepsRun 12 = .ok (.aload_n 0, 1) := by decide +kernel
theorem dX12_keepsRun_13 : decode cX12_keepsRun 13 = .ok (.getfield 287, 3) := by decide +kernel
theorem dX12_keepsRun_16 : decode cX12_keepsRun 16 = .ok (.aaload, 1) := by decide +kernel
theorem dX12_keepsRun_17 : decode cX12_keepsRun 17 = .ok (.iload_n 2, 1) := by decide +kernel
theorem dX12_keepsRun_18 : decode cX12_keepsRun 18 = .ok (.aload_n 0, 1) := by decide +kernel
theorem dX12_keepsRun_19 : decode cX12_keepsRun 19 = .ok (.getfield 52, 3) := by decide +kernel
theorem dX12_keepsRun_22 : decode cX12_keepsRun 22 = .ok (.iload_n 2, 1) := by decide +kernel
theorem dX12_keepsRun_23 : decode cX12_keepsRun 23 = .ok (.iaload, 1) := by decide +kernel
theorem dX12_keepsRun_24 : decode cX12_keepsRun 24 = .ok (.iastore, 1) := by decide +kernel
theorem dX12_keepsRun_25 : decode cX12_keepsRun 25 = .ok (.iinc 2 1, 3) := by decide +kernel
theorem dX12_keepsRun_28 : decode cX12_keepsRun 28 = .ok (.goto (-26), 3) := by decide +kernel
theorem dX12_keepsRun_31 : decode cX12_keepsRun 31 = .ok (.aload_n 0, 1) := by decide +kernel
theorem dX12_keepsRun_32 : decode cX12_keepsRun 32 = .ok (.getfield 58, 3) := by decide +kernel
theorem dX12_keepsRun_35 : decode cX12_keepsRun 35 = .ok (.aload_n 0, 1) := by decide +kernel
theorem dX12_keepsRun_36 : decode cX12_keepsRun 36 = .ok (.getfield 287, 3) := by decide +kernel
theorem dX12_keepsRun_39 : decode cX12_keepsRun 39 = .ok (.aaload, 1) := by decide +kernel
theorem dX12_keepsRun_40 : decode cX12_keepsRun 40 = .ok (.bipush 6, 2) := by decide +kernel
theorem dX12_keepsRun_42 : decode cX12_keepsRun 42 = .ok (.iload_n 1, 1) := by decide +kernel
theorem dX12_keepsRun_43 : decode cX12_keepsRun 43 = .ok (.iastore, 1) := by decide +kernel
theorem dX12_keepsRun_44 : decode cX12_keepsRun 44 = .ok (.aload_n 0, 1) := by decide +kernel
theorem dX12_keepsRun_45 : decode cX12_keepsRun 45 = .ok (.dup, 1) := by decide +kernel
theorem dX12_keepsRun_46 : decode cX12_keepsRun 46 = .ok (.getfield 287, 3) := by decide +kernel
theorem dX12_keepsRun_49 : decode cX12_keepsRun 49 = .ok (.iconst 1, 1) := by decide +kernel
theorem dX12_keepsRun_50 : decode cX12_keepsRun 50 = .ok (.iadd, 1) := by decide +kernel
theorem dX12_keepsRun_51 : decode cX12_keepsRun 51 = .ok (.putfield 287, 3) := by decide +kernel
theorem dX12_keepsRun_54 : decode cX12_keepsRun 54 = .ok (.aload_n 0, 1) := by decide +kernel
theorem dX12_keepsRun_55 : decode cX12_keepsRun 55 = .ok (.getfield 287, 3) := by decide +kernel
theorem dX12_keepsRun_58 : decode cX12_keepsRun 58 = .ok (.iconst 1, 1) := by decide +kernel
theorem dX12_keepsRun_59 : decode cX12_keepsRun 59 = .ok (.isub, 1) := by decide +kernel
theorem dX12_keepsRun_60 : decode cX12_keepsRun 60 = .ok (.ireturn, 1) := by decide +kernel
theorem dX12_run_0 : decode cX12_run 0 = .ok (.aload_n 0, 1) := by decide +kernel
theorem dX12_run_1 : decode cX12_run 1 = .ok (.iconst 0, 1) := by decide +kernel
theorem dX12_run_2 : decode cX12_run 2 = .ok (.putfield 79, 3) := by decide +kernel
theorem dX12_run_5 : decode cX12_run 5 = .ok (.aload_n 0, 1) := by decide +kernel
theorem dX12_run_6 : decode cX12_run 6 = .ok (.aload_n 0, 1) := by decide +kernel
theorem dX12_run_7 : decode cX12_run 7 = .ok (.getfield 90, 3) := by decide +kernel
theorem dX12_run_10 : decode cX12_run 10 = .ok (.ifCond .ne 7, 3) := by decide +kernel
theorem dX12_run_13 : decode cX12_run 13 = .ok (.iconst 1, 1) := by decide +kernel
theorem dX12_run_14 : decode cX12_run 14 = .ok (.goto 4, 3) := by decide +kernel
theorem dX12_run_17 : decode cX12_run 17 = .ok (.iconst 0, 1) := by decide +kernel
theorem dX12_run_18 : decode cX12_run 18 = .ok (.iconst 1, 1) := by decide +kernel
theorem dX12_run_19 : decode cX12_run 19 = .ok (.invokevirtual 86, 3) := by decide +kernel
theorem dX12_run_22 : decode cX12_run 22 = .ok (.ifCond .ne 27, 3) := by decide +kernel
theorem dX12_run_25 : decode cX12_run 25 = .ok (.aload_n 0, 1) := by decide +kernel
theorem dX12_run_26 : decode cX12_run 26 = .ok (.iload_n 1, 1) := by decide +kernel
theorem dX12_run_27 : decode cX12_run 27 = .ok (.iconst 0, 1) := by decide +kernel
theorem dX12_run_28 : decode cX12_run 28 = .ok (.ldc_w 264, 3) := by decide +kernel
theorem dX12_run_31 : decode cX12_run 31 = .ok (.invokestatic 82, 3) := by decide +kernel
theorem dX12_run_34 : decode cX12_run 34 = .ok (.ifCond .ne 7, 3) := by decide +kernel
theorem dX12_run_37 : decode cX12_run 37 = .ok (.iconst 1, 1) := by decide +kernel
theorem dX12_run_38 : decode cX12_run 38 = .ok (.goto 4, 3) := by decide +kernel
theorem dX12_run_41 : decode cX12_run 41 = .ok (.iconst 0, 1) := by decide +kernel
theorem dX12_run_42 : decode cX12_run 42 = .ok (.iconst 2, 1) := by decide +kernel
theorem dX12_run_43 : decode cX12_run 43 = .ok (.invokevirtual 86, 3) := by decide +kernel
theorem dX12_run_46 : decode cX12_run 46 = .ok (.ifCond .eq 5, 3) := by decide +kernel
theorem dX12_run_49 : decode cX12_run 49 = .ok (.iconst 0, 1) := by decide +kernel
theorem dX12_run_50 : decode cX12_run 50 = .ok (.ireturn, 1) := by decide +kernel
theorem dX12_run_51 : decode cX12_run 51 = .ok (.aload_n 0, 1) := by decide +kernel
theorem dX12_run_52 : decode cX12_run 52 = .ok (.getfield 287, 3) := by decide +kernel
theorem dX12_run_55 : decode cX12_run 55 = .ok (.bipush 60, 2) := by decide +kernel
theorem dX12_run_57 : decode cX12_run 57 = .ok (.if_icmp .ne 7, 3) := by decide +kernel
theorem dX12_run_60 : decode cX12_run 60 = .ok (.iconst (-1), 1) := by decide +kernel
theorem dX12_run_61 : decode cX12_run 61 = .ok (.goto 8, 3) := by decide +kernel
theorem dX12_run_64 : decode cX12_run 64 = .ok (.aload_n 0, 1) := by decide +kernel
theorem dX12_run_65 : decode cX12_run 65 = .ok (.iload_n 1, 1) := by decide +kernel
theorem dX12_run_66 : decode cX12_run 66 = .ok (.invokevirtual 290, 3) := by decide +kernel
theorem dX12_run_69 : decode cX12_run 69 = .ok (.ireturn, 1) := by decide +kernel
theorem dX12_tow_0 : decode cX12_tow 0 = .ok (.aload_n 0, 1) := by decide +kernel
theorem dX12_tow_1 : decode cX12_tow 1 = .ok (.iconst 0, 1) := by decide +kernel
theorem dX12_tow_2 : decode cX12_tow 2 = .ok (.putfield 79, 3) := by decide +kernel
theorem dX12_tow_5 : decode cX12_tow 5 = .ok (.aload_n 0, 1) := by decide +kernel
theorem dX12_tow_6 : decode cX12_tow 6 = .ok (.aload_n 0, 1) := by decide +kernel
theorem dX12_tow_7 : decode cX12_tow 7 = .ok (.getfield 90, 3) := by decide +kernel
theorem dX12_tow_10 : decode cX12_tow 10 = .ok (.ifCond .ne 7, 3) := by decide +kernel
theorem dX12_tow_13 : decode cX12_tow 13 = .ok (.iconst 1, 1) := by decide +kernel
theorem dX12_tow_14 : decode cX12_tow 14 = .ok (.goto 4, 3) := by decide +kernel
theorem dX12_tow_17 : decode cX12_tow 17 = .ok (.iconst 0, 1) := by decide +kernel
theorem dX12_tow_18 : decode cX12_tow 18 = .ok (.iconst 1, 1) := by decide +kernel
theorem dX12_tow_19 : decode cX12_tow 19 = .ok (.invokevirtual 86, 3) := by decide +kernel
theorem dX12_tow_22 : decode cX12_tow 22 = .ok (.ifCond .ne 47, 3) := by decide +kernel
theorem dX12_tow_25 : decode cX12_tow 25 = .ok (.aload_n 0, 1) := by decide +kernel
theorem dX12_tow_26 : decode cX12_tow 26 = .ok (.aload_n 0, 1) := by decide +kernel
theorem dX12_tow_27 : decode cX12_tow 27 = .ok (.iload_n 1, 1) := by decide +kernel
theorem dX12_tow_28 : decode cX12_tow 28 = .ok (.invokevirtual 252, 3) := by decide +kernel
theorem dX12_tow_31 : decode cX12_tow 31 = .ok (.ifCond .ne 7, 3) := by decide +kernel
theorem dX12_tow_34 : decode cX12_tow 34 = .ok (.iconst 1, 1) := by decide +kernel
theorem dX12_tow_35 : decode cX12_tow 35 = .ok (.goto 4, 3) := by decide +kernel
theorem dX12_tow_38 : decode cX12_tow 38 = .ok (.iconst 0, 1) := by decide +kernel
theorem dX12_tow_39 : decode cX12_tow 39 = .ok (.iconst 2, 1) := by decide +kernel
theorem dX12_tow_40 : decode cX12_tow 40 = .ok (.invokevirtual 86, 3) := by decide +kernel
theorem dX12_tow_43 : decode cX12_tow 43 = .ok (.ifCond .ne 26, 3) := by decide +kernel
theorem dX12_tow_46 : decode cX12_tow 46 = .ok (.aload_n 0, 1) := by decide +kernel
theorem dX12_tow_47 : decode cX12_tow 47 = .ok (.iload_n 2, 1) := by decide +kernel
theorem dX12_tow_48 : decode cX12_tow 48 = .ok (.iconst 0, 1) := by decide +kernel
theorem dX12_tow_49 : decode cX12_tow 49 = .ok (.bipush 50, 2) := by decide +kernel
theorem dX12_tow_51 : decode cX12_tow 51 = .ok (.invokestatic 82, 3) := by decide +kernel
theorem dX12_tow_54 : decode cX12_tow 54 = .ok (.ifCond .ne 7, 3) := by decide +kernel
theorem dX12_tow_57 : decode cX12_tow 57 = .ok (.iconst 1, 1) := by decide +kernel
theorem dX12_tow_58 : decode cX12_tow 58 = .ok (.goto 4, 3) := by decide +kernel
theorem dX12_tow_61 : decode cX12_tow 61 = .ok (.iconst 0, 1) := by decide +kernel
theorem dX12_tow_62 : decode cX12_tow 62 = .ok (.iconst 3, 1) := by decide +kernel
theorem dX12_tow_63 : decode cX12_tow 63 = .ok (.invokevirtual 86, 3) := by decide +kernel
theorem dX12_tow_66 : decode cX12_tow 66 = .ok (.ifCond .eq 5, 3) := by decide +kernel
theorem dX12_tow_69 : decode cX12_tow 69 = .ok (.iconst 0, 1) := by decide +kernel
theorem dX12_tow_70 : decode cX12_tow 70 = .ok (.ireturn, 1) := by decide +kernel
theorem dX12_tow_71 : decode cX12_tow 71 = .ok (.aload_n 0, 1) := by decide +kernel
theorem dX12_tow_72 : decode cX12_tow 72 = .ok (.getfield 287, 3) := by decide +kernel
theorem dX12_tow_75 : decode cX12_tow 75 = .ok (.bipush 60, 2) := by decide +kernel
theorem dX12_tow_77 : decode cX12_tow 77 = .ok (.if_icmp .ne 5, 3) := by decide +kernel
theorem dX12_tow_80 : decode cX12_tow 80 = .ok (.iconst (-1), 1) := by decide +kernel
theorem dX12_tow_81 : decode cX12_tow 81 = .ok (.ireturn, 1) := by decide +kernel
theorem dX12_tow_82 : decode cX12_tow 82 = .ok (.aload_n 0, 1) := by decide +kernel
theorem dX12_tow_83 : decode cX12_tow 83 = .ok (.invokevirtual 249, 3) := by decide +kernel
theorem dX12_tow_86 : decode cX12_tow 86 = .ok (.aload_n 0, 1) := by decide +kernel
theorem dX12_tow_87 : decode cX12_tow 87 = .ok (.iload_n 1, 1) := by decide +kernel
theorem dX12_tow_88 : decode cX12_tow 88 = .ok (.invokevirtual 255, 3) := by decide +kernel
theorem dX12_tow_91 : decode cX12_tow 91 = .ok (.lconst 0, 1) := by decide +kernel
theorem dX12_tow_92 : decode cX12_tow 92 = .ok (.ldc2_w 229, 3) := by decide +kernel
theorem dX12_tow_95 : decode cX12_tow 95 = .ok (.invokestatic 231, 3) := by decide +kernel
theorem dX12_tow_98 : decode cX12_tow 98 = .ok (.lstore_n 3, 1) := by decide +kernel
theorem dX12_tow_99 : decode cX12_tow 99 = .ok (.aload_n 0, 1) := by decide +kernel
theorem dX12_tow_100 : decode cX12_tow 100 = .ok (.aload_n 0, 1) := by decide +kernel
theorem dX12_tow_101 : decode cX12_tow 101 = .ok (.getfield 55, 3) := by decide +kernel
theorem dX12_tow_104 : decode cX12_tow 104 = .ok (.ldc_w 293, 3) := by decide +kernel
theorem dX12_tow_107 : decode cX12_tow 107 = .ok (.imul, 1) := by decide +kernel
theorem dX12_tow_108 : decode cX12_tow 108 = .ok (.sipush 12345, 3) := by decide +kernel
theorem dX12_tow_111 : decode cX12_tow 111 = .ok (.iadd, 1) := by decide +kernel
theorem dX12_tow_112 : decode cX12_tow 112 = .ok (.putfield 55, 3) := by decide +kernel
theorem dX12_tow_115 : decode cX12_tow 115 = .ok (.aload_n 0, 1) := by decide +kernel
theorem dX12_tow_116 : decode cX12_tow 116 = .ok (.getfield 55, 3) := by decide +kernel
theorem dX12_tow_119 : decode cX12_tow 119 = .ok (.bipush 16, 2) := by decide +kernel
theorem dX12_tow_121 : decode cX12_tow 121 = .ok (.ishr, 1) := by decide +kernel
theorem dX12_tow_122 : decode cX12_tow 122 = .ok (.sipush 32767, 3) := by decide +kernel
theorem dX12_tow_125 : decode cX12_tow 125 = .ok (.iand, 1) := by decide +kernel
theorem dX12_tow_126 : decode cX12_tow 126 = .ok (.iconst 2, 1) := by decide +kernel
theorem dX12_tow_127 : decode cX12_tow 127 = .ok (.iload_n 2, 1) := by decide +kernel
theorem dX12_tow_128 : decode cX12_tow 128 = .ok (.imul, 1) := by decide +kernel
theorem dX12_tow_129 : decode cX12_tow 129 = .ok (.iconst 1, 1) := by decide +kernel
theorem dX12_tow_130 : decode cX12_tow 130 = .ok (.iadd, 1) := by decide +kernel
theorem dX12_tow_131 : decode cX12_tow 131 = .ok (.irem, 1) := by decide +kernel
theorem dX12_tow_132 : decode cX12_tow 132 = .ok (.iload_n 2, 1) := by decide +kernel
theorem dX12_tow_133 : decode cX12_tow 133 = .ok (.isub, 1) := by decide +kernel
theorem dX12_tow_134 : decode cX12_tow 134 = .ok (.istore 5, 2) := by decide +kernel
theorem dX12_tow_136 : decode cX12_tow 136 = .ok (.aload_n 0, 1) := by decide +kernel
theorem dX12_tow_137 : decode cX12_tow 137 = .ok (.lload_n 3, 1) := by decide +kernel
theorem dX12_tow_138 : decode cX12_tow 138 = .ok (.lload_n 3, 1) := by decide +kernel
theorem dX12_tow_139 : decode cX12_tow 139 = .ok (.iload 5, 2) := by decide +kernel
theorem dX12_tow_141 : decode cX12_tow 141 = .ok (.i2l, 1) := by decide +kernel
theorem dX12_tow_142 : decode cX12_tow 142 = .ok (.lmul, 1) := by decide +kernel
theorem dX12_tow_143 : decode cX12_tow 143 = .ok (.ldc2_w 97, 3) := by decide +kernel
theorem dX12_tow_146 : decode cX12_tow 146 = .ok (.ldiv, 1) := by decide +kernel
theorem dX12_tow_147 : decode cX12_tow 147 = .ok (.ladd, 1) := by decide +kernel
theorem dX12_tow_148 : decode cX12_tow 148 = .ok (.lconst 0, 1) := by decide +kernel
theorem dX12_tow_149 : decode cX12_tow 149 = .ok (.ldc2_w 229, 3) := by decide +kernel
theorem dX12_tow_152 : decode cX12_tow 152 = .ok (.invokestatic 231, 3) := by decide +kernel
theorem dX12_tow_155 : decode cX12_tow 155 = .ok (.l2i, 1) := by decide +kernel
theorem dX12_tow_156 : decode cX12_tow 156 = .ok (.invokevirtual 290, 3) := by decide +kernel
theorem dX12_tow_159 : decode cX12_tow 159 = .ok (.ireturn, 1) := by decide +kernel
theorem dX12_ran_0 : decode cX12_ran 0 = .ok (.aload_n 0, 1) := by decide +kernel
theorem dX12_ran_1 : decode cX12_ran 1 = .ok (.iconst 0, 1) := by decide +kernel
theorem dX12_ran_2 : decode cX12_ran 2 = .ok (.putfield 79, 3) := by decide +kernel
theorem dX12_ran_5 : decode cX12_ran 5 = .ok (.aload_n 0, 1) := by decide +kernel
theorem dX12_ran_6 : decode cX12_ran 6 = .ok (.iload_n 1, 1) := by decide +kernel
theorem dX12_ran_7 : decode cX12_ran 7 = .ok (.iconst 0, 1) := by decide +kernel
theorem dX12_ran_8 : decode cX12_ran 8 = .ok (.aload_n 0, 1) := by decide +kernel
theorem dX12_ran_9 : decode cX12_ran 9 = .ok (.getfield 287, 3) := by decide +kernel
theorem dX12_ran_12 : decode cX12_ran 12 = .ok (.iconst 1, 1) := by decide +kernel
theorem dX12_ran_13 : decode cX12_ran 13 = .ok (.isub, 1) := by decide +kernel
theorem dX12_ran_14 : decode cX12_ran 14 = .ok (.invokestatic 82, 3) := by decide +kernel
theorem dX12_ran_17 : decode cX12_ran 17 = .ok (.ifCond .ne 7, 3) := by decide +kernel
theorem dX12_ran_20 : decode cX12_ran 20 = .ok (.iconst 1, 1) := by decide +kernel
theorem dX12_ran_21 : decode cX12_ran 21 = .ok (.goto 4, 3) := by decide +kernel
theorem dX12_ran_24 : decode cX12_ran 24 = .ok (.iconst 0, 1) := by decide +kernel
theorem dX12_ran_25 : decode cX12_ran 25 = .ok (.iconst 1, 1) := by decide +kernel
theorem dX12_ran_26 : decode cX12_ran 26 = .ok (.invokevirtual 86, 3) := by decide +kernel
theorem dX12_ran_29 : decode cX12_ran 29 = .ok (.ifCond .ne 26, 3) := by decide +kernel
theorem dX12_ran_32 : decode cX12_ran 32 = .ok (.aload_n 0, 1) := by decide +kernel
theorem dX12_ran_33 : decode cX12_ran 33 = .ok (.iload_n 2, 1) := by decide +kernel
theorem dX12_ran_34 : decode cX12_ran 34 = .ok (.iconst 0, 1) := by decide +kernel
theorem dX12_ran_35 : decode cX12_ran 35 = .ok (.bipush 6, 2) := by decide +kernel
theorem dX12_ran_37 : decode cX12_ran 37 = .ok (.invokestatic 82, 3) := by decide +kernel
theorem dX12_ran_40 : decode cX12_ran 40 = .ok (.ifCond .ne 7, 3) := by decide +kernel
theorem dX12_ran_43 : decode cX12_ran 43 = .ok (.iconst 1, 1) := by decide +kernel
theorem dX12_ran_44 : decode cX12_ran 44 = .ok (.goto 4, 3) := by decide +kernel
theorem dX12_ran_47 : decode cX12_ran 47 = .ok (.iconst 0, 1) := by decide +kernel
theorem dX12_ran_48 : decode cX12_ran 48 = .ok (.iconst 2, 1) := by decide +kernel
theorem dX12_ran_49 : decode cX12_ran 49 = .ok (.invokevirtual 86, 3) := by decide +kernel
theorem dX12_ran_52 : decode cX12_ran 52 = .ok (.ifCond .eq 5, 3) := by decide +kernel
theorem dX12_ran_55 : decode cX12_ran 55 = .ok (.iconst 0, 1) := by decide +kernel
theorem dX12_ran_56 : decode cX12_ran 56 = .ok (.ireturn, 1) := by decide +kernel
theorem dX12_ran_57 : decode cX12_ran 57 = .ok (.aload_n 0, 1) := by decide +kernel
theorem dX12_ran_58 : decode cX12_ran 58 = .ok (.getfield 58, 3) := by decide +kernel
theorem dX12_ran_61 : decode cX12_ran 61 = .ok (.iload_n 1, 1) := by decide +kernel
theorem dX12_ran_62 : decode cX12_ran 62 = .ok (.aaload, 1) := by decide +kernel
theorem dX12_ran_63 : decode cX12_ran 63 = .ok (.iload_n 2, 1) := by decide +kernel
theorem dX12_ran_64 : decode cX12_ran 64 = .ok (.iaload, 1) := by decide +kernel
theorem dX12_ran_65 : decode cX12_ran 65 = .ok (.ireturn, 1) := by decide +kernel
theorem dX12_seed_0 : decode cX12_seed 0 = .ok (.aload_n 0, 1) := by decide +kernel
theorem dX12_seed_1 : decode cX12_seed 1 = .ok (.iconst 0, 1) := by decide +kernel
theorem dX12_seed_2 : decode cX12_seed 2 = .ok (.putfield 79, 3) := by decide +kernel
theorem dX12_seed_5 : decode cX12_seed 5 = .ok (.aload_n 0, 1) := by decide +kernel
theorem dX12_seed_6 : decode cX12_seed 6 = .ok (.getfield 55, 3) := by decide +kernel
theorem dX12_seed_9 : decode cX12_seed 9 = .ok (.istore_n 2, 1) := by decide +kernel
theorem dX12_seed_10 : decode cX12_seed 10 = .ok (.aload_n 0, 1) := by decide +kernel
theorem dX12_seed_11 : decode cX12_seed 11 = .ok (.iload_n 1, 1) := by decide +kernel
theorem dX12_seed_12 : decode cX12_seed 12 = .ok (.putfield 55, 3) := by decide +kernel
theorem dX12_seed_15 : decode cX12_seed 15 = .ok (.iload_n 2, 1) := by decide +kernel
theorem dX12_seed_16 : decode cX12_seed 16 = .ok (.ireturn, 1) := by decide +kernel
theorem dX12_wire_0 : decode cX12_wire 0 = .ok (.aload_n 0, 1) := by decide +kernel
theorem dX12_wire_1 : decode cX12_wire 1 = .ok (.iconst 0, 1) := by decide +kernel
theorem dX12_wire_2 : decode cX12_wire 2 = .ok (.putfield 79, 3) := by decide +kernel
theorem dX12_wire_5 : decode cX12_wire 5 = .ok (.aload_n 0, 1) := by decide +kernel
theorem dX12_wire_6 : decode cX12_wire 6 = .ok (.aload_n 0, 1) := by decide +kernel
theorem dX12_wire_7 : decode cX12_wire 7 = .ok (.getfield 90, 3) := by decide +kernel
theorem dX12_wire_10 : decode cX12_wire 10 = .ok (.ifCond .ne 7, 3) := by decide +kernel
theorem dX12_wire_13 : decode cX12_wire 13 = .ok (.iconst 1, 1) := by decide +kernel
theorem dX12_wire_14 : decode cX12_wire 14 = .ok (.goto 4, 3) := by decide +kernel
theorem dX12_wire_17 : decode cX12_wire 17 = .ok (.iconst 0, 1) := by decide +kernel
theorem dX12_wire_18 : decode cX12_wire 18 = .ok (.iconst 1, 1) := by decide +kernel
theorem dX12_wire_19 : decode cX12_wire 19 = .ok (.invokevirtual 86, 3) := by decide +kernel
theorem dX12_wire_22 : decode cX12_wire 22 = .ok (.ifCond .eq 5, 3) := by decide +kernel
theorem dX12_wire_25 : decode cX12_wire 25 = .ok (.lconst 0, 1) := by decide +kernel
theorem dX12_wire_26 : decode cX12_wire 26 = .ok (.lreturn, 1) := by decide +kernel
theorem dX12_wire_27 : decode cX12_wire 27 = .ok (.lconst 0, 1) := by decide +kernel
theorem dX12_wire_28 : decode cX12_wire 28 = .ok (.lstore_n 1, 1) := by decide +kernel
theorem dX12_wire_29 : decode cX12_wire 29 = .ok (.lconst 0, 1) := by decide +kernel
theorem dX12_wire_30 : decode cX12_wire 30 = .ok (.lstore_n 3, 1) := by decide +kernel
theorem dX12_wire_31 : decode cX12_wire 31 = .ok (.iconst 0, 1) := by decide +kernel
theorem dX12_wire_32 : decode cX12_wire 32 = .ok (.istore 5, 2) := by decide +kernel
theorem dX12_wire_34 : decode cX12_wire 34 = .ok (.iconst 0, 1) := by decide +kernel
theorem dX12_wire_35 : decode cX12_wire 35 = .ok (.istore 6, 2) := by decide +kernel
theorem dX12_wire_37 : decode cX12_wire 37 = .ok (.iconst 0, 1) := by decide +kernel
theorem dX12_wire_38 : decode cX12_wire 38 = .ok (.istore 7, 2) := by decide +kernel
theorem dX12_wire_40 : decode cX12_wire 40 = .ok (.iload 7, 2) := by decide +kernel
theorem dX12_wire_42 : decode cX12_wire 42 = .ok (.aload_n 0, 1) := by decide +kernel
theorem dX12_wire_43 : decode cX12_wire 43 = .ok (.getfield 287, 3) := by decide +kernel
theorem dX12_wire_46 : decode cX12_wire 46 = .ok (.if_icmp .ge 116, 3) := by decide +kernel
theorem dX12_wire_49 : decode cX12_wire 49 = .ok (.aload_n 0, 1) := by decide +kernel
theorem dX12_wire_50 : decode cX12_wire 50 = .ok (.getfield 58, 3) := by decide +kernel
theorem dX12_wire_53 : decode cX12_wire 53 = .ok (.iload 7, 2) := by decide +kernel
theorem dX12_wire_55 : decode cX12_wire 55 = .ok (.aaload, 1) := by decide +kernel
theorem dX12_wire_56 : decode cX12_wire 56 = .ok (.iconst 0, 1) := by decide +kernel
theorem dX12_wire_57 : decode cX12_wire 57 = .ok (.iaload, 1) := by decide +kernel
theorem dX12_wire_58 : decode cX12_wire 58 = .ok (.aload_n 0, 1) := by decide +kernel
theorem dX12_wire_59 : decode cX12_wire 59 = .ok (.getfield 52, 3) := by decide +kernel
theorem dX12_wire_62 : decode cX12_wire 62 = .ok (.iconst 0, 1) := by decide +kernel
theorem dX12_wire_63 : decode cX12_wire 63 = .ok (.iaload, 1) := by decide +kernel
theorem dX12_wire_64 : decode cX12_wire 64 = .ok (.if_icmp .ne 92, 3) := by decide +kernel
theorem dX12_wire_67 : decode cX12_wire 67 = .ok (.aload_n 0, 1) := by decide +kernel
theorem dX12_wire_68 : decode cX12_wire 68 = .ok (.getfield 58, 3) := by decide +kernel
theorem dX12_wire_71 : decode cX12_wire 71 = .ok (.iload 7, 2) := by decide +kernel
theorem dX12_wire_73 : decode cX12_wire 73 = .ok (.aaload, 1) := by decide +kernel
theorem dX12_wire_74 : decode cX12_wire 74 = .ok (.iconst 1, 1) := by decide +kernel
theorem dX12_wire_75 : decode cX12_wire 75 = .ok (.iaload, 1) := by decide +kernel
theorem dX12_wire_76 : decode cX12_wire 76 = .ok (.aload_n 0, 1) := by decide +kernel
theorem dX12_wire_77 : decode cX12_wire 77 = .ok (.getfield 52, 3) := by decide +kernel
theorem dX12_wire_80 : decode cX12_wire 80 = .ok (.iconst 1, 1) := by decide +kernel
theorem dX12_wire_81 : decode cX12_wire 81 = .ok (.iaload, 1) := by decide +kernel
theorem dX12_wire_82 : decode cX12_wire 82 = .ok (.if_icmp .ne 74, 3) := by decide +kernel
theorem dX12_wire_85 : decode cX12_wire 85 = .ok (.aload_n 0, 1) := by decide +kernel
theorem dX12_wire_86 : decode cX12_wire 86 = .ok (.getfield 58, 3) := by decide +kernel
theorem dX12_wire_89 : decode cX12_wire 89 = .ok (.iload 7, 2) := by decide +kernel
theorem dX12_wire_91 : decode cX12_wire 91 = .ok (.aaload, 1) := by decide +kernel
theorem dX12_wire_92 : decode cX12_wire 92 = .ok (.iconst 2, 1) := by decide +kernel
theorem dX12_wire_93 : decode cX12_wire 93 = .ok (.iaload, 1) := by decide +kernel
theorem dX12_wire_94 : decode cX12_wire 94 = .ok (.aload_n 0, 1) := by decide +kernel
theorem dX12_wire_95 : decode cX12_wire 95 = .ok (.getfield 52, 3) := by decide +kernel
theorem dX12_wire_98 : decode cX12_wire 98 = .ok (.iconst 2, 1) := by decide +kernel
theorem dX12_wire_99 : decode cX12_wire 99 = .ok (.iaload, 1) := by decide +kernel
theorem dX12_wire_100 : decode cX12_wire 100 = .ok (.if_icmp .eq 6, 3) := by decide +kernel
theorem dX12_wire_103 : decode cX12_wire 103 = .ok (.goto 53, 3) := by decide +kernel
theorem dX12_wire_106 : decode cX12_wire 106 = .ok (.aload_n 0, 1) := by decide +kernel
theorem dX12_wire_107 : decode cX12_wire 107 = .ok (.getfield 58, 3) := by decide +kernel
theorem dX12_wire_110 : decode cX12_wire 110 = .ok (.iload 7, 2) := by decide +kernel
theorem dX12_wire_112 : decode cX12_wire 112 = .ok (.aaload, 1) := by decide +kernel
theorem dX12_wire_113 : decode cX12_wire 113 = .ok (.iconst 4, 1) := by decide +kernel
theorem dX12_wire_114 : decode cX12_wire 114 = .ok (.iaload, 1) := by decide +kernel
theorem dX12_wire_115 : decode cX12_wire 115 = .ok (.iconst 1, 1) := by decide +kernel
theorem dX12_wire_116 : decode cX12_wire 116 = .ok (.if_icmp .ne 23, 3) := by decide +kernel
theorem dX12_wire_119 : decode cX12_wire 119 = .ok (.lload_n 1, 1) := by decide +kernel
theorem dX12_wire_120 : decode cX12_wire 120 = .ok (.aload_n 0, 1) := by decide +kernel
theorem dX12_wire_121 : decode cX12_wire 121 = .ok (.getfield 58, 3) := by decide +kernel
theorem dX12_wire_124 : decode cX12_wire 124 = .ok (.iload 7, 2) := by decide +kernel
theorem dX12_wire_126 : decode cX12_wire 126 = .ok (.aaload, 1) := by decide +kernel
theorem dX12_wire_127 : decode cX12_wire 127 = .ok (.bipush 6, 2) := by decide +kernel
theorem dX12_wire_129 : decode cX12_wire 129 = .ok (.iaload, 1) := by decide +kernel
theorem dX12_wire_130 : decode cX12_wire 130 = .ok (.i2l, 1) := by decide +kernel
theorem dX12_wire_131 : decode cX12_wire 131 = .ok (.ladd, 1) := by decide +kernel
theorem dX12_wire_132 : decode cX12_wire 132 = .ok (.lstore_n 1, 1) := by decide +kernel
theorem dX12_wire_133 : decode cX12_wire 133 = .ok (.iinc 5 1, 3) := by decide +kernel
theorem dX12_wire_136 : decode cX12_wire 136 = .ok (.goto 20, 3) := by decide +kernel
theorem dX12_wire_139 : decode cX12_wire 139 = .ok (.lload_n 3, 1) := by decide +kernel
theorem dX12_wire_140 : decode cX12_wire 140 = .ok (.aload_n 0, 1) := by decide +kernel
theorem dX12_wire_141 : decode cX12_wire 141 = .ok (.getfield 58, 3) := by decide +kernel
theorem dX12_wire_144 : decode cX12_wire 144 = .ok (.iload 7, 2) := by decide +kernel
theorem dX12_wire_146 : decode cX12_wire 146 = .ok (.aaload, 1) := by decide +kernel
theorem dX12_wire_147 : decode cX12_wire 147 = .ok (.bipush 6, 2) := by decide +kernel
theorem dX12_wire_149 : decode cX12_wire 149 = .ok (.iaload, 1) := by decide +kernel
theorem dX12_wire_150 : decode cX12_wire 150 = .ok (.i2l, 1) := by decide +kernel
theorem dX12_wire_151 : decode cX12_wire 151 = .ok (.ladd, 1) := by decide +kernel
theorem dX12_wire_152 : decode cX12_wire 152 = .ok (.lstore_n 3, 1) := by decide +kernel
theorem dX12_wire_153 : decode cX12_wire 153 = .ok (.iinc 6 1, 3) := by decide +kernel
theorem dX12_wire_156 : decode cX12_wire 156 = .ok (.iinc 7 1, 3) := by decide +kernel
theorem dX12_wire_159 : decode cX12_wire 159 = .ok (.goto (-119), 3) := by decide +kernel
theorem dX12_wire_162 : decode cX12_wire 162 = .ok (.iload 5, 2) := by decide +kernel
theorem dX12_wire_164 : decode cX12_wire 164 = .ok (.ifCond .eq 8, 3) := by decide +kernel
theorem dX12_wire_167 : decode cX12_wire 167 = .ok (.iload 6, 2) := by decide +kernel
theorem dX12_wire_169 : decode cX12_wire 169 = .ok (.ifCond .ne 7, 3) := by decide +kernel
theorem dX12_wire_172 : decode cX12_wire 172 = .ok (.lconst 0, 1) := by decide +kernel
theorem dX12_wire_173 : decode cX12_wire 173 = .ok (.goto 14, 3) := by decide +kernel
theorem dX12_wire_176 : decode cX12_wire 176 = .ok (.lload_n 1, 1) := by decide +kernel
theorem dX12_wire_177 : decode cX12_wire 177 = .ok (.iload 6, 2) := by decide +kernel
theorem dX12_wire_179 : decode cX12_wire 179 = .ok (.i2l, 1) := by decide +kernel
theorem dX12_wire_180 : decode cX12_wire 180 = .ok (.lmul, 1) := by decide +kernel
theorem dX12_wire_181 : decode cX12_wire 181 = .ok (.lload_n 3, 1) := by decide +kernel
theorem dX12_wire_182 : decode cX12_wire 182 = .ok (.iload 5, 2) := by decide +kernel
theorem dX12_wire_184 : decode cX12_wire 184 = .ok (.i2l, 1) := by decide +kernel
theorem dX12_wire_185 : decode cX12_wire 185 = .ok (.lmul, 1) := by decide +kernel
theorem dX12_wire_186 : decode cX12_wire 186 = .ok (.lsub, 1) := by decide +kernel
theorem dX12_wire_187 : decode cX12_wire 187 = .ok (.lreturn, 1) := by decide +kernel
theorem dX12_isFitting_0 : decode cX12_isFitting 0 = .ok (.iconst 0, 1) := by decide +kernel
theorem dX12_isFitting_1 : decode cX12_isFitting 1 = .ok (.istore_n 3, 1) := by decide +kernel
theorem dX12_isFitting_2 : decode cX12_isFitting 2 = .ok (.iload_n 3, 1) := by decide +kernel
theorem dX12_isFitting_3 : decode cX12_isFitting 3 = .ok (.aload_n 0, 1) := by decide +kernel
theorem dX12_isFitting_4 : decode cX12_isFitting 4 = .ok (.getfield 287, 3) := by decide +kernel
theorem dX12_isFitting_7 : decode cX12_isFitting 7 = .ok (.if_icmp .ge 79, 3) := by decide +kernel
theorem dX12_isFitting_10 : decode cX12_isFitting 10 = .ok (.aload_n 0, 1) := by decide +kernel
theorem dX12_isFitting_11 : decode cX12_isFitting 11 = .ok (.getfield 58, 3) := by decide +kernel
theorem dX12_isFitting_14 : decode cX12_isFitting 14 = .ok (.iload_n 3, 1) := by decide +kernel
theorem dX12_isFitting_15 : decode cX12_isFitting 15 = .ok (.aaload, 1) := by decide +kernel
theorem dX12_isFitting_16 : decode cX12_isFitting 16 = .ok (.astore 4, 2) := by decide +kernel
theorem dX12_isFitting_18 : decode cX12_isFitting 18 = .ok (.aload_n 0, 1) := by decide +kernel
theorem dX12_isFitting_19 : decode cX12_isFitting 19 = .ok (.aload 4, 2) := by decide +kernel
theorem dX12_isFitting_21 : decode cX12_isFitting 21 = .ok (.iconst 0, 1) := by decide +kernel
theorem dX12_isFitting_22 : decode cX12_isFitting 22 = .ok (.iaload, 1) := by decide +kernel
theorem dX12_isFitting_23 : decode cX12_isFitting 23 = .ok (.aload 4, 2) := by decide +kernel
theorem dX12_isFitting_25 : decode cX12_isFitting 25 = .ok (.iconst 1, 1) := by decide +kernel
theorem dX12_isFitting_26 : decode cX12_isFitting 26 = .ok (.iaload, 1) := by decide +kernel
theorem dX12_isFitting_27 : decode cX12_isFitting 27 = .ok (.aload 4, 2) := by decide +kernel
theorem dX12_isFitting_29 : decode cX12_isFitting 29 = .ok (.iconst 2, 1) := by decide +kernel
theorem dX12_isFitting_30 : decode cX12_isFitting 30 = .ok (.iaload, 1) := by decide +kernel
theorem dX12_isFitting_31 : decode cX12_isFitting 31 = .ok (.aload 4, 2) := by decide +kernel
theorem dX12_isFitting_33 : decode cX12_isFitting 33 = .ok (.iconst 3, 1) := by decide +kernel
theorem dX12_isFitting_34 : decode cX12_isFitting 34 = .ok (.iaload, 1) := by decide +kernel
theorem dX12_isFitting_35 : decode cX12_isFitting 35 = .ok (.aload 4, 2) := by decide +kernel
theorem dX12_isFitting_37 : decode cX12_isFitting 37 = .ok (.iconst 4, 1) := by decide +kernel
theorem dX12_isFitting_38 : decode cX12_isFitting 38 = .ok (.iaload, 1) := by decide +kernel
theorem dX12_isFitting_39 : decode cX12_isFitting 39 = .ok (.aload 4, 2) := by decide +kernel
theorem dX12_isFitting_41 : decode cX12_isFitting 41 = .ok (.iconst 5, 1) := by decide +kernel
theorem dX12_isFitting_42 : decode cX12_isFitting 42 = .ok (.iaload, 1) := by decide +kernel
theorem dX12_isFitting_43 : decode cX12_isFitting 43 = .ok (.invokevirtual 245, 3) := by decide +kernel
theorem dX12_isFitting_46 : decode cX12_isFitting 46 = .ok (.aload_n 0, 1) := by decide +kernel
theorem dX12_isFitting_47 : decode cX12_isFitting 47 = .ok (.iload_n 1, 1) := by decide +kernel
theorem dX12_isFitting_48 : decode cX12_isFitting 48 = .ok (.invokevirtual 255, 3) := by decide +kernel
theorem dX12_isFitting_51 : decode cX12_isFitting 51 = .ok (.lstore 5, 2) := by decide +kernel
theorem dX12_isFitting_53 : decode cX12_isFitting 53 = .ok (.aload 4, 2) := by decide +kernel
theorem dX12_isFitting_55 : decode cX12_isFitting 55 = .ok (.bipush 6, 2) := by decide +kernel
theorem dX12_isFitting_57 : decode cX12_isFitting 57 = .ok (.iaload, 1) := by decide +kernel
theorem dX12_isFitting_58 : decode cX12_isFitting 58 = .ok (.i2l, 1) := by decide +kernel
theorem dX12_isFitting_59 : decode cX12_isFitting 59 = .ok (.lload 5, 2) := by decide +kernel
theorem dX12_isFitting_61 : decode cX12_isFitting 61 = .ok (.lsub, 1) := by decide +kernel
theorem dX12_isFitting_62 : decode cX12_isFitting 62 = .ok (.invokestatic 272, 3) := by decide +kernel
theorem dX12_isFitting_65 : decode cX12_isFitting 65 = .ok (.lload 5, 2) := by decide +kernel
theorem dX12_isFitting_67 : decode cX12_isFitting 67 = .ok (.iload_n 2, 1) := by decide +kernel
theorem dX12_isFitting_68 : decode cX12_isFitting 68 = .ok (.i2l, 1) := by decide +kernel
theorem dX12_isFitting_69 : decode cX12_isFitting 69 = .ok (.lmul, 1) := by decide +kernel
theorem dX12_isFitting_70 : decode cX12_isFitting 70 = .ok (.ldc2_w 97, 3) := by decide +kernel
theorem dX12_isFitting_73 : decode cX12_isFitting 73 = .ok (.ldiv, 1) := by decide +kernel
theorem dX12_isFitting_74 : decode cX12_isFitting 74 = .ok (.lcmp, 1) := by decide +kernel
theorem dX12_isFitting_75 : decode cX12_isFitting 75 = .ok (.ifCond .le 5, 3) := by decide +kernel
theorem dX12_isFitting_78 : decode cX12_isFitting 78 = .ok (.iconst 0, 1) := by decide +kernel
theorem dX12_isFitting_79 : decode cX12_isFitting 79 = .ok (.ireturn, 1) := by decide +kernel
theorem dX12_isFitting_80 : decode cX12_isFitting 80 = .ok (.iinc 3 1, 3) := by decide +kernel
theorem dX12_isFitting_83 : decode cX12_isFitting 83 = .ok (.goto (-81), 3) := by decide +kernel
theorem dX12_isFitting_86 : decode cX12_isFitting 86 = .ok (.iconst 1, 1) := by decide +kernel
theorem dX12_isFitting_87 : decode cX12_isFitting 87 = .ok (.ireturn, 1) := by decide +kernel
theorem dX12_fitting_0 : decode cX12_fitting 0 = .ok (.iconst 0, 1) := by decide +kernel
theorem dX12_fitting_1 : decode cX12_fitting 1 = .ok (.istore_n 2, 1) := by decide +kernel
theorem dX12_fitting_2 : decode cX12_fitting 2 = .ok (.iconst 0, 1) := by decide +kernel
theorem dX12_fitting_3 : decode cX12_fitting 3 = .ok (.istore_n 3, 1) := by decide +kernel
theorem dX12_fitting_4 : decode cX12_fitting 4 = .ok (.iload_n 3, 1) := by decide +kernel
theorem dX12_fitting_5 : decode cX12_fitting 5 = .ok (.aload_n 0, 1) := by decide +kernel
theorem dX12_fitting_6 : decode cX12_fitting 6 = .ok (.getfield 223, 3) := by decide +kernel
theorem dX12_fitting_9 : decode cX12_fitting 9 = .ok (.if_icmp .ge 28, 3) := by decide +kernel
theorem dX12_fitting_12 : decode cX12_fitting 12 = .ok (.iload_n 2, 1) := by decide +kernel
theorem dX12_fitting_13 : decode cX12_fitting 13 = .ok (.aload_n 0, 1) := by decide +kernel
theorem dX12_fitting_14 : decode cX12_fitting 14 = .ok (.iload_n 3, 1) := by decide +kernel
theorem dX12_fitting_15 : decode cX12_fitting 15 = .ok (.iload_n 1, 1) := by decide +kernel
theorem dX12_fitting_16 : decode cX12_fitting 16 = .ok (.invokevirtual 294, 3) := by decide +kernel
theorem dX12_fitting_19 : decode cX12_fitting 19 = .ok (.ifCond .eq 9, 3) := by decide +kernel
theorem dX12_fitting_22 : decode cX12_fitting 22 = .ok (.iconst 1, 1) := by decide +kernel
theorem dX12_fitting_23 : decode cX12_fitting 23 = .ok (.iload_n 3, 1) := by decide +kernel
theorem dX12_fitting_24 : decode cX12_fitting 24 = .ok (.ishl, 1) := by decide +kernel
theorem dX12_fitting_25 : decode cX12_fitting 25 = .ok (.goto 4, 3) := by decide +kernel
theorem dX12_fitting_28 : decode cX12_fitting 28 = .ok (.iconst 0, 1) := by decide +kernel
theorem dX12_fitting_29 : decode cX12_fitting 29 = .ok (.ior, 1) := by decide +kernel
theorem dX12_fitting_30 : decode cX12_fitting 30 = .ok (.istore_n 2, 1) := by decide +kernel
theorem dX12_fitting_31 : decode cX12_fitting 31 = .ok (.iinc 3 1, 3) := by decide +kernel
theorem dX12_fitting_34 : decode cX12_fitting 34 = .ok (.goto (-30), 3) := by decide +kernel
theorem dX12_fitting_37 : decode cX12_fitting 37 = .ok (.iload_n 2, 1) := by decide +kernel
theorem dX12_fitting_38 : decode cX12_fitting 38 = .ok (.ireturn, 1) := by decide +kernel
theorem dX12_fits_0 : decode cX12_fits 0 = .ok (.aload_n 0, 1) := by decide +kernel
theorem dX12_fits_1 : decode cX12_fits 1 = .ok (.iconst 0, 1) := by decide +kernel
theorem dX12_fits_2 : decode cX12_fits 2 = .ok (.putfield 79, 3) := by decide +kernel
theorem dX12_fits_5 : decode cX12_fits 5 = .ok (.aload_n 0, 1) := by decide +kernel
