theorem dX0_init_0 : decode cX0_init 0 = .ok (.aload_n 0, 1) := by decide +kernel
theorem dX0_init_1 : decode cX0_init 1 = .ok (.invokespecial 3, 3) := by decide +kernel
theorem dX0_init_4 : decode cX0_init 4 = .ok (.aload_n 0, 1) := by decide +kernel
theorem dX0_init_5 : decode cX0_init 5 = .ok (.aload_n 1, 1) := by decide +kernel
theorem dX0_init_6 : decode cX0_init 6 = .ok (.putfield 9, 3) := by decide +kernel
theorem dX0_init_9 : decode cX0_init 9 = .ok (.aload_n 0, 1) := by decide +kernel
theorem dX0_init_10 : decode cX0_init 10 = .ok (.new 15, 3) := by decide +kernel
theorem dX0_init_13 : decode cX0_init 13 = .ok (.dup, 1) := by decide +kernel
theorem dX0_init_14 : decode cX0_init 14 = .ok (.invokespecial 17, 3) := by decide +kernel
theorem dX0_init_17 : decode cX0_init 17 = .ok (.putfield 18, 3) := by decide +kernel
theorem dX0_init_20 : decode cX0_init 20 = .ok (.aload_n 0, 1) := by decide +kernel
theorem dX0_init_21 : decode cX0_init 21 = .ok (.new 22, 3) := by decide +kernel
theorem dX0_init_24 : decode cX0_init 24 = .ok (.dup, 1) := by decide +kernel
theorem dX0_init_25 : decode cX0_init 25 = .ok (.invokespecial 24, 3) := by decide +kernel
theorem dX0_init_28 : decode cX0_init 28 = .ok (.putfield 25, 3) := by decide +kernel
theorem dX0_init_31 : decode cX0_init 31 = .ok (.aload_n 0, 1) := by decide +kernel
theorem dX0_init_32 : decode cX0_init 32 = .ok (.new 29, 3) := by decide +kernel
theorem dX0_init_35 : decode cX0_init 35 = .ok (.dup, 1) := by decide +kernel
theorem dX0_init_36 : decode cX0_init 36 = .ok (.invokespecial 31, 3) := by decide +kernel
theorem dX0_init_39 : decode cX0_init 39 = .ok (.putfield 32, 3) := by decide +kernel
theorem dX0_init_42 : decode cX0_init 42 = .ok (.aload_n 0, 1) := by decide +kernel
theorem dX0_init_43 : decode cX0_init 43 = .ok (.new 29, 3) := by decide +kernel
theorem dX0_init_46 : decode cX0_init 46 = .ok (.dup, 1) := by decide +kernel
theorem dX0_init_47 : decode cX0_init 47 = .ok (.invokespecial 31, 3) := by decide +kernel
theorem dX0_init_50 : decode cX0_init 50 = .ok (.putfield 36, 3) := by decide +kernel
theorem dX0_init_53 : decode cX0_init 53 = .ok (.return_, 1) := by decide +kernel
theorem dX0_modelPart_0 : decode cX0_modelPart 0 = .ok (.aload_n 0, 1) := by decide +kernel
theorem dX0_modelPart_1 : decode cX0_modelPart 1 = .ok (.getfield 25, 3) := by decide +kernel
theorem dX0_modelPart_4 : decode cX0_modelPart 4 = .ok (.aload_n 1, 1) := by decide +kernel
theorem dX0_modelPart_5 : decode cX0_modelPart 5 = .ok (.iload_n 2, 1) := by decide +kernel
theorem dX0_modelPart_6 : decode cX0_modelPart 6 = .ok (.invokevirtual 39, 3) := by decide +kernel
theorem dX0_modelPart_9 : decode cX0_modelPart 9 = .ok (.aload_n 0, 1) := by decide +kernel
theorem dX0_modelPart_10 : decode cX0_modelPart 10 = .ok (.getfield 25, 3) := by decide +kernel
theorem dX0_modelPart_13 : decode cX0_modelPart 13 = .ok (.iload_n 3, 1) := by decide +kernel
theorem dX0_modelPart_14 : decode cX0_modelPart 14 = .ok (.invokevirtual 43, 3) := by decide +kernel
theorem dX0_modelPart_17 : decode cX0_modelPart 17 = .ok (.ireturn, 1) := by decide +kernel
theorem dX0_nameAtHand_0 : decode cX0_nameAtHand 0 = .ok (.aload_n 0, 1) := by decide +kernel
theorem dX0_nameAtHand_1 : decode cX0_nameAtHand 1 = .ok (.aload_n 0, 1) := by decide +kernel
theorem dX0_nameAtHand_2 : decode cX0_nameAtHand 2 = .ok (.getfield 9, 3) := by decide +kernel
theorem dX0_nameAtHand_5 : decode cX0_nameAtHand 5 = .ok (.getfield 47, 3) := by decide +kernel
theorem dX0_nameAtHand_8 : decode cX0_nameAtHand 8 = .ok (.invokevirtual 52, 3) := by decide +kernel
theorem dX0_nameAtHand_11 : decode cX0_nameAtHand 11 = .ok (.aload_n 0, 1) := by decide +kernel
theorem dX0_nameAtHand_12 : decode cX0_nameAtHand 12 = .ok (.getfield 18, 3) := by decide +kernel
theorem dX0_nameAtHand_15 : decode cX0_nameAtHand 15 = .ok (.iload_n 1, 1) := by decide +kernel
theorem dX0_nameAtHand_16 : decode cX0_nameAtHand 16 = .ok (.invokevirtual 56, 3) := by decide +kernel
theorem dX0_nameAtHand_19 : decode cX0_nameAtHand 19 = .ok (.l2i, 1) := by decide +kernel
theorem dX0_nameAtHand_20 : decode cX0_nameAtHand 20 = .ok (.ireturn, 1) := by decide +kernel
theorem dX0_nameAll_0 : decode cX0_nameAll 0 = .ok (.aload_n 0, 1) := by decide +kernel
theorem dX0_nameAll_1 : decode cX0_nameAll 1 = .ok (.getfield 9, 3) := by decide +kernel
theorem dX0_nameAll_4 : decode cX0_nameAll 4 = .ok (.aload_n 1, 1) := by decide +kernel
theorem dX0_nameAll_5 : decode cX0_nameAll 5 = .ok (.getfield 60, 3) := by decide +kernel
theorem dX0_nameAll_8 : decode cX0_nameAll 8 = .ok (.invokevirtual 64, 3) := by decide +kernel
theorem dX0_nameAll_11 : decode cX0_nameAll 11 = .ok (.astore_n 2, 1) := by decide +kernel
theorem dX0_nameAll_12 : decode cX0_nameAll 12 = .ok (.aload_n 2, 1) := by decide +kernel
theorem dX0_nameAll_13 : decode cX0_nameAll 13 = .ok (.ifnonnull 4, 3) := by decide +kernel
theorem dX0_nameAll_16 : decode cX0_nameAll 16 = .ok (.return_, 1) := by decide +kernel
theorem dX0_nameAll_17 : decode cX0_nameAll 17 = .ok (.aload_n 0, 1) := by decide +kernel
theorem dX0_nameAll_18 : decode cX0_nameAll 18 = .ok (.getfield 25, 3) := by decide +kernel
theorem dX0_nameAll_21 : decode cX0_nameAll 21 = .ok (.aload_n 2, 1) := by decide +kernel
theorem dX0_nameAll_22 : decode cX0_nameAll 22 = .ok (.aload_n 1, 1) := by decide +kernel
theorem dX0_nameAll_23 : decode cX0_nameAll 23 = .ok (.getfield 68, 3) := by decide +kernel
theorem dX0_nameAll_26 : decode cX0_nameAll 26 = .ok (.invokevirtual 39, 3) := by decide +kernel
theorem dX0_nameAll_29 : decode cX0_nameAll 29 = .ok (.aload_n 0, 1) := by decide +kernel
theorem dX0_nameAll_30 : decode cX0_nameAll 30 = .ok (.getfield 18, 3) := by decide +kernel
theorem dX0_nameAll_33 : decode cX0_nameAll 33 = .ok (.iconst 0, 1) := by decide +kernel
theorem dX0_nameAll_34 : decode cX0_nameAll 34 = .ok (.aload_n 0, 1) := by decide +kernel
theorem dX0_nameAll_35 : decode cX0_nameAll 35 = .ok (.getfield 25, 3) := by decide +kernel
theorem dX0_nameAll_38 : decode cX0_nameAll 38 = .ok (.getfield 71, 3) := by decide +kernel
theorem dX0_nameAll_41 : decode cX0_nameAll 41 = .ok (.i2l, 1) := by decide +kernel
theorem dX0_nameAll_42 : decode cX0_nameAll 42 = .ok (.invokevirtual 74, 3) := by decide +kernel
theorem dX0_nameAll_45 : decode cX0_nameAll 45 = .ok (.aload_n 0, 1) := by decide +kernel
theorem dX0_nameAll_46 : decode cX0_nameAll 46 = .ok (.getfield 18, 3) := by decide +kernel
theorem dX0_nameAll_49 : decode cX0_nameAll 49 = .ok (.iconst 1, 1) := by decide +kernel
theorem dX0_nameAll_50 : decode cX0_nameAll 50 = .ok (.aload_n 1, 1) := by decide +kernel
theorem dX0_nameAll_51 : decode cX0_nameAll 51 = .ok (.getfield 78, 3) := by decide +kernel
theorem dX0_nameAll_54 : decode cX0_nameAll 54 = .ok (.i2l, 1) := by decide +kernel
theorem dX0_nameAll_55 : decode cX0_nameAll 55 = .ok (.invokevirtual 74, 3) := by decide +kernel
theorem dX0_nameAll_58 : decode cX0_nameAll 58 = .ok (.aload_n 0, 1) := by decide +kernel
theorem dX0_nameAll_59 : decode cX0_nameAll 59 = .ok (.getfield 18, 3) := by decide +kernel
theorem dX0_nameAll_62 : decode cX0_nameAll 62 = .ok (.iconst 2, 1) := by decide +kernel
theorem dX0_nameAll_63 : decode cX0_nameAll 63 = .ok (.aload_n 0, 1) := by decide +kernel
theorem dX0_nameAll_64 : decode cX0_nameAll 64 = .ok (.getfield 25, 3) := by decide +kernel
theorem dX0_nameAll_67 : decode cX0_nameAll 67 = .ok (.getfield 81, 3) := by decide +kernel
theorem dX0_nameAll_70 : decode cX0_nameAll 70 = .ok (.i2l, 1) := by decide +kernel
theorem dX0_nameAll_71 : decode cX0_nameAll 71 = .ok (.invokevirtual 74, 3) := by decide +kernel
theorem dX0_nameAll_74 : decode cX0_nameAll 74 = .ok (.aload_n 0, 1) := by decide +kernel
theorem dX0_nameAll_75 : decode cX0_nameAll 75 = .ok (.getfield 18, 3) := by decide +kernel
theorem dX0_nameAll_78 : decode cX0_nameAll 78 = .ok (.iconst 3, 1) := by decide +kernel
theorem dX0_nameAll_79 : decode cX0_nameAll 79 = .ok (.aload_n 0, 1) := by decide +kernel
theorem dX0_nameAll_80 : decode cX0_nameAll 80 = .ok (.getfield 25, 3) := by decide +kernel
theorem dX0_nameAll_83 : decode cX0_nameAll 83 = .ok (.getfield 84, 3) := by decide +kernel
theorem dX0_nameAll_86 : decode cX0_nameAll 86 = .ok (.i2l, 1) := by decide +kernel
theorem dX0_nameAll_87 : decode cX0_nameAll 87 = .ok (.invokevirtual 74, 3) := by decide +kernel
theorem dX0_nameAll_90 : decode cX0_nameAll 90 = .ok (.aload_n 0, 1) := by decide +kernel
theorem dX0_nameAll_91 : decode cX0_nameAll 91 = .ok (.getfield 18, 3) := by decide +kernel
theorem dX0_nameAll_94 : decode cX0_nameAll 94 = .ok (.iconst 4, 1) := by decide +kernel
theorem dX0_nameAll_95 : decode cX0_nameAll 95 = .ok (.aload_n 0, 1) := by decide +kernel
theorem dX0_nameAll_96 : decode cX0_nameAll 96 = .ok (.getfield 25, 3) := by decide +kernel
theorem dX0_nameAll_99 : decode cX0_nameAll 99 = .ok (.getfield 87, 3) := by decide +kernel
theorem dX0_nameAll_102 : decode cX0_nameAll 102 = .ok (.i2l, 1) := by decide +kernel
theorem dX0_nameAll_103 : decode cX0_nameAll 103 = .ok (.invokevirtual 74, 3) := by decide +kernel
theorem dX0_nameAll_106 : decode cX0_nameAll 106 = .ok (.aload_n 0, 1) := by decide +kernel
theorem dX0_nameAll_107 : decode cX0_nameAll 107 = .ok (.getfield 18, 3) := by decide +kernel
theorem dX0_nameAll_110 : decode cX0_nameAll 110 = .ok (.iconst 5, 1) := by decide +kernel
theorem dX0_nameAll_111 : decode cX0_nameAll 111 = .ok (.aload_n 0, 1) := by decide +kernel
theorem dX0_nameAll_112 : decode cX0_nameAll 112 = .ok (.getfield 25, 3) := by decide +kernel
theorem dX0_nameAll_115 : decode cX0_nameAll 115 = .ok (.getfield 90, 3) := by decide +kernel
theorem dX0_nameAll_118 : decode cX0_nameAll 118 = .ok (.i2l, 1) := by decide +kernel
theorem dX0_nameAll_119 : decode cX0_nameAll 119 = .ok (.invokevirtual 74, 3) := by decide +kernel
theorem dX0_nameAll_122 : decode cX0_nameAll 122 = .ok (.aload_n 0, 1) := by decide +kernel
theorem dX0_nameAll_123 : decode cX0_nameAll 123 = .ok (.getfield 18, 3) := by decide +kernel
theorem dX0_nameAll_126 : decode cX0_nameAll 126 = .ok (.bipush 6, 2) := by decide +kernel
theorem dX0_nameAll_128 : decode cX0_nameAll 128 = .ok (.ldc2_w 93, 3) := by decide +kernel
theorem dX0_nameAll_131 : decode cX0_nameAll 131 = .ok (.aload_n 1, 1) := by decide +kernel
theorem dX0_nameAll_132 : decode cX0_nameAll 132 = .ok (.getfield 78, 3) := by decide +kernel
theorem dX0_nameAll_135 : decode cX0_nameAll 135 = .ok (.i2l, 1) := by decide +kernel
theorem dX0_nameAll_136 : decode cX0_nameAll 136 = .ok (.lmul, 1) := by decide +kernel
theorem dX0_nameAll_137 : decode cX0_nameAll 137 = .ok (.aload_n 1, 1) := by decide +kernel
theorem dX0_nameAll_138 : decode cX0_nameAll 138 = .ok (.getfield 78, 3) := by decide +kernel
theorem dX0_nameAll_141 : decode cX0_nameAll 141 = .ok (.i2l, 1) := by decide +kernel
theorem dX0_nameAll_142 : decode cX0_nameAll 142 = .ok (.lmul, 1) := by decide +kernel
theorem dX0_nameAll_143 : decode cX0_nameAll 143 = .ok (.aload_n 0, 1) := by decide +kernel
theorem dX0_nameAll_144 : decode cX0_nameAll 144 = .ok (.getfield 25, 3) := by decide +kernel
theorem dX0_nameAll_147 : decode cX0_nameAll 147 = .ok (.getfield 71, 3) := by decide +kernel
theorem dX0_nameAll_150 : decode cX0_nameAll 150 = .ok (.i2l, 1) := by decide +kernel
theorem dX0_nameAll_151 : decode cX0_nameAll 151 = .ok (.invokestatic 95, 3) := by decide +kernel
theorem dX0_nameAll_154 : decode cX0_nameAll 154 = .ok (.invokevirtual 74, 3) := by decide +kernel
theorem dX0_nameAll_157 : decode cX0_nameAll 157 = .ok (.aload_n 0, 1) := by decide +kernel
theorem dX0_nameAll_158 : decode cX0_nameAll 158 = .ok (.getfield 18, 3) := by decide +kernel
theorem dX0_nameAll_161 : decode cX0_nameAll 161 = .ok (.bipush 7, 2) := by decide +kernel
theorem dX0_nameAll_163 : decode cX0_nameAll 163 = .ok (.aload_n 1, 1) := by decide +kernel
theorem dX0_nameAll_164 : decode cX0_nameAll 164 = .ok (.getfield 99, 3) := by decide +kernel
theorem dX0_nameAll_167 : decode cX0_nameAll 167 = .ok (.ifCond .eq 7, 3) := by decide +kernel
theorem dX0_nameAll_170 : decode cX0_nameAll 170 = .ok (.lconst 1, 1) := by decide +kernel
theorem dX0_nameAll_171 : decode cX0_nameAll 171 = .ok (.goto 4, 3) := by decide +kernel
theorem dX0_nameAll_174 : decode cX0_nameAll 174 = .ok (.lconst 0, 1) := by decide +kernel
theorem dX0_nameAll_175 : decode cX0_nameAll 175 = .ok (.invokevirtual 74, 3) := by decide +kernel
theorem dX0_nameAll_178 : decode cX0_nameAll 178 = .ok (.aload_n 0, 1) := by decide +kernel
theorem dX0_nameAll_179 : decode cX0_nameAll 179 = .ok (.getfield 18, 3) := by decide +kernel
theorem dX0_nameAll_182 : decode cX0_nameAll 182 = .ok (.bipush 8, 2) := by decide +kernel
theorem dX0_nameAll_184 : decode cX0_nameAll 184 = .ok (.aload_n 0, 1) := by decide +kernel
theorem dX0_nameAll_185 : decode cX0_nameAll 185 = .ok (.aload_n 1, 1) := by decide +kernel
theorem dX0_nameAll_186 : decode cX0_nameAll 186 = .ok (.getfield 103, 3) := by decide +kernel
theorem dX0_nameAll_189 : decode cX0_nameAll 189 = .ok (.invokevirtual 106, 3) := by decide +kernel
theorem dX0_nameAll_192 : decode cX0_nameAll 192 = .ok (.invokevirtual 74, 3) := by decide +kernel
theorem dX0_nameAll_195 : decode cX0_nameAll 195 = .ok (.aload_n 0, 1) := by decide +kernel
theorem dX0_nameAll_196 : decode cX0_nameAll 196 = .ok (.getfield 18, 3) := by decide +kernel
theorem dX0_nameAll_199 : decode cX0_nameAll 199 = .ok (.bipush 9, 2) := by decide +kernel
theorem dX0_nameAll_201 : decode cX0_nameAll 201 = .ok (.aload_n 1, 1) := by decide +kernel
theorem dX0_nameAll_202 : decode cX0_nameAll 202 = .ok (.getfield 109, 3) := by decide +kernel
theorem dX0_nameAll_205 : decode cX0_nameAll 205 = .ok (.i2l, 1) := by decide +kernel
theorem dX0_nameAll_206 : decode cX0_nameAll 206 = .ok (.invokevirtual 74, 3) := by decide +kernel
theorem dX0_nameAll_209 : decode cX0_nameAll 209 = .ok (.return_, 1) := by decide +kernel
theorem dX0_sideOf_0 : decode cX0_sideOf 0 = .ok (.ldc2_w 93, 3) := by decide +kernel
theorem dX0_sideOf_3 : decode cX0_sideOf 3 = .ok (.aload_n 0, 1) := by decide +kernel
theorem dX0_sideOf_4 : decode cX0_sideOf 4 = .ok (.getfield 25, 3) := by decide +kernel
theorem dX0_sideOf_7 : decode cX0_sideOf 7 = .ok (.getfield 112, 3) := by decide +kernel
theorem dX0_sideOf_10 : decode cX0_sideOf 10 = .ok (.i2l, 1) := by decide +kernel
theorem dX0_sideOf_11 : decode cX0_sideOf 11 = .ok (.lmul, 1) := by decide +kernel
theorem dX0_sideOf_12 : decode cX0_sideOf 12 = .ok (.aload_n 0, 1) := by decide +kernel
theorem dX0_sideOf_13 : decode cX0_sideOf 13 = .ok (.getfield 9, 3) := by decide +kernel
theorem dX0_sideOf_16 : decode cX0_sideOf 16 = .ok (.getfield 115, 3) := by decide +kernel
theorem dX0_sideOf_19 : decode cX0_sideOf 19 = .ok (.iload_n 1, 1) := by decide +kernel
theorem dX0_sideOf_20 : decode cX0_sideOf 20 = .ok (.invokevirtual 119, 3) := by decide +kernel
theorem dX0_sideOf_23 : decode cX0_sideOf 23 = .ok (.i2l, 1) := by decide +kernel
theorem dX0_sideOf_24 : decode cX0_sideOf 24 = .ok (.aload_n 0, 1) := by decide +kernel
theorem dX0_sideOf_25 : decode cX0_sideOf 25 = .ok (.getfield 9, 3) := by decide +kernel
theorem dX0_sideOf_28 : decode cX0_sideOf 28 = .ok (.getfield 124, 3) := by decide +kernel
theorem dX0_sideOf_31 : decode cX0_sideOf 31 = .ok (.iload_n 1, 1) := by decide +kernel
theorem dX0_sideOf_32 : decode cX0_sideOf 32 = .ok (.invokevirtual 119, 3) := by decide +kernel
theorem dX0_sideOf_35 : decode cX0_sideOf 35 = .ok (.i2l, 1) := by decide +kernel
theorem dX0_sideOf_36 : decode cX0_sideOf 36 = .ok (.lmul, 1) := by decide +kernel
theorem dX0_sideOf_37 : decode cX0_sideOf 37 = .ok (.invokestatic 95, 3) := by decide +kernel
theorem dX0_sideOf_40 : decode cX0_sideOf 40 = .ok (.lreturn, 1) := by decide +kernel
theorem dX0_toldBy_0 : decode cX0_toldBy 0 = .ok (.aload_n 0, 1) := by decide +kernel
theorem dX0_toldBy_1 : decode cX0_toldBy 1 = .ok (.aload_n 2, 1) := by decide +kernel
theorem dX0_toldBy_2 : decode cX0_toldBy 2 = .ok (.invokevirtual 52, 3) := by decide +kernel
theorem dX0_toldBy_5 : decode cX0_toldBy 5 = .ok (.aload_n 0, 1) := by decide +kernel
theorem dX0_toldBy_6 : decode cX0_toldBy 6 = .ok (.getfield 18, 3) := by decide +kernel
theorem dX0_toldBy_9 : decode cX0_toldBy 9 = .ok (.aload_n 1, 1) := by decide +kernel
theorem dX0_toldBy_10 : decode cX0_toldBy 10 = .ok (.invokevirtual 127, 3) := by decide +kernel
theorem dX0_toldBy_13 : decode cX0_toldBy 13 = .ok (.aload_n 0, 1) := by decide +kernel
theorem dX0_toldBy_14 : decode cX0_toldBy 14 = .ok (.getfield 18, 3) := by decide +kernel
theorem dX0_toldBy_17 : decode cX0_toldBy 17 = .ok (.iload_n 3, 1) := by decide +kernel
theorem dX0_toldBy_18 : decode cX0_toldBy 18 = .ok (.invokevirtual 131, 3) := by decide +kernel
theorem dX0_toldBy_21 : decode cX0_toldBy 21 = .ok (.lreturn, 1) := by decide +kernel
theorem dX0_pullOf_0 : decode cX0_pullOf 0 = .ok (.aload_n 0, 1) := by decide +kernel
theorem dX0_pullOf_1 : decode cX0_pullOf 1 = .ok (.aload_n 2, 1) := by decide +kernel
theorem dX0_pullOf_2 : decode cX0_pullOf 2 = .ok (.invokevirtual 52, 3) := by decide +kernel
theorem dX0_pullOf_5 : decode cX0_pullOf 5 = .ok (.aload_n 0, 1) := by decide +kernel
theorem dX0_pullOf_6 : decode cX0_pullOf 6 = .ok (.getfield 18, 3) := by decide +kernel
theorem dX0_pullOf_9 : decode cX0_pullOf 9 = .ok (.aload_n 1, 1) := by decide +kernel
theorem dX0_pullOf_10 : decode cX0_pullOf 10 = .ok (.invokevirtual 127, 3) := by decide +kernel
theorem dX0_pullOf_13 : decode cX0_pullOf 13 = .ok (.aload_n 0, 1) := by decide +kernel
theorem dX0_pullOf_14 : decode cX0_pullOf 14 = .ok (.getfield 18, 3) := by decide +kernel
theorem dX0_pullOf_17 : decode cX0_pullOf 17 = .ok (.invokevirtual 134, 3) := by decide +kernel
theorem dX0_pullOf_20 : decode cX0_pullOf 20 = .ok (.lreturn, 1) := by decide +kernel
theorem dX0_calm_0 : decode cX0_calm 0 = .ok (.aload_n 0, 1) := by decide +kernel
theorem dX0_calm_1 : decode cX0_calm 1 = .ok (.getfield 32, 3) := by decide +kernel
theorem dX0_calm_4 : decode cX0_calm 4 = .ok (.aload_n 0, 1) := by decide +kernel
theorem dX0_calm_5 : decode cX0_calm 5 = .ok (.getfield 9, 3) := by decide +kernel
theorem dX0_calm_8 : decode cX0_calm 8 = .ok (.getfield 47, 3) := by decide +kernel
theorem dX0_calm_11 : decode cX0_calm 11 = .ok (.getfield 60, 3) := by decide +kernel
theorem dX0_calm_14 : decode cX0_calm 14 = .ok (.iload_n 1, 1) := by decide +kernel
theorem dX0_calm_15 : decode cX0_calm 15 = .ok (.iload_n 2, 1) := by decide +kernel
theorem dX0_calm_16 : decode cX0_calm 16 = .ok (.iconst (-1), 1) := by decide +kernel
theorem dX0_calm_17 : decode cX0_calm 17 = .ok (.invokevirtual 138, 3) := by decide +kernel
theorem dX0_calm_20 : decode cX0_calm 20 = .ok (.aload_n 0, 1) := by decide +kernel
theorem dX0_calm_21 : decode cX0_calm 21 = .ok (.getfield 32, 3) := by decide +kernel
theorem dX0_calm_24 : decode cX0_calm 24 = .ok (.iconst 0, 1) := by decide +kernel
theorem dX0_calm_25 : decode cX0_calm 25 = .ok (.iconst 0, 1) := by decide +kernel
theorem dX0_calm_26 : decode cX0_calm 26 = .ok (.invokevirtual 142, 3) := by decide +kernel
theorem dX0_calm_29 : decode cX0_calm 29 = .ok (.aload_n 0, 1) := by decide +kernel
theorem dX0_calm_30 : decode cX0_calm 30 = .ok (.getfield 32, 3) := by decide +kernel
theorem dX0_calm_33 : decode cX0_calm 33 = .ok (.areturn, 1) := by decide +kernel
theorem dX0_moved_0 : decode cX0_moved 0 = .ok (.aload_n 0, 1) := by decide +kernel
theorem dX0_moved_1 : decode cX0_moved 1 = .ok (.getfield 32, 3) := by decide +kernel
theorem dX0_moved_4 : decode cX0_moved 4 = .ok (.aload_n 0, 1) := by decide +kernel
theorem dX0_moved_5 : decode cX0_moved 5 = .ok (.getfield 9, 3) := by decide +kernel
theorem dX0_moved_8 : decode cX0_moved 8 = .ok (.getfield 47, 3) := by decide +kernel
theorem dX0_moved_11 : decode cX0_moved 11 = .ok (.invokevirtual 146, 3) := by decide +kernel
theorem dX0_moved_14 : decode cX0_moved 14 = .ok (.aload_n 0, 1) := by decide +kernel
theorem dX0_moved_15 : decode cX0_moved 15 = .ok (.getfield 32, 3) := by decide +kernel
theorem dX0_moved_18 : decode cX0_moved 18 = .ok (.iload_n 1, 1) := by decide +kernel
theorem dX0_moved_19 : decode cX0_moved 19 = .ok (.putfield 68, 3) := by decide +kernel
theorem dX0_moved_22 : decode cX0_moved 22 = .ok (.aload_n 0, 1) := by decide +kernel
theorem dX0_moved_23 : decode cX0_moved 23 = .ok (.getfield 32, 3) := by decide +kernel
theorem dX0_moved_26 : decode cX0_moved 26 = .ok (.iload_n 2, 1) := by decide +kernel
theorem dX0_moved_27 : decode cX0_moved 27 = .ok (.putfield 103, 3) := by decide +kernel
theorem dX0_moved_30 : decode cX0_moved 30 = .ok (.aload_n 0, 1) := by decide +kernel
theorem dX0_moved_31 : decode cX0_moved 31 = .ok (.getfield 32, 3) := by decide +kernel
theorem dX0_moved_34 : decode cX0_moved 34 = .ok (.areturn, 1) := by decide +kernel
theorem dX0_pullPart_0 : decode cX0_pullPart 0 = .ok (.aload_n 0, 1) := by decide +kernel
theorem dX0_pullPart_1 : decode cX0_pullPart 1 = .ok (.aload_n 1, 1) := by decide +kernel
theorem dX0_pullPart_2 : decode cX0_pullPart 2 = .ok (.aload_n 0, 1) := by decide +kernel
theorem dX0_pullPart_3 : decode cX0_pullPart 3 = .ok (.getfield 9, 3) := by decide +kernel
theorem dX0_pullPart_6 : decode cX0_pullPart 6 = .ok (.getfield 47, 3) := by decide +kernel
theorem dX0_pullPart_9 : decode cX0_pullPart 9 = .ok (.invokevirtual 149, 3) := by decide +kernel
theorem dX0_pullPart_12 : decode cX0_pullPart 12 = .ok (.lstore_n 3, 1) := by decide +kernel
theorem dX0_pullPart_13 : decode cX0_pullPart 13 = .ok (.iload_n 2, 1) := by decide +kernel
theorem dX0_pullPart_14 : decode cX0_pullPart 14 = .ok (.tableswitch 58 0 3 #[30, 32, 40, 49], 30) := by decide +kernel
theorem dX0_pullPart_44 : decode cX0_pullPart 44 = .ok (.lload_n 3, 1) := by decide +kernel
theorem dX0_pullPart_45 : decode cX0_pullPart 45 = .ok (.lreturn, 1) := by decide +kernel
theorem dX0_pullPart_46 : decode cX0_pullPart 46 = .ok (.aload_n 0, 1) := by decide +kernel
theorem dX0_pullPart_47 : decode cX0_pullPart 47 = .ok (.getfield 18, 3) := by decide +kernel
theorem dX0_pullPart_50 : decode cX0_pullPart 50 = .ok (.getfield 153, 3) := by decide +kernel
theorem dX0_pullPart_53 : decode cX0_pullPart 53 = .ok (.lreturn, 1) := by decide +kernel
theorem dX0_pullPart_54 : decode cX0_pullPart 54 = .ok (.aload_n 0, 1) := by decide +kernel
theorem dX0_pullPart_55 : decode cX0_pullPart 55 = .ok (.getfield 18, 3) := by decide +kernel
theorem dX0_pullPart_58 : decode cX0_pullPart 58 = .ok (.iconst 1, 1) := by decide +kernel
theorem dX0_pullPart_59 : decode cX0_pullPart 59 = .ok (.invokevirtual 131, 3) := by decide +kernel
theorem dX0_pullPart_62 : decode cX0_pullPart 62 = .ok (.lreturn, 1) := by decide +kernel
theorem dX0_pullPart_63 : decode cX0_pullPart 63 = .ok (.aload_n 0, 1) := by decide +kernel
theorem dX0_pullPart_64 : decode cX0_pullPart 64 = .ok (.getfield 18, 3) := by decide +kernel
theorem dX0_pullPart_67 : decode cX0_pullPart 67 = .ok (.iconst 2, 1) := by decide +kernel
theorem dX0_pullPart_68 : decode cX0_pullPart 68 = .ok (.invokevirtual 131, 3) := by decide +kernel
theorem dX0_pullPart_71 : decode cX0_pullPart 71 = .ok (.lreturn, 1) := by decide +kernel
theorem dX0_pullPart_72 : decode cX0_pullPart 72 = .ok (.aload_n 0, 1) := by decide +kernel
theorem dX0_pullPart_73 : decode cX0_pullPart 73 = .ok (.getfield 18, 3) := by decide +kernel
theorem dX0_pullPart_76 : decode cX0_pullPart 76 = .ok (.getfield 157, 3) := by decide +kernel
theorem dX0_pullPart_79 : decode cX0_pullPart 79 = .ok (.lreturn, 1) := by decide +kernel
theorem dX0_needPart_0 : decode cX0_needPart 0 = .ok (.aload_n 2, 1) := by decide +kernel
theorem dX0_needPart_1 : decode cX0_needPart 1 = .ok (.getfield 68, 3) := by decide +kernel
theorem dX0_needPart_4 : decode cX0_needPart 4 = .ok (.i2l, 1) := by decide +kernel
theorem dX0_needPart_5 : decode cX0_needPart 5 = .ok (.lstore 6, 2) := by decide +kernel
theorem dX0_needPart_7 : decode cX0_needPart 7 = .ok (.lload 6, 2) := by decide +kernel
theorem dX0_needPart_9 : decode cX0_needPart 9 = .ok (.aload_n 2, 1) := by decide +kernel
theorem dX0_needPart_10 : decode cX0_needPart 10 = .ok (.getfield 78, 3) := by decide +kernel
theorem dX0_needPart_13 : decode cX0_needPart 13 = .ok (.i2l, 1) := by decide +kernel
theorem dX0_needPart_14 : decode cX0_needPart 14 = .ok (.lmul, 1) := by decide +kernel
theorem dX0_needPart_15 : decode cX0_needPart 15 = .ok (.aload_n 2, 1) := by decide +kernel
theorem dX0_needPart_16 : decode cX0_needPart 16 = .ok (.getfield 78, 3) := by decide +kernel
theorem dX0_needPart_19 : decode cX0_needPart 19 = .ok (.i2l, 1) := by decide +kernel
theorem dX0_needPart_20 : decode cX0_needPart 20 = .ok (.lmul, 1) := by decide +kernel
theorem dX0_needPart_21 : decode cX0_needPart 21 = .ok (.invokestatic 160, 3) := by decide +kernel
theorem dX0_needPart_24 : decode cX0_needPart 24 = .ok (.ldc2_w 164, 3) := by decide +kernel
theorem dX0_needPart_27 : decode cX0_needPart 27 = .ok (.invokestatic 166, 3) := by decide +kernel
theorem dX0_needPart_30 : decode cX0_needPart 30 = .ok (.lstore 8, 2) := by decide +kernel
theorem dX0_needPart_32 : decode cX0_needPart 32 = .ok (.iload 5, 2) := by decide +kernel
theorem dX0_needPart_34 : decode cX0_needPart 34 = .ok (.iconst 3, 1) := by decide +kernel
theorem dX0_needPart_35 : decode cX0_needPart 35 = .ok (.if_icmp .ne 6, 3) := by decide +kernel
theorem dX0_needPart_38 : decode cX0_needPart 38 = .ok (.lload 8, 2) := by decide +kernel
theorem dX0_needPart_40 : decode cX0_needPart 40 = .ok (.lreturn, 1) := by decide +kernel
theorem dX0_needPart_41 : decode cX0_needPart 41 = .ok (.lload_n 3, 1) := by decide +kernel
theorem dX0_needPart_42 : decode cX0_needPart 42 = .ok (.aload_n 0, 1) := by decide +kernel
theorem dX0_needPart_43 : decode cX0_needPart 43 = .ok (.aload_n 1, 1) := by decide +kernel
theorem dX0_needPart_44 : decode cX0_needPart 44 = .ok (.aload_n 2, 1) := by decide +kernel
theorem dX0_needPart_45 : decode cX0_needPart 45 = .ok (.iconst 5, 1) := by decide +kernel
theorem dX0_needPart_46 : decode cX0_needPart 46 = .ok (.invokevirtual 171, 3) := by decide +kernel
theorem dX0_needPart_49 : decode cX0_needPart 49 = .ok (.lsub, 1) := by decide +kernel
theorem dX0_needPart_50 : decode cX0_needPart 50 = .ok (.lconst 0, 1) := by decide +kernel
theorem dX0_needPart_51 : decode cX0_needPart 51 = .ok (.invokestatic 175, 3) := by decide +kernel
theorem dX0_needPart_54 : decode cX0_needPart 54 = .ok (.lstore 10, 2) := by decide +kernel
theorem dX0_needPart_56 : decode cX0_needPart 56 = .ok (.iload 5, 2) := by decide +kernel
theorem dX0_needPart_58 : decode cX0_needPart 58 = .ok (.ifCond .ne 6, 3) := by decide +kernel
theorem dX0_needPart_61 : decode cX0_needPart 61 = .ok (.lload 10, 2) := by decide +kernel
theorem dX0_needPart_63 : decode cX0_needPart 63 = .ok (.lreturn, 1) := by decide +kernel
theorem dX0_needPart_64 : decode cX0_needPart 64 = .ok (.lload 10, 2) := by decide +kernel
theorem dX0_needPart_66 : decode cX0_needPart 66 = .ok (.lload 6, 2) := by decide +kernel
theorem dX0_needPart_68 : decode cX0_needPart 68 = .ok (.lmul, 1) := by decide +kernel
theorem dX0_needPart_69 : decode cX0_needPart 69 = .ok (.lload 6, 2) := by decide +kernel
theorem dX0_needPart_71 : decode cX0_needPart 71 = .ok (.lmul, 1) := by decide +kernel
theorem dX0_needPart_72 : decode cX0_needPart 72 = .ok (.lload 6, 2) := by decide +kernel
theorem dX0_needPart_74 : decode cX0_needPart 74 = .ok (.lmul, 1) := by decide +kernel
theorem dX0_needPart_75 : decode cX0_needPart 75 = .ok (.lstore 12, 2) := by decide +kernel
theorem dX0_needPart_77 : decode cX0_needPart 77 = .ok (.iload 5, 2) := by decide +kernel
theorem dX0_needPart_79 : decode cX0_needPart 79 = .ok (.iconst 1, 1) := by decide +kernel
theorem dX0_needPart_80 : decode cX0_needPart 80 = .ok (.if_icmp .ne 6, 3) := by decide +kernel
theorem dX0_needPart_83 : decode cX0_needPart 83 = .ok (.lload 12, 2) := by decide +kernel
theorem dX0_needPart_85 : decode cX0_needPart 85 = .ok (.lreturn, 1) := by decide +kernel
theorem dX0_needPart_86 : decode cX0_needPart 86 = .ok (.aload_n 0, 1) := by decide +kernel
theorem dX0_needPart_87 : decode cX0_needPart 87 = .ok (.getfield 36, 3) := by decide +kernel
theorem dX0_needPart_90 : decode cX0_needPart 90 = .ok (.aload_n 2, 1) := by decide +kernel
theorem dX0_needPart_91 : decode cX0_needPart 91 = .ok (.getfield 60, 3) := by decide +kernel
theorem dX0_needPart_94 : decode cX0_needPart 94 = .ok (.iconst 1, 1) := by decide +kernel
theorem dX0_needPart_95 : decode cX0_needPart 95 = .ok (.lload 8, 2) := by decide +kernel
theorem dX0_needPart_97 : decode cX0_needPart 97 = .ok (.l2i, 1) := by decide +kernel
theorem dX0_needPart_98 : decode cX0_needPart 98 = .ok (.iconst (-1), 1) := by decide +kernel
theorem dX0_needPart_99 : decode cX0_needPart 99 = .ok (.invokevirtual 138, 3) := by decide +kernel
theorem dX0_needPart_102 : decode cX0_needPart 102 = .ok (.aload_n 0, 1) := by decide +kernel
theorem dX0_needPart_103 : decode cX0_needPart 103 = .ok (.getfield 36, 3) := by decide +kernel
theorem dX0_needPart_106 : decode cX0_needPart 106 = .ok (.iconst 0, 1) := by decide +kernel
theorem dX0_needPart_107 : decode cX0_needPart 107 = .ok (.aload_n 2, 1) := by decide +kernel
theorem dX0_needPart_108 : decode cX0_needPart 108 = .ok (.getfield 109, 3) := by decide +kernel
theorem dX0_needPart_111 : decode cX0_needPart 111 = .ok (.invokevirtual 142, 3) := by decide +kernel
theorem dX0_needPart_114 : decode cX0_needPart 114 = .ok (.lload 12, 2) := by decide +kernel
theorem dX0_needPart_116 : decode cX0_needPart 116 = .ok (.aload_n 0, 1) := by decide +kernel
theorem dX0_needPart_117 : decode cX0_needPart 117 = .ok (.aload_n 1, 1) := by decide +kernel
theorem dX0_needPart_118 : decode cX0_needPart 118 = .ok (.aload_n 0, 1) := by decide +kernel
theorem dX0_needPart_119 : decode cX0_needPart 119 = .ok (.getfield 36, 3) := by decide +kernel
theorem dX0_needPart_122 : decode cX0_needPart 122 = .ok (.bipush 6, 2) := by decide +kernel
theorem dX0_needPart_124 : decode cX0_needPart 124 = .ok (.invokevirtual 171, 3) := by decide +kernel
theorem dX0_needPart_127 : decode cX0_needPart 127 = .ok (.ladd, 1) := by decide +kernel
theorem dX0_needPart_128 : decode cX0_needPart 128 = .ok (.lstore 14, 2) := by decide +kernel
theorem dX0_needPart_130 : decode cX0_needPart 130 = .ok (.lload 14, 2) := by decide +kernel
theorem dX0_needPart_132 : decode cX0_needPart 132 = .ok (.lload 14, 2) := by decide +kernel
theorem dX0_needPart_134 : decode cX0_needPart 134 = .ok (.aload_n 0, 1) := by decide +kernel
theorem dX0_needPart_135 : decode cX0_needPart 135 = .ok (.getfield 18, 3) := by decide +kernel
theorem dX0_needPart_138 : decode cX0_needPart 138 = .ok (.bipush 7, 2) := by decide +kernel
theorem dX0_needPart_140 : decode cX0_needPart 140 = .ok (.invokevirtual 131, 3) := by decide +kernel
theorem dX0_needPart_143 : decode cX0_needPart 143 = .ok (.invokestatic 178, 3) := by decide +kernel
theorem dX0_needPart_146 : decode cX0_needPart 146 = .ok (.ladd, 1) := by decide +kernel
theorem dX0_needPart_147 : decode cX0_needPart 147 = .ok (.lreturn, 1) := by decide +kernel
theorem dX0_errorOf_0 : decode cX0_errorOf 0 = .ok (.aload_n 0, 1) := by decide +kernel
theorem dX0_errorOf_1 : decode cX0_errorOf 1 = .ok (.aload_n 1, 1) := by decide +kernel
theorem dX0_errorOf_2 : decode cX0_errorOf 2 = .ok (.aload_n 0, 1) := by decide +kernel
theorem dX0_errorOf_3 : decode cX0_errorOf 3 = .ok (.iconst 1, 1) := by decide +kernel
theorem dX0_errorOf_4 : decode cX0_errorOf 4 = .ok (.iload_n 3, 1) := by decide +kernel
theorem dX0_errorOf_5 : decode cX0_errorOf 5 = .ok (.invokevirtual 181, 3) := by decide +kernel
theorem dX0_errorOf_8 : decode cX0_errorOf 8 = .ok (.invokevirtual 149, 3) := by decide +kernel
theorem dX0_errorOf_11 : decode cX0_errorOf 11 = .ok (.lstore 5, 2) := by decide +kernel
theorem dX0_errorOf_13 : decode cX0_errorOf 13 = .ok (.aload_n 0, 1) := by decide +kernel
theorem dX0_errorOf_14 : decode cX0_errorOf 14 = .ok (.aload_n 1, 1) := by decide +kernel
theorem dX0_errorOf_15 : decode cX0_errorOf 15 = .ok (.aload_n 2, 1) := by decide +kernel
theorem dX0_errorOf_16 : decode cX0_errorOf 16 = .ok (.iload_n 3, 1) := by decide +kernel
theorem dX0_errorOf_17 : decode cX0_errorOf 17 = .ok (.iload 4, 2) := by decide +kernel
theorem dX0_errorOf_19 : decode cX0_errorOf 19 = .ok (.invokevirtual 185, 3) := by decide +kernel
theorem dX0_errorOf_22 : decode cX0_errorOf 22 = .ok (.lload 5, 2) := by decide +kernel
theorem dX0_errorOf_24 : decode cX0_errorOf 24 = .ok (.invokestatic 189, 3) := by decide +kernel
theorem dX0_errorOf_27 : decode cX0_errorOf 27 = .ok (.lreturn, 1) := by decide +kernel
theorem dX0_foretoldNeed_0 : decode cX0_foretoldNeed 0 = .ok (.iload_n 3, 1) := by decide +kernel
theorem dX0_foretoldNeed_1 : decode cX0_foretoldNeed 1 = .ok (.i2l, 1) := by decide +kernel
theorem dX0_foretoldNeed_2 : decode cX0_foretoldNeed 2 = .ok (.iload_n 3, 1) := by decide +kernel
theorem dX0_foretoldNeed_3 : decode cX0_foretoldNeed 3 = .ok (.i2l, 1) := by decide +kernel
theorem dX0_foretoldNeed_4 : decode cX0_foretoldNeed 4 = .ok (.lmul, 1) := by decide +kernel
theorem dX0_foretoldNeed_5 : decode cX0_foretoldNeed 5 = .ok (.iload 4, 2) := by decide +kernel
theorem dX0_foretoldNeed_7 : decode cX0_foretoldNeed 7 = .ok (.i2l, 1) := by decide +kernel
theorem dX0_foretoldNeed_8 : decode cX0_foretoldNeed 8 = .ok (.invokestatic 95, 3) := by decide +kernel
theorem dX0_foretoldNeed_11 : decode cX0_foretoldNeed 11 = .ok (.invokestatic 160, 3) := by decide +kernel
theorem dX0_foretoldNeed_14 : decode cX0_foretoldNeed 14 = .ok (.lconst 1, 1) := by decide +kernel
theorem dX0_foretoldNeed_15 : decode cX0_foretoldNeed 15 = .ok (.invokestatic 175, 3) := by decide +kernel
theorem dX0_foretoldNeed_18 : decode cX0_foretoldNeed 18 = .ok (.lstore 5, 2) := by decide +kernel
theorem dX0_foretoldNeed_20 : decode cX0_foretoldNeed 20 = .ok (.aload_n 0, 1) := by decide +kernel
theorem dX0_foretoldNeed_21 : decode cX0_foretoldNeed 21 = .ok (.iload 4, 2) := by decide +kernel
theorem dX0_foretoldNeed_23 : decode cX0_foretoldNeed 23 = .ok (.lload 5, 2) := by decide +kernel
theorem dX0_foretoldNeed_25 : decode cX0_foretoldNeed 25 = .ok (.l2i, 1) := by decide +kernel
theorem dX0_foretoldNeed_26 : decode cX0_foretoldNeed 26 = .ok (.invokevirtual 181, 3) := by decide +kernel
theorem dX0_foretoldNeed_29 : decode cX0_foretoldNeed 29 = .ok (.astore 7, 2) := by decide +kernel
theorem dX0_foretoldNeed_31 : decode cX0_foretoldNeed 31 = .ok (.aload_n 0, 1) := by decide +kernel
theorem dX0_foretoldNeed_32 : decode cX0_foretoldNeed 32 = .ok (.aload_n 1, 1) := by decide +kernel
theorem dX0_foretoldNeed_33 : decode cX0_foretoldNeed 33 = .ok (.aload 7, 2) := by decide +kernel
theorem dX0_foretoldNeed_35 : decode cX0_foretoldNeed 35 = .ok (.invokevirtual 149, 3) := by decide +kernel
theorem dX0_foretoldNeed_38 : decode cX0_foretoldNeed 38 = .ok (.ldc2_w 192, 3) := by decide +kernel
theorem dX0_foretoldNeed_41 : decode cX0_foretoldNeed 41 = .ok (.invokestatic 166, 3) := by decide +kernel
theorem dX0_foretoldNeed_44 : decode cX0_foretoldNeed 44 = .ok (.lstore 8, 2) := by decide +kernel
theorem dX0_foretoldNeed_46 : decode cX0_foretoldNeed 46 = .ok (.aload_n 0, 1) := by decide +kernel
theorem dX0_foretoldNeed_47 : decode cX0_foretoldNeed 47 = .ok (.aload_n 2, 1) := by decide +kernel
theorem dX0_foretoldNeed_48 : decode cX0_foretoldNeed 48 = .ok (.aload 7, 2) := by decide +kernel
theorem dX0_foretoldNeed_50 : decode cX0_foretoldNeed 50 = .ok (.lload 8, 2) := by decide +kernel
theorem dX0_foretoldNeed_52 : decode cX0_foretoldNeed 52 = .ok (.iconst 2, 1) := by decide +kernel
theorem dX0_foretoldNeed_53 : decode cX0_foretoldNeed 53 = .ok (.invokevirtual 194, 3) := by decide +kernel
theorem dX0_foretoldNeed_56 : decode cX0_foretoldNeed 56 = .ok (.lreturn, 1) := by decide +kernel
theorem dX0_bestScale_0 : decode cX0_bestScale 0 = .ok (.aload_n 0, 1) := by decide +kernel
theorem dX0_bestScale_1 : decode cX0_bestScale 1 = .ok (.getfield 9, 3) := by decide +kernel
theorem dX0_bestScale_4 : decode cX0_bestScale 4 = .ok (.aload_n 0, 1) := by decide +kernel
theorem dX0_bestScale_5 : decode cX0_bestScale 5 = .ok (.getfield 9, 3) := by decide +kernel
theorem dX0_bestScale_8 : decode cX0_bestScale 8 = .ok (.getfield 47, 3) := by decide +kernel
theorem dX0_bestScale_11 : decode cX0_bestScale 11 = .ok (.getfield 60, 3) := by decide +kernel
theorem dX0_bestScale_14 : decode cX0_bestScale 14 = .ok (.invokevirtual 64, 3) := by decide +kernel
theorem dX0_bestScale_17 : decode cX0_bestScale 17 = .ok (.astore 5, 2) := by decide +kernel
theorem dX0_bestScale_19 : decode cX0_bestScale 19 = .ok (.aload 5, 2) := by decide +kernel
theorem dX0_bestScale_21 : decode cX0_bestScale 21 = .ok (.ifnonnull 5, 3) := by decide +kernel
theorem dX0_bestScale_24 : decode cX0_bestScale 24 = .ok (.iconst (-1), 1) := by decide +kernel
theorem dX0_bestScale_25 : decode cX0_bestScale 25 = .ok (.ireturn, 1) := by decide +kernel
theorem dX0_bestScale_26 : decode cX0_bestScale 26 = .ok (.aload_n 0, 1) := by decide +kernel
theorem dX0_bestScale_27 : decode cX0_bestScale 27 = .ok (.aload_n 1, 1) := by decide +kernel
theorem dX0_bestScale_28 : decode cX0_bestScale 28 = .ok (.aload_n 0, 1) := by decide +kernel
theorem dX0_bestScale_29 : decode cX0_bestScale 29 = .ok (.iconst 1, 1) := by decide +kernel
theorem dX0_bestScale_30 : decode cX0_bestScale 30 = .ok (.iload_n 3, 1) := by decide +kernel
theorem dX0_bestScale_31 : decode cX0_bestScale 31 = .ok (.invokevirtual 181, 3) := by decide +kernel
theorem dX0_bestScale_34 : decode cX0_bestScale 34 = .ok (.invokevirtual 149, 3) := by decide +kernel
theorem dX0_bestScale_37 : decode cX0_bestScale 37 = .ok (.lstore 6, 2) := by decide +kernel
theorem dX0_bestScale_39 : decode cX0_bestScale 39 = .ok (.iconst (-1), 1) := by decide +kernel
theorem dX0_bestScale_40 : decode cX0_bestScale 40 = .ok (.istore 8, 2) := by decide +kernel
theorem dX0_bestScale_42 : decode cX0_bestScale 42 = .ok (.lconst 0, 1) := by decide +kernel
theorem dX0_bestScale_43 : decode cX0_bestScale 43 = .ok (.lstore 9, 2) := by decide +kernel
theorem dX0_bestScale_45 : decode cX0_bestScale 45 = .ok (.iconst 2, 1) := by decide +kernel
theorem dX0_bestScale_46 : decode cX0_bestScale 46 = .ok (.istore 11, 2) := by decide +kernel
theorem dX0_bestScale_48 : decode cX0_bestScale 48 = .ok (.iload 11, 2) := by decide +kernel
theorem dX0_bestScale_50 : decode cX0_bestScale 50 = .ok (.bipush 40, 2) := by decide +kernel
theorem dX0_bestScale_52 : decode cX0_bestScale 52 = .ok (.if_icmp .gt 66, 3) := by decide +kernel
theorem dX0_bestScale_55 : decode cX0_bestScale 55 = .ok (.aload_n 0, 1) := by decide +kernel
theorem dX0_bestScale_56 : decode cX0_bestScale 56 = .ok (.aload_n 1, 1) := by decide +kernel
theorem dX0_bestScale_57 : decode cX0_bestScale 57 = .ok (.aload_n 2, 1) := by decide +kernel
theorem dX0_bestScale_58 : decode cX0_bestScale 58 = .ok (.iload_n 3, 1) := by decide +kernel
theorem dX0_bestScale_59 : decode cX0_bestScale 59 = .ok (.iload 11, 2) := by decide +kernel
theorem dX0_bestScale_61 : decode cX0_bestScale 61 = .ok (.invokevirtual 185, 3) := by decide +kernel
theorem dX0_bestScale_64 : decode cX0_bestScale 64 = .ok (.lload 6, 2) := by decide +kernel
theorem dX0_bestScale_66 : decode cX0_bestScale 66 = .ok (.invokestatic 189, 3) := by decide +kernel
theorem dX0_bestScale_69 : decode cX0_bestScale 69 = .ok (.lstore 12, 2) := by decide +kernel
theorem dX0_bestScale_71 : decode cX0_bestScale 71 = .ok (.lload 12, 2) := by decide +kernel
theorem dX0_bestScale_73 : decode cX0_bestScale 73 = .ok (.iload 4, 2) := by decide +kernel
theorem dX0_bestScale_75 : decode cX0_bestScale 75 = .ok (.i2l, 1) := by decide +kernel
theorem dX0_bestScale_76 : decode cX0_bestScale 76 = .ok (.aload_n 0, 1) := by decide +kernel
theorem dX0_bestScale_77 : decode cX0_bestScale 77 = .ok (.aload 5, 2) := by decide +kernel
theorem dX0_bestScale_79 : decode cX0_bestScale 79 = .ok (.iload 11, 2) := by decide +kernel
theorem dX0_bestScale_81 : decode cX0_bestScale 81 = .ok (.iconst 0, 1) := by decide +kernel
theorem dX0_bestScale_82 : decode cX0_bestScale 82 = .ok (.invokevirtual 198, 3) := by decide +kernel
theorem dX0_bestScale_85 : decode cX0_bestScale 85 = .ok (.i2l, 1) := by decide +kernel
theorem dX0_bestScale_86 : decode cX0_bestScale 86 = .ok (.lmul, 1) := by decide +kernel
theorem dX0_bestScale_87 : decode cX0_bestScale 87 = .ok (.ladd, 1) := by decide +kernel
theorem dX0_bestScale_88 : decode cX0_bestScale 88 = .ok (.lstore 14, 2) := by decide +kernel
theorem dX0_bestScale_90 : decode cX0_bestScale 90 = .ok (.iload 8, 2) := by decide +kernel
theorem dX0_bestScale_92 : decode cX0_bestScale 92 = .ok (.iconst (-1), 1) := by decide +kernel
theorem dX0_bestScale_93 : decode cX0_bestScale 93 = .ok (.if_icmp .eq 11, 3) := by decide +kernel
theorem dX0_bestScale_96 : decode cX0_bestScale 96 = .ok (.lload 14, 2) := by decide +kernel
theorem dX0_bestScale_98 : decode cX0_bestScale 98 = .ok (.lload 9, 2) := by decide +kernel
theorem dX0_bestScale_100 : decode cX0_bestScale 100 = .ok (.lcmp, 1) := by decide +kernel
theorem dX0_bestScale_101 : decode cX0_bestScale 101 = .ok (.ifCond .ge 11, 3) := by decide +kernel
theorem dX0_bestScale_104 : decode cX0_bestScale 104 = .ok (.iload 11, 2) := by decide +kernel
theorem dX0_bestScale_106 : decode cX0_bestScale 106 = .ok (.istore 8, 2) := by decide +kernel
theorem dX0_bestScale_108 : decode cX0_bestScale 108 = .ok (.lload 14, 2) := by decide +kernel
theorem dX0_bestScale_110 : decode cX0_bestScale 110 = .ok (.lstore 9, 2) := by decide +kernel
theorem dX0_bestScale_112 : decode cX0_bestScale 112 = .ok (.iinc 11 1, 3) := by decide +kernel
theorem dX0_bestScale_115 : decode cX0_bestScale 115 = .ok (.goto (-67), 3) := by decide +kernel
theorem dX0_bestScale_118 : decode cX0_bestScale 118 = .ok (.iload 8, 2) := by decide +kernel
theorem dX0_bestScale_120 : decode cX0_bestScale 120 = .ok (.ireturn, 1) := by decide +kernel
theorem dX0_sidesAtHand_0 : decode cX0_sidesAtHand 0 = .ok (.aload_n 0, 1) := by decide +kernel
theorem dX0_sidesAtHand_1 : decode cX0_sidesAtHand 1 = .ok (.aload_n 1, 1) := by decide +kernel
theorem dX0_sidesAtHand_2 : decode cX0_sidesAtHand 2 = .ok (.aload_n 0, 1) := by decide +kernel
theorem dX0_sidesAtHand_3 : decode cX0_sidesAtHand 3 = .ok (.aload_n 0, 1) := by decide +kernel
theorem dX0_sidesAtHand_4 : decode cX0_sidesAtHand 4 = .ok (.getfield 9, 3) := by decide +kernel
theorem dX0_sidesAtHand_7 : decode cX0_sidesAtHand 7 = .ok (.getfield 47, 3) := by decide +kernel
theorem dX0_sidesAtHand_10 : decode cX0_sidesAtHand 10 = .ok (.getfield 68, 3) := by decide +kernel
theorem dX0_sidesAtHand_13 : decode cX0_sidesAtHand 13 = .ok (.iconst (-1), 1) := by decide +kernel
theorem dX0_sidesAtHand_14 : decode cX0_sidesAtHand 14 = .ok (.invokevirtual 202, 3) := by decide +kernel
theorem dX0_sidesAtHand_17 : decode cX0_sidesAtHand 17 = .ok (.invokevirtual 149, 3) := by decide +kernel
theorem dX0_sidesAtHand_20 : decode cX0_sidesAtHand 20 = .ok (.lstore_n 2, 1) := by decide +kernel
theorem dX0_sidesAtHand_21 : decode cX0_sidesAtHand 21 = .ok (.aload_n 0, 1) := by decide +kernel
theorem dX0_sidesAtHand_22 : decode cX0_sidesAtHand 22 = .ok (.aload_n 1, 1) := by decide +kernel
theorem dX0_sidesAtHand_23 : decode cX0_sidesAtHand 23 = .ok (.aload_n 0, 1) := by decide +kernel
theorem dX0_sidesAtHand_24 : decode cX0_sidesAtHand 24 = .ok (.getfield 9, 3) := by decide +kernel
theorem dX0_sidesAtHand_27 : decode cX0_sidesAtHand 27 = .ok (.getfield 47, 3) := by decide +kernel
theorem dX0_sidesAtHand_30 : decode cX0_sidesAtHand 30 = .ok (.invokevirtual 149, 3) := by decide +kernel
theorem dX0_sidesAtHand_33 : decode cX0_sidesAtHand 33 = .ok (.lload_n 2, 1) := by decide +kernel
theorem dX0_sidesAtHand_34 : decode cX0_sidesAtHand 34 = .ok (.lsub, 1) := by decide +kernel
theorem dX0_sidesAtHand_35 : decode cX0_sidesAtHand 35 = .ok (.lreturn, 1) := by decide +kernel
theorem dX0_leastScaleWithin_0 : decode cX0_leastScaleWithin 0 = .ok (.iconst 1, 1) := by decide +kernel
theorem dX0_leastScaleWithin_1 : decode cX0_leastScaleWithin 1 = .ok (.istore_n 3, 1) := by decide +kernel
theorem dX0_leastScaleWithin_2 : decode cX0_leastScaleWithin 2 = .ok (.iload_n 3, 1) := by decide +kernel
theorem dX0_leastScaleWithin_3 : decode cX0_leastScaleWithin 3 = .ok (.bipush 40, 2) := by decide +kernel
theorem dX0_leastScaleWithin_5 : decode cX0_leastScaleWithin 5 = .ok (.if_icmp .gt 62, 3) := by decide +kernel
theorem dX0_leastScaleWithin_8 : decode cX0_leastScaleWithin 8 = .ok (.aload_n 0, 1) := by decide +kernel
theorem dX0_leastScaleWithin_9 : decode cX0_leastScaleWithin 9 = .ok (.aload_n 1, 1) := by decide +kernel
theorem dX0_leastScaleWithin_10 : decode cX0_leastScaleWithin 10 = .ok (.aload_n 0, 1) := by decide +kernel
theorem dX0_leastScaleWithin_11 : decode cX0_leastScaleWithin 11 = .ok (.iload_n 3, 1) := by decide +kernel
theorem dX0_leastScaleWithin_12 : decode cX0_leastScaleWithin 12 = .ok (.iconst (-1), 1) := by decide +kernel
theorem dX0_leastScaleWithin_13 : decode cX0_leastScaleWithin 13 = .ok (.invokevirtual 202, 3) := by decide +kernel
theorem dX0_leastScaleWithin_16 : decode cX0_leastScaleWithin 16 = .ok (.invokevirtual 149, 3) := by decide +kernel
theorem dX0_leastScaleWithin_19 : decode cX0_leastScaleWithin 19 = .ok (.lstore 4, 2) := by decide +kernel
theorem dX0_leastScaleWithin_21 : decode cX0_leastScaleWithin 21 = .ok (.aload_n 0, 1) := by decide +kernel
theorem dX0_leastScaleWithin_22 : decode cX0_leastScaleWithin 22 = .ok (.aload_n 1, 1) := by decide +kernel
theorem dX0_leastScaleWithin_23 : decode cX0_leastScaleWithin 23 = .ok (.aload_n 0, 1) := by decide +kernel
theorem dX0_leastScaleWithin_24 : decode cX0_leastScaleWithin 24 = .ok (.iload_n 3, 1) := by decide +kernel
theorem dX0_leastScaleWithin_25 : decode cX0_leastScaleWithin 25 = .ok (.aload_n 0, 1) := by decide +kernel
theorem dX0_leastScaleWithin_26 : decode cX0_leastScaleWithin 26 = .ok (.getfield 9, 3) := by decide +kernel
theorem dX0_leastScaleWithin_29 : decode cX0_leastScaleWithin 29 = .ok (.getfield 47, 3) := by decide +kernel
theorem dX0_leastScaleWithin_32 : decode cX0_leastScaleWithin 32 = .ok (.getfield 103, 3) := by decide +kernel
theorem dX0_leastScaleWithin_35 : decode cX0_leastScaleWithin 35 = .ok (.invokevirtual 202, 3) := by decide +kernel
theorem dX0_leastScaleWithin_38 : decode cX0_leastScaleWithin 38 = .ok (.invokevirtual 149, 3) := by decide +kernel
theorem dX0_leastScaleWithin_41 : decode cX0_leastScaleWithin 41 = .ok (.lstore 6, 2) := by decide +kernel
theorem dX0_leastScaleWithin_43 : decode cX0_leastScaleWithin 43 = .ok (.lload 6, 2) := by decide +kernel
theorem dX0_leastScaleWithin_45 : decode cX0_leastScaleWithin 45 = .ok (.lload 4, 2) := by decide +kernel
theorem dX0_leastScaleWithin_47 : decode cX0_leastScaleWithin 47 = .ok (.lsub, 1) := by decide +kernel
theorem dX0_leastScaleWithin_48 : decode cX0_leastScaleWithin 48 = .ok (.lload 4, 2) := by decide +kernel
theorem dX0_leastScaleWithin_50 : decode cX0_leastScaleWithin 50 = .ok (.iload_n 2, 1) := by decide +kernel
theorem dX0_leastScaleWithin_51 : decode cX0_leastScaleWithin 51 = .ok (.i2l, 1) := by decide +kernel
theorem dX0_leastScaleWithin_52 : decode cX0_leastScaleWithin 52 = .ok (.invokestatic 178, 3) := by decide +kernel
theorem dX0_leastScaleWithin_55 : decode cX0_leastScaleWithin 55 = .ok (.lcmp, 1) := by decide +kernel
theorem dX0_leastScaleWithin_56 : decode cX0_leastScaleWithin 56 = .ok (.ifCond .gt 5, 3) := by decide +kernel
theorem dX0_leastScaleWithin_59 : decode cX0_leastScaleWithin 59 = .ok (.iload_n 3, 1) := by decide +kernel
theorem dX0_leastScaleWithin_60 : decode cX0_leastScaleWithin 60 = .ok (.ireturn, 1) := by decide +kernel
theorem dX0_leastScaleWithin_61 : decode cX0_leastScaleWithin 61 = .ok (.iinc 3 1, 3) := by decide +kernel
theorem dX0_leastScaleWithin_64 : decode cX0_leastScaleWithin 64 = .ok (.goto (-62), 3) := by decide +kernel
theorem dX0_leastScaleWithin_67 : decode cX0_leastScaleWithin 67 = .ok (.iconst (-1), 1) := by decide +kernel
theorem dX0_leastScaleWithin_68 : decode cX0_leastScaleWithin 68 = .ok (.ireturn, 1) := by decide +kernel
theorem dX0_drawnPull_0 : decode cX0_drawnPull 0 = .ok (.aload_n 0, 1) := by decide +kernel
theorem dX0_drawnPull_1 : decode cX0_drawnPull 1 = .ok (.aload_n 1, 1) := by decide +kernel
theorem dX0_drawnPull_2 : decode cX0_drawnPull 2 = .ok (.aload_n 0, 1) := by decide +kernel
theorem dX0_drawnPull_3 : decode cX0_drawnPull 3 = .ok (.getfield 9, 3) := by decide +kernel
theorem dX0_drawnPull_6 : decode cX0_drawnPull 6 = .ok (.getfield 47, 3) := by decide +kernel
theorem dX0_drawnPull_9 : decode cX0_drawnPull 9 = .ok (.invokevirtual 149, 3) := by decide +kernel
theorem dX0_drawnPull_12 : decode cX0_drawnPull 12 = .ok (.ldc2_w 192, 3) := by decide +kernel
theorem dX0_drawnPull_15 : decode cX0_drawnPull 15 = .ok (.invokestatic 166, 3) := by decide +kernel
theorem dX0_drawnPull_18 : decode cX0_drawnPull 18 = .ok (.lstore_n 3, 1) := by decide +kernel
theorem dX0_drawnPull_19 : decode cX0_drawnPull 19 = .ok (.lload_n 3, 1) := by decide +kernel
theorem dX0_drawnPull_20 : decode cX0_drawnPull 20 = .ok (.lload_n 3, 1) := by decide +kernel
theorem dX0_drawnPull_21 : decode cX0_drawnPull 21 = .ok (.aload_n 0, 1) := by decide +kernel
theorem dX0_drawnPull_22 : decode cX0_drawnPull 22 = .ok (.getfield 9, 3) := by decide +kernel
theorem dX0_drawnPull_25 : decode cX0_drawnPull 25 = .ok (.iconst 2, 1) := by decide +kernel
theorem dX0_drawnPull_26 : decode cX0_drawnPull 26 = .ok (.iload_n 2, 1) := by decide +kernel
theorem dX0_drawnPull_27 : decode cX0_drawnPull 27 = .ok (.imul, 1) := by decide +kernel
theorem dX0_drawnPull_28 : decode cX0_drawnPull 28 = .ok (.iconst 1, 1) := by decide +kernel
theorem dX0_drawnPull_29 : decode cX0_drawnPull 29 = .ok (.iadd, 1) := by decide +kernel
theorem dX0_drawnPull_30 : decode cX0_drawnPull 30 = .ok (.invokevirtual 205, 3) := by decide +kernel
theorem dX0_drawnPull_33 : decode cX0_drawnPull 33 = .ok (.iload_n 2, 1) := by decide +kernel
theorem dX0_drawnPull_34 : decode cX0_drawnPull 34 = .ok (.isub, 1) := by decide +kernel
theorem dX0_drawnPull_35 : decode cX0_drawnPull 35 = .ok (.i2l, 1) := by decide +kernel
theorem dX0_drawnPull_36 : decode cX0_drawnPull 36 = .ok (.invokestatic 178, 3) := by decide +kernel
theorem dX0_drawnPull_39 : decode cX0_drawnPull 39 = .ok (.ladd, 1) := by decide +kernel
theorem dX0_drawnPull_40 : decode cX0_drawnPull 40 = .ok (.lstore 5, 2) := by decide +kernel
theorem dX0_drawnPull_42 : decode cX0_drawnPull 42 = .ok (.lload 5, 2) := by decide +kernel
theorem dX0_drawnPull_44 : decode cX0_drawnPull 44 = .ok (.lconst 0, 1) := by decide +kernel
theorem dX0_drawnPull_45 : decode cX0_drawnPull 45 = .ok (.invokestatic 175, 3) := by decide +kernel
theorem dX0_drawnPull_48 : decode cX0_drawnPull 48 = .ok (.ldc2_w 192, 3) := by decide +kernel
theorem dX0_drawnPull_51 : decode cX0_drawnPull 51 = .ok (.invokestatic 166, 3) := by decide +kernel
theorem dX0_drawnPull_54 : decode cX0_drawnPull 54 = .ok (.l2i, 1) := by decide +kernel
theorem dX0_drawnPull_55 : decode cX0_drawnPull 55 = .ok (.ireturn, 1) := by decide +kernel
theorem dX0_wirePart_0 : decode cX0_wirePart 0 = .ok (.lconst 0, 1) := by decide +kernel
theorem dX0_wirePart_1 : decode cX0_wirePart 1 = .ok (.lstore_n 1, 1) := by decide +kernel
theorem dX0_wirePart_2 : decode cX0_wirePart 2 = .ok (.lconst 0, 1) := by decide +kernel
theorem dX0_wirePart_3 : decode cX0_wirePart 3 = .ok (.lstore_n 3, 1) := by decide +kernel
theorem dX0_wirePart_4 : decode cX0_wirePart 4 = .ok (.iconst 0, 1) := by decide +kernel
theorem dX0_wirePart_5 : decode cX0_wirePart 5 = .ok (.istore 5, 2) := by decide +kernel
theorem dX0_wirePart_7 : decode cX0_wirePart 7 = .ok (.iconst 0, 1) := by decide +kernel
theorem dX0_wirePart_8 : decode cX0_wirePart 8 = .ok (.istore 6, 2) := by decide +kernel
theorem dX0_wirePart_10 : decode cX0_wirePart 10 = .ok (.iconst 0, 1) := by decide +kernel
theorem dX0_wirePart_11 : decode cX0_wirePart 11 = .ok (.istore 7, 2) := by decide +kernel
theorem dX0_wirePart_13 : decode cX0_wirePart 13 = .ok (.iload 7, 2) := by decide +kernel
theorem dX0_wirePart_15 : decode cX0_wirePart 15 = .ok (.aload_n 0, 1) := by decide +kernel
theorem dX0_wirePart_16 : decode cX0_wirePart 16 = .ok (.getfield 9, 3) := by decide +kernel
theorem dX0_wirePart_19 : decode cX0_wirePart 19 = .ok (.invokevirtual 208, 3) := by decide +kernel
theorem dX0_wirePart_22 : decode cX0_wirePart 22 = .ok (.if_icmp .ge 74, 3) := by decide +kernel
theorem dX0_wirePart_25 : decode cX0_wirePart 25 = .ok (.aload_n 0, 1) := by decide +kernel
theorem dX0_wirePart_26 : decode cX0_wirePart 26 = .ok (.iload 7, 2) := by decide +kernel
theorem dX0_wirePart_28 : decode cX0_wirePart 28 = .ok (.invokevirtual 212, 3) := by decide +kernel
theorem dX0_wirePart_31 : decode cX0_wirePart 31 = .ok (.ifCond .ne 6, 3) := by decide +kernel
theorem dX0_wirePart_34 : decode cX0_wirePart 34 = .ok (.goto 56, 3) := by decide +kernel
theorem dX0_wirePart_37 : decode cX0_wirePart 37 = .ok (.aload_n 0, 1) := by decide +kernel
theorem dX0_wirePart_38 : decode cX0_wirePart 38 = .ok (.getfield 9, 3) := by decide +kernel
theorem dX0_wirePart_41 : decode cX0_wirePart 41 = .ok (.iload 7, 2) := by decide +kernel
theorem dX0_wirePart_43 : decode cX0_wirePart 43 = .ok (.iconst 4, 1) := by decide +kernel
theorem dX0_wirePart_44 : decode cX0_wirePart 44 = .ok (.invokevirtual 216, 3) := by decide +kernel
theorem dX0_wirePart_47 : decode cX0_wirePart 47 = .ok (.iconst 1, 1) := by decide +kernel
theorem dX0_wirePart_48 : decode cX0_wirePart 48 = .ok (.if_icmp .ne 24, 3) := by decide +kernel
theorem dX0_wirePart_51 : decode cX0_wirePart 51 = .ok (.lload_n 1, 1) := by decide +kernel
theorem dX0_wirePart_52 : decode cX0_wirePart 52 = .ok (.aload_n 0, 1) := by decide +kernel
theorem dX0_wirePart_53 : decode cX0_wirePart 53 = .ok (.getfield 9, 3) := by decide +kernel
theorem dX0_wirePart_56 : decode cX0_wirePart 56 = .ok (.iload 7, 2) := by decide +kernel
theorem dX0_wirePart_58 : decode cX0_wirePart 58 = .ok (.bipush 6, 2) := by decide +kernel
theorem dX0_wirePart_60 : decode cX0_wirePart 60 = .ok (.invokevirtual 216, 3) := by decide +kernel
theorem dX0_wirePart_63 : decode cX0_wirePart 63 = .ok (.i2l, 1) := by decide +kernel
theorem dX0_wirePart_64 : decode cX0_wirePart 64 = .ok (.ladd, 1) := by decide +kernel
theorem dX0_wirePart_65 : decode cX0_wirePart 65 = .ok (.lstore_n 1, 1) := by decide +kernel
theorem dX0_wirePart_66 : decode cX0_wirePart 66 = .ok (.iinc 5 1, 3) := by decide +kernel
theorem dX0_wirePart_69 : decode cX0_wirePart 69 = .ok (.goto 21, 3) := by decide +kernel
theorem dX0_wirePart_72 : decode cX0_wirePart 72 = .ok (.lload_n 3, 1) := by decide +kernel
theorem dX0_wirePart_73 : decode cX0_wirePart 73 = .ok (.aload_n 0, 1) := by decide +kernel
theorem dX0_wirePart_74 : decode cX0_wirePart 74 = .ok (.getfield 9, 3) := by decide +kernel
theorem dX0_wirePart_77 : decode cX0_wirePart 77 = .ok (.iload 7, 2) := by decide +kernel
theorem dX0_wirePart_79 : decode cX0_wirePart 79 = .ok (.bipush 6, 2) := by decide +kernel
theorem dX0_wirePart_81 : decode cX0_wirePart 81 = .ok (.invokevirtual 216, 3) := by decide +kernel
theorem dX0_wirePart_84 : decode cX0_wirePart 84 = .ok (.i2l, 1) := by decide +kernel
theorem dX0_wirePart_85 : decode cX0_wirePart 85 = .ok (.ladd, 1) := by decide +kernel
theorem dX0_wirePart_86 : decode cX0_wirePart 86 = .ok (.lstore_n 3, 1) := by decide +kernel
theorem dX0_wirePart_87 : decode cX0_wirePart 87 = .ok (.iinc 6 1, 3) := by decide +kernel
theorem dX0_wirePart_90 : decode cX0_wirePart 90 = .ok (.iinc 7 1, 3) := by decide +kernel
theorem dX0_wirePart_93 : decode cX0_wirePart 93 = .ok (.goto (-80), 3) := by decide +kernel
theorem dX0_wirePart_96 : decode cX0_wirePart 96 = .ok (.iload 5, 2) := by decide +kernel
theorem dX0_wirePart_98 : decode cX0_wirePart 98 = .ok (.ifCond .eq 8, 3) := by decide +kernel
theorem dX0_wirePart_101 : decode cX0_wirePart 101 = .ok (.iload 6, 2) := by decide +kernel
theorem dX0_wirePart_103 : decode cX0_wirePart 103 = .ok (.ifCond .ne 7, 3) := by decide +kernel
theorem dX0_wirePart_106 : decode cX0_wirePart 106 = .ok (.lconst 0, 1) := by decide +kernel
theorem dX0_wirePart_107 : decode cX0_wirePart 107 = .ok (.goto 14, 3) := by decide +kernel
theorem dX0_wirePart_110 : decode cX0_wirePart 110 = .ok (.lload_n 1, 1) := by decide +kernel
theorem dX0_wirePart_111 : decode cX0_wirePart 111 = .ok (.iload 6, 2) := by decide +kernel
theorem dX0_wirePart_113 : decode cX0_wirePart 113 = .ok (.i2l, 1) := by decide +kernel
theorem dX0_wirePart_114 : decode cX0_wirePart 114 = .ok (.lmul, 1) := by decide +kernel
theorem dX0_wirePart_115 : decode cX0_wirePart 115 = .ok (.lload_n 3, 1) := by decide +kernel
theorem dX0_wirePart_116 : decode cX0_wirePart 116 = .ok (.iload 5, 2) := by decide +kernel
theorem dX0_wirePart_118 : decode cX0_wirePart 118 = .ok (.i2l, 1) := by decide +kernel
theorem dX0_wirePart_119 : decode cX0_wirePart 119 = .ok (.lmul, 1) := by decide +kernel
theorem dX0_wirePart_120 : decode cX0_wirePart 120 = .ok (.lsub, 1) := by decide +kernel
theorem dX0_wirePart_121 : decode cX0_wirePart 121 = .ok (.lreturn, 1) := by decide +kernel
theorem dX0_isAtHand_0 : decode cX0_isAtHand 0 = .ok (.aload_n 0, 1) := by decide +kernel
theorem dX0_isAtHand_1 : decode cX0_isAtHand 1 = .ok (.getfield 9, 3) := by decide +kernel
theorem dX0_isAtHand_4 : decode cX0_isAtHand 4 = .ok (.iload_n 1, 1) := by decide +kernel
theorem dX0_isAtHand_5 : decode cX0_isAtHand 5 = .ok (.iconst 0, 1) := by decide +kernel
theorem dX0_isAtHand_6 : decode cX0_isAtHand 6 = .ok (.invokevirtual 216, 3) := by decide +kernel
theorem dX0_isAtHand_9 : decode cX0_isAtHand 9 = .ok (.aload_n 0, 1) := by decide +kernel
theorem dX0_isAtHand_10 : decode cX0_isAtHand 10 = .ok (.getfield 9, 3) := by decide +kernel
theorem dX0_isAtHand_13 : decode cX0_isAtHand 13 = .ok (.getfield 47, 3) := by decide +kernel
theorem dX0_isAtHand_16 : decode cX0_isAtHand 16 = .ok (.getfield 60, 3) := by decide +kernel
theorem dX0_isAtHand_19 : decode cX0_isAtHand 19 = .ok (.if_icmp .ne 51, 3) := by decide +kernel
theorem dX0_isAtHand_22 : decode cX0_isAtHand 22 = .ok (.aload_n 0, 1) := by decide +kernel
theorem dX0_isAtHand_23 : decode cX0_isAtHand 23 = .ok (.getfield 9, 3) := by decide +kernel
theorem dX0_isAtHand_26 : decode cX0_isAtHand 26 = .ok (.iload_n 1, 1) := by decide +kernel
theorem dX0_isAtHand_27 : decode cX0_isAtHand 27 = .ok (.iconst 1, 1) := by decide +kernel
theorem dX0_isAtHand_28 : decode cX0_isAtHand 28 = .ok (.invokevirtual 216, 3) := by decide +kernel
theorem dX0_isAtHand_31 : decode cX0_isAtHand 31 = .ok (.aload_n 0, 1) := by decide +kernel
theorem dX0_isAtHand_32 : decode cX0_isAtHand 32 = .ok (.getfield 9, 3) := by decide +kernel
theorem dX0_isAtHand_35 : decode cX0_isAtHand 35 = .ok (.getfield 47, 3) := by decide +kernel
theorem dX0_isAtHand_38 : decode cX0_isAtHand 38 = .ok (.getfield 68, 3) := by decide +kernel
theorem dX0_isAtHand_41 : decode cX0_isAtHand 41 = .ok (.if_icmp .ne 29, 3) := by decide +kernel
theorem dX0_isAtHand_44 : decode cX0_isAtHand 44 = .ok (.aload_n 0, 1) := by decide +kernel
theorem dX0_isAtHand_45 : decode cX0_isAtHand 45 = .ok (.getfield 9, 3) := by decide +kernel
theorem dX0_isAtHand_48 : decode cX0_isAtHand 48 = .ok (.iload_n 1, 1) := by decide +kernel
theorem dX0_isAtHand_49 : decode cX0_isAtHand 49 = .ok (.iconst 2, 1) := by decide +kernel
theorem dX0_isAtHand_50 : decode cX0_isAtHand 50 = .ok (.invokevirtual 216, 3) := by decide +kernel
theorem dX0_isAtHand_53 : decode cX0_isAtHand 53 = .ok (.aload_n 0, 1) := by decide +kernel
theorem dX0_isAtHand_54 : decode cX0_isAtHand 54 = .ok (.getfield 9, 3) := by decide +kernel
theorem dX0_isAtHand_57 : decode cX0_isAtHand 57 = .ok (.getfield 47, 3) := by decide +kernel
theorem dX0_isAtHand_60 : decode cX0_isAtHand 60 = .ok (.getfield 78, 3) := by decide +kernel
theorem dX0_isAtHand_63 : decode cX0_isAtHand 63 = .ok (.if_icmp .ne 7, 3) := by decide +kernel
theorem dX0_isAtHand_66 : decode cX0_isAtHand 66 = .ok (.iconst 1, 1) := by decide +kernel
theorem dX0_isAtHand_67 : decode cX0_isAtHand 67 = .ok (.goto 4, 3) := by decide +kernel
theorem dX0_isAtHand_70 : decode cX0_isAtHand 70 = .ok (.iconst 0, 1) := by decide +kernel
theorem dX0_isAtHand_71 : decode cX0_isAtHand 71 = .ok (.ireturn, 1) := by decide +kernel
theorem dX0_fittingLaws_0 : decode cX0_fittingLaws 0 = .ok (.iconst 0, 1) := by decide +kernel
theorem dX0_fittingLaws_1 : decode cX0_fittingLaws 1 = .ok (.istore_n 3, 1) := by decide +kernel
theorem dX0_fittingLaws_2 : decode cX0_fittingLaws 2 = .ok (.iconst 0, 1) := by decide +kernel
theorem dX0_fittingLaws_3 : decode cX0_fittingLaws 3 = .ok (.istore 4, 2) := by decide +kernel
theorem dX0_fittingLaws_5 : decode cX0_fittingLaws 5 = .ok (.iload 4, 2) := by decide +kernel
theorem dX0_fittingLaws_7 : decode cX0_fittingLaws 7 = .ok (.aload_n 1, 1) := by decide +kernel
theorem dX0_fittingLaws_8 : decode cX0_fittingLaws 8 = .ok (.invokevirtual 220, 3) := by decide +kernel
theorem dX0_fittingLaws_11 : decode cX0_fittingLaws 11 = .ok (.if_icmp .ge 39, 3) := by decide +kernel
theorem dX0_fittingLaws_14 : decode cX0_fittingLaws 14 = .ok (.aload_n 1, 1) := by decide +kernel
theorem dX0_fittingLaws_15 : decode cX0_fittingLaws 15 = .ok (.iload 4, 2) := by decide +kernel
theorem dX0_fittingLaws_17 : decode cX0_fittingLaws 17 = .ok (.invokevirtual 225, 3) := by decide +kernel
theorem dX0_fittingLaws_20 : decode cX0_fittingLaws 20 = .ok (.astore 5, 2) := by decide +kernel
theorem dX0_fittingLaws_22 : decode cX0_fittingLaws 22 = .ok (.aload 5, 2) := by decide +kernel
theorem dX0_fittingLaws_24 : decode cX0_fittingLaws 24 = .ok (.ifnull 20, 3) := by decide +kernel
theorem dX0_fittingLaws_27 : decode cX0_fittingLaws 27 = .ok (.aload_n 0, 1) := by decide +kernel
theorem dX0_fittingLaws_28 : decode cX0_fittingLaws 28 = .ok (.aload 5, 2) := by decide +kernel
theorem dX0_fittingLaws_30 : decode cX0_fittingLaws 30 = .ok (.iload_n 2, 1) := by decide +kernel
theorem dX0_fittingLaws_31 : decode cX0_fittingLaws 31 = .ok (.invokevirtual 228, 3) := by decide +kernel
theorem dX0_fittingLaws_34 : decode cX0_fittingLaws 34 = .ok (.ifCond .eq 10, 3) := by decide +kernel
theorem dX0_fittingLaws_37 : decode cX0_fittingLaws 37 = .ok (.iload_n 3, 1) := by decide +kernel
theorem dX0_fittingLaws_38 : decode cX0_fittingLaws 38 = .ok (.iconst 1, 1) := by decide +kernel
theorem dX0_fittingLaws_39 : decode cX0_fittingLaws 39 = .ok (.iload 4, 2) := by decide +kernel
theorem dX0_fittingLaws_41 : decode cX0_fittingLaws 41 = .ok (.ishl, 1) := by decide +kernel
theorem dX0_fittingLaws_42 : decode cX0_fittingLaws 42 = .ok (.ior, 1) := by decide +kernel
theorem dX0_fittingLaws_43 : decode cX0_fittingLaws 43 = .ok (.istore_n 3, 1) := by decide +kernel
theorem dX0_fittingLaws_44 : decode cX0_fittingLaws 44 = .ok (.iinc 4 1, 3) := by decide +kernel
theorem dX0_fittingLaws_47 : decode cX0_fittingLaws 47 = .ok (.goto (-42), 3) := by decide +kernel
theorem dX0_fittingLaws_50 : decode cX0_fittingLaws 50 = .ok (.iload_n 3, 1) := by decide +kernel
theorem dX0_fittingLaws_51 : decode cX0_fittingLaws 51 = .ok (.ireturn, 1) := by decide +kernel
theorem dX0_isFitting_0 : decode cX0_isFitting 0 = .ok (.iconst 0, 1) := by decide +kernel
theorem dX0_isFitting_1 : decode cX0_isFitting 1 = .ok (.istore_n 3, 1) := by decide +kernel
theorem dX0_isFitting_2 : decode cX0_isFitting 2 = .ok (.iload_n 3, 1) := by decide +kernel
theorem dX0_isFitting_3 : decode cX0_isFitting 3 = .ok (.aload_n 0, 1) := by decide +kernel
theorem dX0_isFitting_4 : decode cX0_isFitting 4 = .ok (.getfield 9, 3) := by decide +kernel
theorem dX0_isFitting_7 : decode cX0_isFitting 7 = .ok (.invokevirtual 208, 3) := by decide +kernel
theorem dX0_isFitting_10 : decode cX0_isFitting 10 = .ok (.if_icmp .ge 61, 3) := by decide +kernel
theorem dX0_isFitting_13 : decode cX0_isFitting 13 = .ok (.aload_n 0, 1) := by decide +kernel
theorem dX0_isFitting_14 : decode cX0_isFitting 14 = .ok (.getfield 9, 3) := by decide +kernel
theorem dX0_isFitting_17 : decode cX0_isFitting 17 = .ok (.iload_n 3, 1) := by decide +kernel
theorem dX0_isFitting_18 : decode cX0_isFitting 18 = .ok (.aload_n 0, 1) := by decide +kernel
theorem dX0_isFitting_19 : decode cX0_isFitting 19 = .ok (.getfield 32, 3) := by decide +kernel
theorem dX0_isFitting_22 : decode cX0_isFitting 22 = .ok (.invokevirtual 232, 3) := by decide +kernel
theorem dX0_isFitting_25 : decode cX0_isFitting 25 = .ok (.aload_n 0, 1) := by decide +kernel
theorem dX0_isFitting_26 : decode cX0_isFitting 26 = .ok (.aload_n 1, 1) := by decide +kernel
theorem dX0_isFitting_27 : decode cX0_isFitting 27 = .ok (.aload_n 0, 1) := by decide +kernel
theorem dX0_isFitting_28 : decode cX0_isFitting 28 = .ok (.getfield 32, 3) := by decide +kernel
theorem dX0_isFitting_31 : decode cX0_isFitting 31 = .ok (.invokevirtual 149, 3) := by decide +kernel
theorem dX0_isFitting_34 : decode cX0_isFitting 34 = .ok (.lstore 4, 2) := by decide +kernel
theorem dX0_isFitting_36 : decode cX0_isFitting 36 = .ok (.aload_n 0, 1) := by decide +kernel
theorem dX0_isFitting_37 : decode cX0_isFitting 37 = .ok (.getfield 9, 3) := by decide +kernel
theorem dX0_isFitting_40 : decode cX0_isFitting 40 = .ok (.iload_n 3, 1) := by decide +kernel
theorem dX0_isFitting_41 : decode cX0_isFitting 41 = .ok (.bipush 6, 2) := by decide +kernel
theorem dX0_isFitting_43 : decode cX0_isFitting 43 = .ok (.invokevirtual 216, 3) := by decide +kernel
theorem dX0_isFitting_46 : decode cX0_isFitting 46 = .ok (.i2l, 1) := by decide +kernel
theorem dX0_isFitting_47 : decode cX0_isFitting 47 = .ok (.lload 4, 2) := by decide +kernel
theorem dX0_isFitting_49 : decode cX0_isFitting 49 = .ok (.invokestatic 189, 3) := by decide +kernel
theorem dX0_isFitting_52 : decode cX0_isFitting 52 = .ok (.lload 4, 2) := by decide +kernel
theorem dX0_isFitting_54 : decode cX0_isFitting 54 = .ok (.iload_n 2, 1) := by decide +kernel
theorem dX0_isFitting_55 : decode cX0_isFitting 55 = .ok (.i2l, 1) := by decide +kernel
theorem dX0_isFitting_56 : decode cX0_isFitting 56 = .ok (.invokestatic 178, 3) := by decide +kernel
theorem dX0_isFitting_59 : decode cX0_isFitting 59 = .ok (.lcmp, 1) := by decide +kernel
theorem dX0_isFitting_60 : decode cX0_isFitting 60 = .ok (.ifCond .le 5, 3) := by decide +kernel
theorem dX0_isFitting_63 : decode cX0_isFitting 63 = .ok (.iconst 0, 1) := by decide +kernel
theorem dX0_isFitting_64 : decode cX0_isFitting 64 = .ok (.ireturn, 1) := by decide +kernel
theorem dX0_isFitting_65 : decode cX0_isFitting 65 = .ok (.iinc 3 1, 3) := by decide +kernel
theorem dX0_isFitting_68 : decode cX0_isFitting 68 = .ok (.goto (-66), 3) := by decide +kernel
theorem dX0_isFitting_71 : decode cX0_isFitting 71 = .ok (.iconst 1, 1) := by decide +kernel
theorem dX0_isFitting_72 : decode cX0_isFitting 72 = .ok (.ireturn, 1) := by decide +kernel
theorem dX0_tellingSpeed_0 : decode cX0_tellingSpeed 0 = .ok (.iload_n 2, 1) := by decide +kernel
theorem dX0_tellingSpeed_1 : decode cX0_tellingSpeed 1 = .ok (.invokestatic 236, 3) := by decide +kernel
theorem dX0_tellingSpeed_4 : decode cX0_tellingSpeed 4 = .ok (.iconst 2, 1) := by decide +kernel
theorem dX0_tellingSpeed_5 : decode cX0_tellingSpeed 5 = .ok (.if_icmp .ge 5, 3) := by decide +kernel
theorem dX0_tellingSpeed_8 : decode cX0_tellingSpeed 8 = .ok (.iconst (-1), 1) := by decide +kernel
theorem dX0_tellingSpeed_9 : decode cX0_tellingSpeed 9 = .ok (.ireturn, 1) := by decide +kernel
theorem dX0_tellingSpeed_10 : decode cX0_tellingSpeed 10 = .ok (.iconst (-1), 1) := by decide +kernel
theorem dX0_tellingSpeed_11 : decode cX0_tellingSpeed 11 = .ok (.istore_n 3, 1) := by decide +kernel
theorem dX0_tellingSpeed_12 : decode cX0_tellingSpeed 12 = .ok (.lconst 0, 1) := by decide +kernel
theorem dX0_tellingSpeed_13 : decode cX0_tellingSpeed 13 = .ok (.lstore 4, 2) := by decide +kernel
theorem dX0_tellingSpeed_15 : decode cX0_tellingSpeed 15 = .ok (.iconst 1, 1) := by decide +kernel
theorem dX0_tellingSpeed_16 : decode cX0_tellingSpeed 16 = .ok (.istore 6, 2) := by decide +kernel
theorem dX0_tellingSpeed_18 : decode cX0_tellingSpeed 18 = .ok (.iload 6, 2) := by decide +kernel
theorem dX0_tellingSpeed_20 : decode cX0_tellingSpeed 20 = .ok (.bipush 99, 2) := by decide +kernel
theorem dX0_tellingSpeed_22 : decode cX0_tellingSpeed 22 = .ok (.if_icmp .gt 39, 3) := by decide +kernel
theorem dX0_tellingSpeed_25 : decode cX0_tellingSpeed 25 = .ok (.aload_n 0, 1) := by decide +kernel
theorem dX0_tellingSpeed_26 : decode cX0_tellingSpeed 26 = .ok (.aload_n 1, 1) := by decide +kernel
theorem dX0_tellingSpeed_27 : decode cX0_tellingSpeed 27 = .ok (.iload_n 2, 1) := by decide +kernel
theorem dX0_tellingSpeed_28 : decode cX0_tellingSpeed 28 = .ok (.iload 6, 2) := by decide +kernel
theorem dX0_tellingSpeed_30 : decode cX0_tellingSpeed 30 = .ok (.invokevirtual 241, 3) := by decide +kernel
theorem dX0_tellingSpeed_33 : decode cX0_tellingSpeed 33 = .ok (.lstore 7, 2) := by decide +kernel
theorem dX0_tellingSpeed_35 : decode cX0_tellingSpeed 35 = .ok (.iload_n 3, 1) := by decide +kernel
theorem dX0_tellingSpeed_36 : decode cX0_tellingSpeed 36 = .ok (.iconst (-1), 1) := by decide +kernel
theorem dX0_tellingSpeed_37 : decode cX0_tellingSpeed 37 = .ok (.if_icmp .eq 11, 3) := by decide +kernel
theorem dX0_tellingSpeed_40 : decode cX0_tellingSpeed 40 = .ok (.lload 7, 2) := by decide +kernel
theorem dX0_tellingSpeed_42 : decode cX0_tellingSpeed 42 = .ok (.lload 4, 2) := by decide +kernel
theorem dX0_tellingSpeed_44 : decode cX0_tellingSpeed 44 = .ok (.lcmp, 1) := by decide +kernel
theorem dX0_tellingSpeed_45 : decode cX0_tellingSpeed 45 = .ok (.ifCond .le 10, 3) := by decide +kernel
theorem dX0_tellingSpeed_48 : decode cX0_tellingSpeed 48 = .ok (.iload 6, 2) := by decide +kernel
theorem dX0_tellingSpeed_50 : decode cX0_tellingSpeed 50 = .ok (.istore_n 3, 1) := by decide +kernel
theorem dX0_tellingSpeed_51 : decode cX0_tellingSpeed 51 = .ok (.lload 7, 2) := by decide +kernel
theorem dX0_tellingSpeed_53 : decode cX0_tellingSpeed 53 = .ok (.lstore 4, 2) := by decide +kernel
theorem dX0_tellingSpeed_55 : decode cX0_tellingSpeed 55 = .ok (.iinc 6 1, 3) := by decide +kernel
theorem dX0_tellingSpeed_58 : decode cX0_tellingSpeed 58 = .ok (.goto (-40), 3) := by decide +kernel
theorem dX0_tellingSpeed_61 : decode cX0_tellingSpeed 61 = .ok (.iload_n 3, 1) := by decide +kernel
theorem dX0_tellingSpeed_62 : decode cX0_tellingSpeed 62 = .ok (.ireturn, 1) := by decide +kernel
theorem dX0_apartAt_0 : decode cX0_apartAt 0 = .ok (.ldc2_w 245, 3) := by decide +kernel
theorem dX0_apartAt_3 : decode cX0_apartAt 3 = .ok (.lstore 4, 2) := by decide +kernel
theorem dX0_apartAt_5 : decode cX0_apartAt 5 = .ok (.ldc2_w 245, 3) := by decide +kernel
theorem dX0_apartAt_8 : decode cX0_apartAt 8 = .ok (.lstore 6, 2) := by decide +kernel
theorem dX0_apartAt_10 : decode cX0_apartAt 10 = .ok (.iconst 0, 1) := by decide +kernel
theorem dX0_apartAt_11 : decode cX0_apartAt 11 = .ok (.istore 8, 2) := by decide +kernel
theorem dX0_apartAt_13 : decode cX0_apartAt 13 = .ok (.iload 8, 2) := by decide +kernel
theorem dX0_apartAt_15 : decode cX0_apartAt 15 = .ok (.aload_n 1, 1) := by decide +kernel
theorem dX0_apartAt_16 : decode cX0_apartAt 16 = .ok (.invokevirtual 220, 3) := by decide +kernel
theorem dX0_apartAt_19 : decode cX0_apartAt 19 = .ok (.if_icmp .ge 87, 3) := by decide +kernel
theorem dX0_apartAt_22 : decode cX0_apartAt 22 = .ok (.aload_n 1, 1) := by decide +kernel
theorem dX0_apartAt_23 : decode cX0_apartAt 23 = .ok (.iload 8, 2) := by decide +kernel
theorem dX0_apartAt_25 : decode cX0_apartAt 25 = .ok (.invokevirtual 225, 3) := by decide +kernel
theorem dX0_apartAt_28 : decode cX0_apartAt 28 = .ok (.astore 9, 2) := by decide +kernel
theorem dX0_apartAt_30 : decode cX0_apartAt 30 = .ok (.aload 9, 2) := by decide +kernel
theorem dX0_apartAt_32 : decode cX0_apartAt 32 = .ok (.ifnull 68, 3) := by decide +kernel
theorem dX0_apartAt_35 : decode cX0_apartAt 35 = .ok (.iload_n 2, 1) := by decide +kernel
theorem dX0_apartAt_36 : decode cX0_apartAt 36 = .ok (.iload 8, 2) := by decide +kernel
theorem dX0_apartAt_38 : decode cX0_apartAt 38 = .ok (.ishr, 1) := by decide +kernel
theorem dX0_apartAt_39 : decode cX0_apartAt 39 = .ok (.iconst 1, 1) := by decide +kernel
theorem dX0_apartAt_40 : decode cX0_apartAt 40 = .ok (.iand, 1) := by decide +kernel
theorem dX0_apartAt_41 : decode cX0_apartAt 41 = .ok (.iconst 1, 1) := by decide +kernel
theorem dX0_apartAt_42 : decode cX0_apartAt 42 = .ok (.if_icmp .ne 58, 3) := by decide +kernel
theorem dX0_apartAt_45 : decode cX0_apartAt 45 = .ok (.aload_n 0, 1) := by decide +kernel
theorem dX0_apartAt_46 : decode cX0_apartAt 46 = .ok (.aload 9, 2) := by decide +kernel
theorem dX0_apartAt_48 : decode cX0_apartAt 48 = .ok (.aload_n 0, 1) := by decide +kernel
theorem dX0_apartAt_49 : decode cX0_apartAt 49 = .ok (.aload_n 0, 1) := by decide +kernel
theorem dX0_apartAt_50 : decode cX0_apartAt 50 = .ok (.getfield 9, 3) := by decide +kernel
theorem dX0_apartAt_53 : decode cX0_apartAt 53 = .ok (.getfield 47, 3) := by decide +kernel
theorem dX0_apartAt_56 : decode cX0_apartAt 56 = .ok (.getfield 68, 3) := by decide +kernel
theorem dX0_apartAt_59 : decode cX0_apartAt 59 = .ok (.iload_n 3, 1) := by decide +kernel
theorem dX0_apartAt_60 : decode cX0_apartAt 60 = .ok (.invokevirtual 181, 3) := by decide +kernel
theorem dX0_apartAt_63 : decode cX0_apartAt 63 = .ok (.invokevirtual 149, 3) := by decide +kernel
theorem dX0_apartAt_66 : decode cX0_apartAt 66 = .ok (.lstore 10, 2) := by decide +kernel
theorem dX0_apartAt_68 : decode cX0_apartAt 68 = .ok (.lload 4, 2) := by decide +kernel
theorem dX0_apartAt_70 : decode cX0_apartAt 70 = .ok (.ldc2_w 245, 3) := by decide +kernel
theorem dX0_apartAt_73 : decode cX0_apartAt 73 = .ok (.lcmp, 1) := by decide +kernel
theorem dX0_apartAt_74 : decode cX0_apartAt 74 = .ok (.ifCond .ne 8, 3) := by decide +kernel
theorem dX0_apartAt_77 : decode cX0_apartAt 77 = .ok (.lload 10, 2) := by decide +kernel
theorem dX0_apartAt_79 : decode cX0_apartAt 79 = .ok (.goto 10, 3) := by decide +kernel
theorem dX0_apartAt_82 : decode cX0_apartAt 82 = .ok (.lload 4, 2) := by decide +kernel
theorem dX0_apartAt_84 : decode cX0_apartAt 84 = .ok (.lload 10, 2) := by decide +kernel
theorem dX0_apartAt_86 : decode cX0_apartAt 86 = .ok (.invokestatic 166, 3) := by decide +kernel
theorem dX0_apartAt_89 : decode cX0_apartAt 89 = .ok (.lstore 4, 2) := by decide +kernel
theorem dX0_apartAt_91 : decode cX0_apartAt 91 = .ok (.lload 6, 2) := by decide +kernel
theorem dX0_apartAt_93 : decode cX0_apartAt 93 = .ok (.lload 10, 2) := by decide +kernel
theorem dX0_apartAt_95 : decode cX0_apartAt 95 = .ok (.invokestatic 175, 3) := by decide +kernel
theorem dX0_apartAt_98 : decode cX0_apartAt 98 = .ok (.lstore 6, 2) := by decide +kernel
theorem dX0_apartAt_100 : decode cX0_apartAt 100 = .ok (.iinc 8 1, 3) := by decide +kernel
theorem dX0_apartAt_103 : decode cX0_apartAt 103 = .ok (.goto (-90), 3) := by decide +kernel
theorem dX0_apartAt_106 : decode cX0_apartAt 106 = .ok (.lload 6, 2) := by decide +kernel
theorem dX0_apartAt_108 : decode cX0_apartAt 108 = .ok (.lload 4, 2) := by decide +kernel
theorem dX0_apartAt_110 : decode cX0_apartAt 110 = .ok (.lsub, 1) := by decide +kernel
theorem dX0_apartAt_111 : decode cX0_apartAt 111 = .ok (.lreturn, 1) := by decide +kernel
theorem dX0_seekBetter_0 : decode cX0_seekBetter 0 = .ok (.aload_n 0, 1) := by decide +kernel
theorem dX0_seekBetter_1 : decode cX0_seekBetter 1 = .ok (.getfield 9, 3) := by decide +kernel
theorem dX0_seekBetter_4 : decode cX0_seekBetter 4 = .ok (.aload_n 0, 1) := by decide +kernel
theorem dX0_seekBetter_5 : decode cX0_seekBetter 5 = .ok (.getfield 9, 3) := by decide +kernel
theorem dX0_seekBetter_8 : decode cX0_seekBetter 8 = .ok (.getfield 47, 3) := by decide +kernel
theorem dX0_seekBetter_11 : decode cX0_seekBetter 11 = .ok (.getfield 60, 3) := by decide +kernel
theorem dX0_seekBetter_14 : decode cX0_seekBetter 14 = .ok (.invokevirtual 64, 3) := by decide +kernel
theorem dX0_seekBetter_17 : decode cX0_seekBetter 17 = .ok (.astore_n 2, 1) := by decide +kernel
theorem dX0_seekBetter_18 : decode cX0_seekBetter 18 = .ok (.aload_n 2, 1) := by decide +kernel
theorem dX0_seekBetter_19 : decode cX0_seekBetter 19 = .ok (.ifnonnull 5, 3) := by decide +kernel
theorem dX0_seekBetter_22 : decode cX0_seekBetter 22 = .ok (.iconst 0, 1) := by decide +kernel
theorem dX0_seekBetter_23 : decode cX0_seekBetter 23 = .ok (.ireturn, 1) := by decide +kernel
theorem dX0_seekBetter_24 : decode cX0_seekBetter 24 = .ok (.aload_n 0, 1) := by decide +kernel
theorem dX0_seekBetter_25 : decode cX0_seekBetter 25 = .ok (.aload_n 2, 1) := by decide +kernel
theorem dX0_seekBetter_26 : decode cX0_seekBetter 26 = .ok (.iconst 1, 1) := by decide +kernel
theorem dX0_seekBetter_27 : decode cX0_seekBetter 27 = .ok (.iconst 2, 1) := by decide +kernel
theorem dX0_seekBetter_28 : decode cX0_seekBetter 28 = .ok (.invokevirtual 198, 3) := by decide +kernel
theorem dX0_seekBetter_31 : decode cX0_seekBetter 31 = .ok (.istore_n 3, 1) := by decide +kernel
theorem dX0_seekBetter_32 : decode cX0_seekBetter 32 = .ok (.aload_n 0, 1) := by decide +kernel
theorem dX0_seekBetter_33 : decode cX0_seekBetter 33 = .ok (.aload_n 0, 1) := by decide +kernel
theorem dX0_seekBetter_34 : decode cX0_seekBetter 34 = .ok (.aload_n 1, 1) := by decide +kernel
theorem dX0_seekBetter_35 : decode cX0_seekBetter 35 = .ok (.aload_n 0, 1) := by decide +kernel
theorem dX0_seekBetter_36 : decode cX0_seekBetter 36 = .ok (.getfield 9, 3) := by decide +kernel
theorem dX0_seekBetter_39 : decode cX0_seekBetter 39 = .ok (.getfield 47, 3) := by decide +kernel
theorem dX0_seekBetter_42 : decode cX0_seekBetter 42 = .ok (.invokevirtual 149, 3) := by decide +kernel
theorem dX0_seekBetter_45 : decode cX0_seekBetter 45 = .ok (.putfield 247, 3) := by decide +kernel
theorem dX0_seekBetter_48 : decode cX0_seekBetter 48 = .ok (.aload_n 0, 1) := by decide +kernel
theorem dX0_seekBetter_49 : decode cX0_seekBetter 49 = .ok (.iconst (-1), 1) := by decide +kernel
theorem dX0_seekBetter_50 : decode cX0_seekBetter 50 = .ok (.putfield 250, 3) := by decide +kernel
theorem dX0_seekBetter_53 : decode cX0_seekBetter 53 = .ok (.iconst 0, 1) := by decide +kernel
theorem dX0_seekBetter_54 : decode cX0_seekBetter 54 = .ok (.istore 4, 2) := by decide +kernel
theorem dX0_seekBetter_56 : decode cX0_seekBetter 56 = .ok (.iload 4, 2) := by decide +kernel
theorem dX0_seekBetter_58 : decode cX0_seekBetter 58 = .ok (.iconst 2, 1) := by decide +kernel
theorem dX0_seekBetter_59 : decode cX0_seekBetter 59 = .ok (.if_icmp .ge 105, 3) := by decide +kernel
theorem dX0_seekBetter_62 : decode cX0_seekBetter 62 = .ok (.iconst 0, 1) := by decide +kernel
theorem dX0_seekBetter_63 : decode cX0_seekBetter 63 = .ok (.istore 5, 2) := by decide +kernel
theorem dX0_seekBetter_65 : decode cX0_seekBetter 65 = .ok (.iload 5, 2) := by decide +kernel
theorem dX0_seekBetter_67 : decode cX0_seekBetter 67 = .ok (.aload_n 2, 1) := by decide +kernel
theorem dX0_seekBetter_68 : decode cX0_seekBetter 68 = .ok (.getfield 253, 3) := by decide +kernel
theorem dX0_seekBetter_71 : decode cX0_seekBetter 71 = .ok (.if_icmp .ge 87, 3) := by decide +kernel
theorem dX0_seekBetter_74 : decode cX0_seekBetter 74 = .ok (.iconst 0, 1) := by decide +kernel
theorem dX0_seekBetter_75 : decode cX0_seekBetter 75 = .ok (.istore 6, 2) := by decide +kernel
theorem dX0_seekBetter_77 : decode cX0_seekBetter 77 = .ok (.iload 6, 2) := by decide +kernel
theorem dX0_seekBetter_79 : decode cX0_seekBetter 79 = .ok (.aload_n 2, 1) := by decide +kernel
theorem dX0_seekBetter_80 : decode cX0_seekBetter 80 = .ok (.getfield 253, 3) := by decide +kernel
theorem dX0_seekBetter_83 : decode cX0_seekBetter 83 = .ok (.if_icmp .ge 69, 3) := by decide +kernel
theorem dX0_seekBetter_86 : decode cX0_seekBetter 86 = .ok (.aload_n 2, 1) := by decide +kernel
theorem dX0_seekBetter_87 : decode cX0_seekBetter 87 = .ok (.iload 4, 2) := by decide +kernel
theorem dX0_seekBetter_89 : decode cX0_seekBetter 89 = .ok (.iload 5, 2) := by decide +kernel
theorem dX0_seekBetter_91 : decode cX0_seekBetter 91 = .ok (.iload 6, 2) := by decide +kernel
theorem dX0_seekBetter_93 : decode cX0_seekBetter 93 = .ok (.invokevirtual 258, 3) := by decide +kernel
theorem dX0_seekBetter_96 : decode cX0_seekBetter 96 = .ok (.ifCond .eq 50, 3) := by decide +kernel
theorem dX0_seekBetter_99 : decode cX0_seekBetter 99 = .ok (.aload_n 2, 1) := by decide +kernel
theorem dX0_seekBetter_100 : decode cX0_seekBetter 100 = .ok (.iload 4, 2) := by decide +kernel
theorem dX0_seekBetter_102 : decode cX0_seekBetter 102 = .ok (.iload 5, 2) := by decide +kernel
theorem dX0_seekBetter_104 : decode cX0_seekBetter 104 = .ok (.iload 6, 2) := by decide +kernel
theorem dX0_seekBetter_106 : decode cX0_seekBetter 106 = .ok (.invokevirtual 262, 3) := by decide +kernel
theorem dX0_seekBetter_109 : decode cX0_seekBetter 109 = .ok (.aload_n 0, 1) := by decide +kernel
theorem dX0_seekBetter_110 : decode cX0_seekBetter 110 = .ok (.aload_n 1, 1) := by decide +kernel
theorem dX0_seekBetter_111 : decode cX0_seekBetter 111 = .ok (.aload_n 0, 1) := by decide +kernel
theorem dX0_seekBetter_112 : decode cX0_seekBetter 112 = .ok (.aload_n 2, 1) := by decide +kernel
theorem dX0_seekBetter_113 : decode cX0_seekBetter 113 = .ok (.iconst 1, 1) := by decide +kernel
theorem dX0_seekBetter_114 : decode cX0_seekBetter 114 = .ok (.iconst 2, 1) := by decide +kernel
theorem dX0_seekBetter_115 : decode cX0_seekBetter 115 = .ok (.invokevirtual 198, 3) := by decide +kernel
theorem dX0_seekBetter_118 : decode cX0_seekBetter 118 = .ok (.iload_n 3, 1) := by decide +kernel
theorem dX0_seekBetter_119 : decode cX0_seekBetter 119 = .ok (.if_icmp .lt 7, 3) := by decide +kernel
theorem dX0_seekBetter_122 : decode cX0_seekBetter 122 = .ok (.iconst 1, 1) := by decide +kernel
theorem dX0_seekBetter_123 : decode cX0_seekBetter 123 = .ok (.goto 4, 3) := by decide +kernel
theorem dX0_seekBetter_126 : decode cX0_seekBetter 126 = .ok (.iconst 0, 1) := by decide +kernel
theorem dX0_seekBetter_127 : decode cX0_seekBetter 127 = .ok (.iload 4, 2) := by decide +kernel
theorem dX0_seekBetter_129 : decode cX0_seekBetter 129 = .ok (.iload 5, 2) := by decide +kernel
theorem dX0_seekBetter_131 : decode cX0_seekBetter 131 = .ok (.iload 6, 2) := by decide +kernel
theorem dX0_seekBetter_133 : decode cX0_seekBetter 133 = .ok (.invokevirtual 266, 3) := by decide +kernel
theorem dX0_seekBetter_136 : decode cX0_seekBetter 136 = .ok (.aload_n 2, 1) := by decide +kernel
theorem dX0_seekBetter_137 : decode cX0_seekBetter 137 = .ok (.iload 4, 2) := by decide +kernel
theorem dX0_seekBetter_139 : decode cX0_seekBetter 139 = .ok (.iload 6, 2) := by decide +kernel
theorem dX0_seekBetter_141 : decode cX0_seekBetter 141 = .ok (.iload 5, 2) := by decide +kernel
theorem dX0_seekBetter_143 : decode cX0_seekBetter 143 = .ok (.invokevirtual 262, 3) := by decide +kernel
theorem dX0_seekBetter_146 : decode cX0_seekBetter 146 = .ok (.iinc 6 1, 3) := by decide +kernel
theorem dX0_seekBetter_149 : decode cX0_seekBetter 149 = .ok (.goto (-72), 3) := by decide +kernel
theorem dX0_seekBetter_152 : decode cX0_seekBetter 152 = .ok (.iinc 5 1, 3) := by decide +kernel
theorem dX0_seekBetter_155 : decode cX0_seekBetter 155 = .ok (.goto (-90), 3) := by decide +kernel
theorem dX0_seekBetter_158 : decode cX0_seekBetter 158 = .ok (.iinc 4 1, 3) := by decide +kernel
theorem dX0_seekBetter_161 : decode cX0_seekBetter 161 = .ok (.goto (-105), 3) := by decide +kernel
theorem dX0_seekBetter_164 : decode cX0_seekBetter 164 = .ok (.aload_n 0, 1) := by decide +kernel
theorem dX0_seekBetter_165 : decode cX0_seekBetter 165 = .ok (.getfield 250, 3) := by decide +kernel
theorem dX0_seekBetter_168 : decode cX0_seekBetter 168 = .ok (.iconst (-1), 1) := by decide +kernel
theorem dX0_seekBetter_169 : decode cX0_seekBetter 169 = .ok (.if_icmp .eq 7, 3) := by decide +kernel
theorem dX0_seekBetter_172 : decode cX0_seekBetter 172 = .ok (.iconst 1, 1) := by decide +kernel
theorem dX0_seekBetter_173 : decode cX0_seekBetter 173 = .ok (.goto 4, 3) := by decide +kernel
theorem dX0_seekBetter_176 : decode cX0_seekBetter 176 = .ok (.iconst 0, 1) := by decide +kernel
theorem dX0_seekBetter_177 : decode cX0_seekBetter 177 = .ok (.ireturn, 1) := by decide +kernel
theorem dX0_weigh_0 : decode cX0_weigh 0 = .ok (.iload_n 2, 1) := by decide +kernel
theorem dX0_weigh_1 : decode cX0_weigh 1 = .ok (.ifCond .ne 4, 3) := by decide +kernel
theorem dX0_weigh_4 : decode cX0_weigh 4 = .ok (.return_, 1) := by decide +kernel
theorem dX0_weigh_5 : decode cX0_weigh 5 = .ok (.aload_n 0, 1) := by decide +kernel
theorem dX0_weigh_6 : decode cX0_weigh 6 = .ok (.aload_n 1, 1) := by decide +kernel
theorem dX0_weigh_7 : decode cX0_weigh 7 = .ok (.aload_n 0, 1) := by decide +kernel
theorem dX0_weigh_8 : decode cX0_weigh 8 = .ok (.getfield 9, 3) := by decide +kernel
theorem dX0_weigh_11 : decode cX0_weigh 11 = .ok (.getfield 47, 3) := by decide +kernel
theorem dX0_weigh_14 : decode cX0_weigh 14 = .ok (.invokevirtual 149, 3) := by decide +kernel
theorem dX0_weigh_17 : decode cX0_weigh 17 = .ok (.lstore 6, 2) := by decide +kernel
theorem dX0_weigh_19 : decode cX0_weigh 19 = .ok (.lload 6, 2) := by decide +kernel
theorem dX0_weigh_21 : decode cX0_weigh 21 = .ok (.aload_n 0, 1) := by decide +kernel
theorem dX0_weigh_22 : decode cX0_weigh 22 = .ok (.getfield 247, 3) := by decide +kernel
theorem dX0_weigh_25 : decode cX0_weigh 25 = .ok (.lcmp, 1) := by decide +kernel
theorem dX0_weigh_26 : decode cX0_weigh 26 = .ok (.ifCond .ge 26, 3) := by decide +kernel
theorem dX0_weigh_29 : decode cX0_weigh 29 = .ok (.aload_n 0, 1) := by decide +kernel
theorem dX0_weigh_30 : decode cX0_weigh 30 = .ok (.lload 6, 2) := by decide +kernel
theorem dX0_weigh_32 : decode cX0_weigh 32 = .ok (.putfield 247, 3) := by decide +kernel
theorem dX0_weigh_35 : decode cX0_weigh 35 = .ok (.aload_n 0, 1) := by decide +kernel
theorem dX0_weigh_36 : decode cX0_weigh 36 = .ok (.iload_n 3, 1) := by decide +kernel
theorem dX0_weigh_37 : decode cX0_weigh 37 = .ok (.putfield 250, 3) := by decide +kernel
theorem dX0_weigh_40 : decode cX0_weigh 40 = .ok (.aload_n 0, 1) := by decide +kernel
theorem dX0_weigh_41 : decode cX0_weigh 41 = .ok (.iload 4, 2) := by decide +kernel
theorem dX0_weigh_43 : decode cX0_weigh 43 = .ok (.putfield 270, 3) := by decide +kernel
theorem dX0_weigh_46 : decode cX0_weigh 46 = .ok (.aload_n 0, 1) := by decide +kernel
theorem dX0_weigh_47 : decode cX0_weigh 47 = .ok (.iload 5, 2) := by decide +kernel
theorem dX0_weigh_49 : decode cX0_weigh 49 = .ok (.putfield 273, 3) := by decide +kernel
theorem dX0_weigh_52 : decode cX0_weigh 52 = .ok (.return_, 1) := by decide +kernel
theorem dX0_betterPart_0 : decode cX0_betterPart 0 = .ok (.iload_n 1, 1) := by decide +kernel
theorem dX0_betterPart_1 : decode cX0_betterPart 1 = .ok (.tableswitch 45 0 2 #[27, 33, 39], 27) := by decide +kernel
theorem dX0_betterPart_28 : decode cX0_betterPart 28 = .ok (.aload_n 0, 1) := by decide +kernel
theorem dX0_betterPart_29 : decode cX0_betterPart 29 = .ok (.getfield 250, 3) := by decide +kernel
theorem dX0_betterPart_32 : decode cX0_betterPart 32 = .ok (.i2l, 1) := by decide +kernel
theorem dX0_betterPart_33 : decode cX0_betterPart 33 = .ok (.lreturn, 1) := by decide +kernel
theorem dX0_betterPart_34 : decode cX0_betterPart 34 = .ok (.aload_n 0, 1) := by decide +kernel
theorem dX0_betterPart_35 : decode cX0_betterPart 35 = .ok (.getfield 270, 3) := by decide +kernel
theorem dX0_betterPart_38 : decode cX0_betterPart 38 = .ok (.i2l, 1) := by decide +kernel
theorem dX0_betterPart_39 : decode cX0_betterPart 39 = .ok (.lreturn, 1) := by decide +kernel
theorem dX0_betterPart_40 : decode cX0_betterPart 40 = .ok (.aload_n 0, 1) := by decide +kernel
theorem dX0_betterPart_41 : decode cX0_betterPart 41 = .ok (.getfield 273, 3) := by decide +kernel
theorem dX0_betterPart_44 : decode cX0_betterPart 44 = .ok (.i2l, 1) := by decide +kernel
theorem dX0_betterPart_45 : decode cX0_betterPart 45 = .ok (.lreturn, 1) := by decide +kernel
theorem dX0_betterPart_46 : decode cX0_betterPart 46 = .ok (.aload_n 0, 1) := by decide +kernel
theorem dX0_betterPart_47 : decode cX0_betterPart 47 = .ok (.getfield 247, 3) := by decide +kernel
theorem dX0_betterPart_50 : decode cX0_betterPart 50 = .ok (.lreturn, 1) := by decide +kernel
theorem dX0_makeBetter_0 : decode cX0_makeBetter 0 = .ok (.aload_n 0, 1) := by decide +kernel
theorem dX0_makeBetter_1 : decode cX0_makeBetter 1 = .ok (.getfield 9, 3) := by decide +kernel
theorem dX0_makeBetter_4 : decode cX0_makeBetter 4 = .ok (.aload_n 0, 1) := by decide +kernel
theorem dX0_makeBetter_5 : decode cX0_makeBetter 5 = .ok (.getfield 9, 3) := by decide +kernel
theorem dX0_makeBetter_8 : decode cX0_makeBetter 8 = .ok (.getfield 47, 3) := by decide +kernel
theorem dX0_makeBetter_11 : decode cX0_makeBetter 11 = .ok (.getfield 60, 3) := by decide +kernel
theorem dX0_makeBetter_14 : decode cX0_makeBetter 14 = .ok (.invokevirtual 64, 3) := by decide +kernel
theorem dX0_makeBetter_17 : decode cX0_makeBetter 17 = .ok (.astore_n 1, 1) := by decide +kernel
theorem dX0_makeBetter_18 : decode cX0_makeBetter 18 = .ok (.aload_n 1, 1) := by decide +kernel
theorem dX0_makeBetter_19 : decode cX0_makeBetter 19 = .ok (.ifnull 19, 3) := by decide +kernel
theorem dX0_makeBetter_22 : decode cX0_makeBetter 22 = .ok (.aload_n 1, 1) := by decide +kernel
theorem dX0_makeBetter_23 : decode cX0_makeBetter 23 = .ok (.aload_n 0, 1) := by decide +kernel
theorem dX0_makeBetter_24 : decode cX0_makeBetter 24 = .ok (.getfield 250, 3) := by decide +kernel
theorem dX0_makeBetter_27 : decode cX0_makeBetter 27 = .ok (.aload_n 0, 1) := by decide +kernel
theorem dX0_makeBetter_28 : decode cX0_makeBetter 28 = .ok (.getfield 270, 3) := by decide +kernel
theorem dX0_makeBetter_31 : decode cX0_makeBetter 31 = .ok (.aload_n 0, 1) := by decide +kernel
theorem dX0_makeBetter_32 : decode cX0_makeBetter 32 = .ok (.getfield 273, 3) := by decide +kernel
theorem dX0_makeBetter_35 : decode cX0_makeBetter 35 = .ok (.invokevirtual 262, 3) := by decide +kernel
theorem dX0_makeBetter_38 : decode cX0_makeBetter 38 = .ok (.return_, 1) := by decide +kernel
theorem dX1_init_0 : decode cX1_init 0 = .ok (.aload_n 0, 1) := by decide +kernel
theorem dX1_init_1 : decode cX1_init 1 = .ok (.invokespecial 3, 3) := by decide +kernel
theorem dX1_init_4 : decode cX1_init 4 = .ok (.aload_n 0, 1) := by decide +kernel
theorem dX1_init_5 : decode cX1_init 5 = .ok (.bipush 12, 2) := by decide +kernel
theorem dX1_init_7 : decode cX1_init 7 = .ok (.newarray .int, 2) := by decide +kernel
theorem dX1_init_9 : decode cX1_init 9 = .ok (.putfield 9, 3) := by decide +kernel
theorem dX1_init_12 : decode cX1_init 12 = .ok (.aload_n 0, 1) := by decide +kernel
theorem dX1_init_13 : decode cX1_init 13 = .ok (.bipush 12, 2) := by decide +kernel
theorem dX1_init_15 : decode cX1_init 15 = .ok (.newarray .int, 2) := by decide +kernel
theorem dX1_init_17 : decode cX1_init 17 = .ok (.putfield 15, 3) := by decide +kernel
theorem dX1_init_20 : decode cX1_init 20 = .ok (.return_, 1) := by decide +kernel
theorem dX1_lay_0 : decode cX1_lay 0 = .ok (.aload_n 0, 1) := by decide +kernel
theorem dX1_lay_1 : decode cX1_lay 1 = .ok (.iload_n 1, 1) := by decide +kernel
theorem dX1_lay_2 : decode cX1_lay 2 = .ok (.putfield 18, 3) := by decide +kernel
theorem dX1_lay_5 : decode cX1_lay 5 = .ok (.aload_n 0, 1) := by decide +kernel
theorem dX1_lay_6 : decode cX1_lay 6 = .ok (.iload_n 2, 1) := by decide +kernel
theorem dX1_lay_7 : decode cX1_lay 7 = .ok (.putfield 22, 3) := by decide +kernel
theorem dX1_lay_10 : decode cX1_lay 10 = .ok (.aload_n 0, 1) := by decide +kernel
theorem dX1_lay_11 : decode cX1_lay 11 = .ok (.getfield 9, 3) := by decide +kernel
theorem dX1_lay_14 : decode cX1_lay 14 = .ok (.bipush 10, 2) := by decide +kernel
theorem dX1_lay_16 : decode cX1_lay 16 = .ok (.invokestatic 25, 3) := by decide +kernel
theorem dX1_lay_19 : decode cX1_lay 19 = .ok (.aload_n 0, 1) := by decide +kernel
theorem dX1_lay_20 : decode cX1_lay 20 = .ok (.getfield 15, 3) := by decide +kernel
theorem dX1_lay_23 : decode cX1_lay 23 = .ok (.iconst 5, 1) := by decide +kernel
theorem dX1_lay_24 : decode cX1_lay 24 = .ok (.invokestatic 25, 3) := by decide +kernel
theorem dX1_lay_27 : decode cX1_lay 27 = .ok (.return_, 1) := by decide +kernel
theorem dX1_hasStation_0 : decode cX1_hasStation 0 = .ok (.iload_n 1, 1) := by decide +kernel
theorem dX1_hasStation_1 : decode cX1_hasStation 1 = .ok (.ifCond .lt 21, 3) := by decide +kernel
theorem dX1_hasStation_4 : decode cX1_hasStation 4 = .ok (.iload_n 1, 1) := by decide +kernel
theorem dX1_hasStation_5 : decode cX1_hasStation 5 = .ok (.aload_n 0, 1) := by decide +kernel
theorem dX1_hasStation_6 : decode cX1_hasStation 6 = .ok (.getfield 22, 3) := by decide +kernel
theorem dX1_hasStation_9 : decode cX1_hasStation 9 = .ok (.if_icmp .ge 13, 3) := by decide +kernel
theorem dX1_hasStation_12 : decode cX1_hasStation 12 = .ok (.iload_n 1, 1) := by decide +kernel
theorem dX1_hasStation_13 : decode cX1_hasStation 13 = .ok (.bipush 12, 2) := by decide +kernel
theorem dX1_hasStation_15 : decode cX1_hasStation 15 = .ok (.if_icmp .ge 7, 3) := by decide +kernel
theorem dX1_hasStation_18 : decode cX1_hasStation 18 = .ok (.iconst 1, 1) := by decide +kernel
theorem dX1_hasStation_19 : decode cX1_hasStation 19 = .ok (.goto 4, 3) := by decide +kernel
theorem dX1_hasStation_22 : decode cX1_hasStation 22 = .ok (.iconst 0, 1) := by decide +kernel
theorem dX1_hasStation_23 : decode cX1_hasStation 23 = .ok (.ireturn, 1) := by decide +kernel
theorem dX1_beamAt_0 : decode cX1_beamAt 0 = .ok (.aload_n 0, 1) := by decide +kernel
theorem dX1_beamAt_1 : decode cX1_beamAt 1 = .ok (.iload_n 1, 1) := by decide +kernel
theorem dX1_beamAt_2 : decode cX1_beamAt 2 = .ok (.invokevirtual 31, 3) := by decide +kernel
theorem dX1_beamAt_5 : decode cX1_beamAt 5 = .ok (.ifCond .eq 12, 3) := by decide +kernel
theorem dX1_beamAt_8 : decode cX1_beamAt 8 = .ok (.aload_n 0, 1) := by decide +kernel
theorem dX1_beamAt_9 : decode cX1_beamAt 9 = .ok (.getfield 9, 3) := by decide +kernel
theorem dX1_beamAt_12 : decode cX1_beamAt 12 = .ok (.iload_n 1, 1) := by decide +kernel
theorem dX1_beamAt_13 : decode cX1_beamAt 13 = .ok (.iaload, 1) := by decide +kernel
theorem dX1_beamAt_14 : decode cX1_beamAt 14 = .ok (.goto 4, 3) := by decide +kernel
theorem dX1_beamAt_17 : decode cX1_beamAt 17 = .ok (.iconst 0, 1) := by decide +kernel
theorem dX1_beamAt_18 : decode cX1_beamAt 18 = .ok (.ireturn, 1) := by decide +kernel
theorem dX1_draftAt_0 : decode cX1_draftAt 0 = .ok (.aload_n 0, 1) := by decide +kernel
theorem dX1_draftAt_1 : decode cX1_draftAt 1 = .ok (.iload_n 1, 1) := by decide +kernel
theorem dX1_draftAt_2 : decode cX1_draftAt 2 = .ok (.invokevirtual 31, 3) := by decide +kernel
theorem dX1_draftAt_5 : decode cX1_draftAt 5 = .ok (.ifCond .eq 12, 3) := by decide +kernel
theorem dX1_draftAt_8 : decode cX1_draftAt 8 = .ok (.aload_n 0, 1) := by decide +kernel
theorem dX1_draftAt_9 : decode cX1_draftAt 9 = .ok (.getfield 15, 3) := by decide +kernel
theorem dX1_draftAt_12 : decode cX1_draftAt 12 = .ok (.iload_n 1, 1) := by decide +kernel
theorem dX1_draftAt_13 : decode cX1_draftAt 13 = .ok (.iaload, 1) := by decide +kernel
theorem dX1_draftAt_14 : decode cX1_draftAt 14 = .ok (.goto 4, 3) := by decide +kernel
theorem dX1_draftAt_17 : decode cX1_draftAt 17 = .ok (.iconst 0, 1) := by decide +kernel
theorem dX1_draftAt_18 : decode cX1_draftAt 18 = .ok (.ireturn, 1) := by decide +kernel
theorem dX1_shape_0 : decode cX1_shape 0 = .ok (.aload_n 0, 1) := by decide +kernel
theorem dX1_shape_1 : decode cX1_shape 1 = .ok (.iload_n 1, 1) := by decide +kernel
theorem dX1_shape_2 : decode cX1_shape 2 = .ok (.invokevirtual 31, 3) := by decide +kernel
theorem dX1_shape_5 : decode cX1_shape 5 = .ok (.ifCond .eq 17, 3) := by decide +kernel
theorem dX1_shape_8 : decode cX1_shape 8 = .ok (.aload_n 0, 1) := by decide +kernel
theorem dX1_shape_9 : decode cX1_shape 9 = .ok (.getfield 9, 3) := by decide +kernel
theorem dX1_shape_12 : decode cX1_shape 12 = .ok (.iload_n 1, 1) := by decide +kernel
theorem dX1_shape_13 : decode cX1_shape 13 = .ok (.iload_n 2, 1) := by decide +kernel
theorem dX1_shape_14 : decode cX1_shape 14 = .ok (.iastore, 1) := by decide +kernel
theorem dX1_shape_15 : decode cX1_shape 15 = .ok (.aload_n 0, 1) := by decide +kernel
theorem dX1_shape_16 : decode cX1_shape 16 = .ok (.getfield 15, 3) := by decide +kernel
theorem dX1_shape_19 : decode cX1_shape 19 = .ok (.iload_n 1, 1) := by decide +kernel
theorem dX1_shape_20 : decode cX1_shape 20 = .ok (.iload_n 3, 1) := by decide +kernel
theorem dX1_shape_21 : decode cX1_shape 21 = .ok (.iastore, 1) := by decide +kernel
theorem dX1_shape_22 : decode cX1_shape 22 = .ok (.return_, 1) := by decide +kernel
theorem dX1_canExchange_0 : decode cX1_canExchange 0 = .ok (.iload_n 2, 1) := by decide +kernel
theorem dX1_canExchange_1 : decode cX1_canExchange 1 = .ok (.iload_n 3, 1) := by decide +kernel
theorem dX1_canExchange_2 : decode cX1_canExchange 2 = .ok (.if_icmp .eq 19, 3) := by decide +kernel
theorem dX1_canExchange_5 : decode cX1_canExchange 5 = .ok (.aload_n 0, 1) := by decide +kernel
theorem dX1_canExchange_6 : decode cX1_canExchange 6 = .ok (.iload_n 2, 1) := by decide +kernel
theorem dX1_canExchange_7 : decode cX1_canExchange 7 = .ok (.invokevirtual 31, 3) := by decide +kernel
theorem dX1_canExchange_10 : decode cX1_canExchange 10 = .ok (.ifCond .eq 11, 3) := by decide +kernel
theorem dX1_canExchange_13 : decode cX1_canExchange 13 = .ok (.aload_n 0, 1) := by decide +kernel
theorem dX1_canExchange_14 : decode cX1_canExchange 14 = .ok (.iload_n 3, 1) := by decide +kernel
theorem dX1_canExchange_15 : decode cX1_canExchange 15 = .ok (.invokevirtual 31, 3) := by decide +kernel
theorem dX1_canExchange_18 : decode cX1_canExchange 18 = .ok (.ifCond .ne 5, 3) := by decide +kernel
theorem dX1_canExchange_21 : decode cX1_canExchange 21 = .ok (.iconst 0, 1) := by decide +kernel
theorem dX1_canExchange_22 : decode cX1_canExchange 22 = .ok (.ireturn, 1) := by decide +kernel
theorem dX1_canExchange_23 : decode cX1_canExchange 23 = .ok (.iload_n 1, 1) := by decide +kernel
theorem dX1_canExchange_24 : decode cX1_canExchange 24 = .ok (.ifCond .ne 10, 3) := by decide +kernel
theorem dX1_canExchange_27 : decode cX1_canExchange 27 = .ok (.aload_n 0, 1) := by decide +kernel
theorem dX1_canExchange_28 : decode cX1_canExchange 28 = .ok (.getfield 9, 3) := by decide +kernel
theorem dX1_canExchange_31 : decode cX1_canExchange 31 = .ok (.goto 7, 3) := by decide +kernel
theorem dX1_canExchange_34 : decode cX1_canExchange 34 = .ok (.aload_n 0, 1) := by decide +kernel
theorem dX1_canExchange_35 : decode cX1_canExchange 35 = .ok (.getfield 15, 3) := by decide +kernel
theorem dX1_canExchange_38 : decode cX1_canExchange 38 = .ok (.astore 4, 2) := by decide +kernel
theorem dX1_canExchange_40 : decode cX1_canExchange 40 = .ok (.aload 4, 2) := by decide +kernel
theorem dX1_canExchange_42 : decode cX1_canExchange 42 = .ok (.iload_n 2, 1) := by decide +kernel
theorem dX1_canExchange_43 : decode cX1_canExchange 43 = .ok (.iaload, 1) := by decide +kernel
theorem dX1_canExchange_44 : decode cX1_canExchange 44 = .ok (.ifCond .le 16, 3) := by decide +kernel
theorem dX1_canExchange_47 : decode cX1_canExchange 47 = .ok (.aload 4, 2) := by decide +kernel
theorem dX1_canExchange_49 : decode cX1_canExchange 49 = .ok (.iload_n 3, 1) := by decide +kernel
theorem dX1_canExchange_50 : decode cX1_canExchange 50 = .ok (.iaload, 1) := by decide +kernel
theorem dX1_canExchange_51 : decode cX1_canExchange 51 = .ok (.bipush 60, 2) := by decide +kernel
theorem dX1_canExchange_53 : decode cX1_canExchange 53 = .ok (.if_icmp .ge 7, 3) := by decide +kernel
theorem dX1_canExchange_56 : decode cX1_canExchange 56 = .ok (.iconst 1, 1) := by decide +kernel
theorem dX1_canExchange_57 : decode cX1_canExchange 57 = .ok (.goto 4, 3) := by decide +kernel
theorem dX1_canExchange_60 : decode cX1_canExchange 60 = .ok (.iconst 0, 1) := by decide +kernel
theorem dX1_canExchange_61 : decode cX1_canExchange 61 = .ok (.ireturn, 1) := by decide +kernel
theorem dX1_exchange_0 : decode cX1_exchange 0 = .ok (.aload_n 0, 1) := by decide +kernel
theorem dX1_exchange_1 : decode cX1_exchange 1 = .ok (.iload_n 1, 1) := by decide +kernel
theorem dX1_exchange_2 : decode cX1_exchange 2 = .ok (.iload_n 2, 1) := by decide +kernel
theorem dX1_exchange_3 : decode cX1_exchange 3 = .ok (.iload_n 3, 1) := by decide +kernel
theorem dX1_exchange_4 : decode cX1_exchange 4 = .ok (.invokevirtual 35, 3) := by decide +kernel
theorem dX1_exchange_7 : decode cX1_exchange 7 = .ok (.ifCond .eq 36, 3) := by decide +kernel
theorem dX1_exchange_10 : decode cX1_exchange 10 = .ok (.iload_n 1, 1) := by decide +kernel
theorem dX1_exchange_11 : decode cX1_exchange 11 = .ok (.ifCond .ne 10, 3) := by decide +kernel
theorem dX1_exchange_14 : decode cX1_exchange 14 = .ok (.aload_n 0, 1) := by decide +kernel
theorem dX1_exchange_15 : decode cX1_exchange 15 = .ok (.getfield 9, 3) := by decide +kernel
theorem dX1_exchange_18 : decode cX1_exchange 18 = .ok (.goto 7, 3) := by decide +kernel
theorem dX1_exchange_21 : decode cX1_exchange 21 = .ok (.aload_n 0, 1) := by decide +kernel
theorem dX1_exchange_22 : decode cX1_exchange 22 = .ok (.getfield 15, 3) := by decide +kernel
theorem dX1_exchange_25 : decode cX1_exchange 25 = .ok (.astore 4, 2) := by decide +kernel
theorem dX1_exchange_27 : decode cX1_exchange 27 = .ok (.aload 4, 2) := by decide +kernel
theorem dX1_exchange_29 : decode cX1_exchange 29 = .ok (.iload_n 2, 1) := by decide +kernel
theorem dX1_exchange_30 : decode cX1_exchange 30 = .ok (.dup2, 1) := by decide +kernel
theorem dX1_exchange_31 : decode cX1_exchange 31 = .ok (.iaload, 1) := by decide +kernel
theorem dX1_exchange_32 : decode cX1_exchange 32 = .ok (.iconst 1, 1) := by decide +kernel
theorem dX1_exchange_33 : decode cX1_exchange 33 = .ok (.isub, 1) := by decide +kernel
theorem dX1_exchange_34 : decode cX1_exchange 34 = .ok (.iastore, 1) := by decide +kernel
theorem dX1_exchange_35 : decode cX1_exchange 35 = .ok (.aload 4, 2) := by decide +kernel
theorem dX1_exchange_37 : decode cX1_exchange 37 = .ok (.iload_n 3, 1) := by decide +kernel
theorem dX1_exchange_38 : decode cX1_exchange 38 = .ok (.dup2, 1) := by decide +kernel
theorem dX1_exchange_39 : decode cX1_exchange 39 = .ok (.iaload, 1) := by decide +kernel
theorem dX1_exchange_40 : decode cX1_exchange 40 = .ok (.iconst 1, 1) := by decide +kernel
theorem dX1_exchange_41 : decode cX1_exchange 41 = .ok (.iadd, 1) := by decide +kernel
theorem dX1_exchange_42 : decode cX1_exchange 42 = .ok (.iastore, 1) := by decide +kernel
theorem dX1_exchange_43 : decode cX1_exchange 43 = .ok (.return_, 1) := by decide +kernel
theorem dX1_copyFrom_0 : decode cX1_copyFrom 0 = .ok (.aload_n 0, 1) := by decide +kernel
theorem dX1_copyFrom_1 : decode cX1_copyFrom 1 = .ok (.aload_n 1, 1) := by decide +kernel
theorem dX1_copyFrom_2 : decode cX1_copyFrom 2 = .ok (.getfield 18, 3) := by decide +kernel
theorem dX1_copyFrom_5 : decode cX1_copyFrom 5 = .ok (.putfield 18, 3) := by decide +kernel
theorem dX1_copyFrom_8 : decode cX1_copyFrom 8 = .ok (.aload_n 0, 1) := by decide +kernel
theorem dX1_copyFrom_9 : decode cX1_copyFrom 9 = .ok (.aload_n 1, 1) := by decide +kernel
theorem dX1_copyFrom_10 : decode cX1_copyFrom 10 = .ok (.getfield 22, 3) := by decide +kernel
theorem dX1_copyFrom_13 : decode cX1_copyFrom 13 = .ok (.putfield 22, 3) := by decide +kernel
theorem dX1_copyFrom_16 : decode cX1_copyFrom 16 = .ok (.aload_n 1, 1) := by decide +kernel
theorem dX1_copyFrom_17 : decode cX1_copyFrom 17 = .ok (.getfield 9, 3) := by decide +kernel
theorem dX1_copyFrom_20 : decode cX1_copyFrom 20 = .ok (.iconst 0, 1) := by decide +kernel
theorem dX1_copyFrom_21 : decode cX1_copyFrom 21 = .ok (.aload_n 0, 1) := by decide +kernel
theorem dX1_copyFrom_22 : decode cX1_copyFrom 22 = .ok (.getfield 9, 3) := by decide +kernel
theorem dX1_copyFrom_25 : decode cX1_copyFrom 25 = .ok (.iconst 0, 1) := by decide +kernel
theorem dX1_copyFrom_26 : decode cX1_copyFrom 26 = .ok (.bipush 12, 2) := by decide +kernel
theorem dX1_copyFrom_28 : decode cX1_copyFrom 28 = .ok (.invokestatic 39, 3) := by decide +kernel
theorem dX1_copyFrom_31 : decode cX1_copyFrom 31 = .ok (.aload_n 1, 1) := by decide +kernel
theorem dX1_copyFrom_32 : decode cX1_copyFrom 32 = .ok (.getfield 15, 3) := by decide +kernel
theorem dX1_copyFrom_35 : decode cX1_copyFrom 35 = .ok (.iconst 0, 1) := by decide +kernel
theorem dX1_copyFrom_36 : decode cX1_copyFrom 36 = .ok (.aload_n 0, 1) := by decide +kernel
theorem dX1_copyFrom_37 : decode cX1_copyFrom 37 = .ok (.getfield 15, 3) := by decide +kernel
theorem dX1_copyFrom_40 : decode cX1_copyFrom 40 = .ok (.iconst 0, 1) := by decide +kernel
theorem dX1_copyFrom_41 : decode cX1_copyFrom 41 = .ok (.bipush 12, 2) := by decide +kernel
theorem dX1_copyFrom_43 : decode cX1_copyFrom 43 = .ok (.invokestatic 39, 3) := by decide +kernel
theorem dX1_copyFrom_46 : decode cX1_copyFrom 46 = .ok (.return_, 1) := by decide +kernel
theorem dX2_init_0 : decode cX2_init 0 = .ok (.aload_n 0, 1) := by decide +kernel
theorem dX2_init_1 : decode cX2_init 1 = .ok (.invokespecial 3, 3) := by decide +kernel
theorem dX2_init_4 : decode cX2_init 4 = .ok (.return_, 1) := by decide +kernel
theorem dX2_measure_0 : decode cX2_measure 0 = .ok (.iconst 0, 1) := by decide +kernel
theorem dX2_measure_1 : decode cX2_measure 1 = .ok (.istore_n 3, 1) := by decide +kernel
theorem dX2_measure_2 : decode cX2_measure 2 = .ok (.iconst 0, 1) := by decide +kernel
theorem dX2_measure_3 : decode cX2_measure 3 = .ok (.istore 4, 2) := by decide +kernel
theorem dX2_measure_5 : decode cX2_measure 5 = .ok (.iconst 0, 1) := by decide +kernel
theorem dX2_measure_6 : decode cX2_measure 6 = .ok (.istore 5, 2) := by decide +kernel
theorem dX2_measure_8 : decode cX2_measure 8 = .ok (.iconst 0, 1) := by decide +kernel
theorem dX2_measure_9 : decode cX2_measure 9 = .ok (.istore 6, 2) := by decide +kernel
theorem dX2_measure_11 : decode cX2_measure 11 = .ok (.iconst 0, 1) := by decide +kernel
theorem dX2_measure_12 : decode cX2_measure 12 = .ok (.istore 7, 2) := by decide +kernel
theorem dX2_measure_14 : decode cX2_measure 14 = .ok (.iconst 0, 1) := by decide +kernel
theorem dX2_measure_15 : decode cX2_measure 15 = .ok (.istore 8, 2) := by decide +kernel
theorem dX2_measure_17 : decode cX2_measure 17 = .ok (.iload 8, 2) := by decide +kernel
theorem dX2_measure_19 : decode cX2_measure 19 = .ok (.aload_n 1, 1) := by decide +kernel
theorem dX2_measure_20 : decode cX2_measure 20 = .ok (.getfield 9, 3) := by decide +kernel
theorem dX2_measure_23 : decode cX2_measure 23 = .ok (.if_icmp .ge 84, 3) := by decide +kernel
theorem dX2_measure_26 : decode cX2_measure 26 = .ok (.iload 8, 2) := by decide +kernel
theorem dX2_measure_28 : decode cX2_measure 28 = .ok (.bipush 12, 2) := by decide +kernel
theorem dX2_measure_30 : decode cX2_measure 30 = .ok (.if_icmp .ge 77, 3) := by decide +kernel
theorem dX2_measure_33 : decode cX2_measure 33 = .ok (.aload_n 1, 1) := by decide +kernel
theorem dX2_measure_34 : decode cX2_measure 34 = .ok (.getfield 15, 3) := by decide +kernel
theorem dX2_measure_37 : decode cX2_measure 37 = .ok (.iload 8, 2) := by decide +kernel
theorem dX2_measure_39 : decode cX2_measure 39 = .ok (.iaload, 1) := by decide +kernel
theorem dX2_measure_40 : decode cX2_measure 40 = .ok (.istore 9, 2) := by decide +kernel
theorem dX2_measure_42 : decode cX2_measure 42 = .ok (.aload_n 1, 1) := by decide +kernel
theorem dX2_measure_43 : decode cX2_measure 43 = .ok (.getfield 19, 3) := by decide +kernel
theorem dX2_measure_46 : decode cX2_measure 46 = .ok (.iload 8, 2) := by decide +kernel
theorem dX2_measure_48 : decode cX2_measure 48 = .ok (.iaload, 1) := by decide +kernel
theorem dX2_measure_49 : decode cX2_measure 49 = .ok (.istore 10, 2) := by decide +kernel
theorem dX2_measure_51 : decode cX2_measure 51 = .ok (.iload_n 3, 1) := by decide +kernel
theorem dX2_measure_52 : decode cX2_measure 52 = .ok (.iload 9, 2) := by decide +kernel
theorem dX2_measure_54 : decode cX2_measure 54 = .ok (.iconst 2, 1) := by decide +kernel
theorem dX2_measure_55 : decode cX2_measure 55 = .ok (.iload 10, 2) := by decide +kernel
theorem dX2_measure_57 : decode cX2_measure 57 = .ok (.imul, 1) := by decide +kernel
theorem dX2_measure_58 : decode cX2_measure 58 = .ok (.iadd, 1) := by decide +kernel
theorem dX2_measure_59 : decode cX2_measure 59 = .ok (.iadd, 1) := by decide +kernel
theorem dX2_measure_60 : decode cX2_measure 60 = .ok (.istore_n 3, 1) := by decide +kernel
theorem dX2_measure_61 : decode cX2_measure 61 = .ok (.iload 4, 2) := by decide +kernel
theorem dX2_measure_63 : decode cX2_measure 63 = .ok (.iload 9, 2) := by decide +kernel
theorem dX2_measure_65 : decode cX2_measure 65 = .ok (.iload 10, 2) := by decide +kernel
theorem dX2_measure_67 : decode cX2_measure 67 = .ok (.imul, 1) := by decide +kernel
theorem dX2_measure_68 : decode cX2_measure 68 = .ok (.iadd, 1) := by decide +kernel
theorem dX2_measure_69 : decode cX2_measure 69 = .ok (.istore 4, 2) := by decide +kernel
theorem dX2_measure_71 : decode cX2_measure 71 = .ok (.iload 5, 2) := by decide +kernel
theorem dX2_measure_73 : decode cX2_measure 73 = .ok (.iload 9, 2) := by decide +kernel
theorem dX2_measure_75 : decode cX2_measure 75 = .ok (.invokestatic 22, 3) := by decide +kernel
theorem dX2_measure_78 : decode cX2_measure 78 = .ok (.istore 5, 2) := by decide +kernel
theorem dX2_measure_80 : decode cX2_measure 80 = .ok (.iload 6, 2) := by decide +kernel
theorem dX2_measure_82 : decode cX2_measure 82 = .ok (.iload 10, 2) := by decide +kernel
theorem dX2_measure_84 : decode cX2_measure 84 = .ok (.invokestatic 22, 3) := by decide +kernel
theorem dX2_measure_87 : decode cX2_measure 87 = .ok (.istore 6, 2) := by decide +kernel
theorem dX2_measure_89 : decode cX2_measure 89 = .ok (.iload 7, 2) := by decide +kernel
theorem dX2_measure_91 : decode cX2_measure 91 = .ok (.iload 9, 2) := by decide +kernel
theorem dX2_measure_93 : decode cX2_measure 93 = .ok (.iload 10, 2) := by decide +kernel
theorem dX2_measure_95 : decode cX2_measure 95 = .ok (.imul, 1) := by decide +kernel
theorem dX2_measure_96 : decode cX2_measure 96 = .ok (.invokestatic 22, 3) := by decide +kernel
theorem dX2_measure_99 : decode cX2_measure 99 = .ok (.istore 7, 2) := by decide +kernel
theorem dX2_measure_101 : decode cX2_measure 101 = .ok (.iinc 8 1, 3) := by decide +kernel
theorem dX2_measure_104 : decode cX2_measure 104 = .ok (.goto (-87), 3) := by decide +kernel
theorem dX2_measure_107 : decode cX2_measure 107 = .ok (.aload_n 0, 1) := by decide +kernel
theorem dX2_measure_108 : decode cX2_measure 108 = .ok (.iload_n 2, 1) := by decide +kernel
theorem dX2_measure_109 : decode cX2_measure 109 = .ok (.ifCond .le 20, 3) := by decide +kernel
theorem dX2_measure_112 : decode cX2_measure 112 = .ok (.iload_n 2, 1) := by decide +kernel
theorem dX2_measure_113 : decode cX2_measure 113 = .ok (.aload_n 1, 1) := by decide +kernel
theorem dX2_measure_114 : decode cX2_measure 114 = .ok (.getfield 28, 3) := by decide +kernel
theorem dX2_measure_117 : decode cX2_measure 117 = .ok (.if_icmp .ge 12, 3) := by decide +kernel
theorem dX2_measure_120 : decode cX2_measure 120 = .ok (.aload_n 1, 1) := by decide +kernel
theorem dX2_measure_121 : decode cX2_measure 121 = .ok (.getfield 28, 3) := by decide +kernel
theorem dX2_measure_124 : decode cX2_measure 124 = .ok (.iload_n 2, 1) := by decide +kernel
theorem dX2_measure_125 : decode cX2_measure 125 = .ok (.idiv, 1) := by decide +kernel
theorem dX2_measure_126 : decode cX2_measure 126 = .ok (.goto 4, 3) := by decide +kernel
theorem dX2_measure_129 : decode cX2_measure 129 = .ok (.iconst 1, 1) := by decide +kernel
theorem dX2_measure_130 : decode cX2_measure 130 = .ok (.putfield 31, 3) := by decide +kernel
theorem dX2_measure_133 : decode cX2_measure 133 = .ok (.aload_n 0, 1) := by decide +kernel
theorem dX2_measure_134 : decode cX2_measure 134 = .ok (.getfield 31, 3) := by decide +kernel
theorem dX2_measure_137 : decode cX2_measure 137 = .ok (.i2l, 1) := by decide +kernel
theorem dX2_measure_138 : decode cX2_measure 138 = .ok (.aload_n 0, 1) := by decide +kernel
theorem dX2_measure_139 : decode cX2_measure 139 = .ok (.getfield 31, 3) := by decide +kernel
theorem dX2_measure_142 : decode cX2_measure 142 = .ok (.i2l, 1) := by decide +kernel
theorem dX2_measure_143 : decode cX2_measure 143 = .ok (.lmul, 1) := by decide +kernel
theorem dX2_measure_144 : decode cX2_measure 144 = .ok (.lstore 8, 2) := by decide +kernel
theorem dX2_measure_146 : decode cX2_measure 146 = .ok (.aload_n 0, 1) := by decide +kernel
theorem dX2_measure_147 : decode cX2_measure 147 = .ok (.lload 8, 2) := by decide +kernel
theorem dX2_measure_149 : decode cX2_measure 149 = .ok (.iload_n 3, 1) := by decide +kernel
theorem dX2_measure_150 : decode cX2_measure 150 = .ok (.i2l, 1) := by decide +kernel
theorem dX2_measure_151 : decode cX2_measure 151 = .ok (.lmul, 1) := by decide +kernel
theorem dX2_measure_152 : decode cX2_measure 152 = .ok (.ldc2_w 34, 3) := by decide +kernel
theorem dX2_measure_155 : decode cX2_measure 155 = .ok (.aload_n 1, 1) := by decide +kernel
theorem dX2_measure_156 : decode cX2_measure 156 = .ok (.getfield 9, 3) := by decide +kernel
theorem dX2_measure_159 : decode cX2_measure 159 = .ok (.i2l, 1) := by decide +kernel
theorem dX2_measure_160 : decode cX2_measure 160 = .ok (.lmul, 1) := by decide +kernel
theorem dX2_measure_161 : decode cX2_measure 161 = .ok (.invokestatic 36, 3) := by decide +kernel
theorem dX2_measure_164 : decode cX2_measure 164 = .ok (.l2i, 1) := by decide +kernel
theorem dX2_measure_165 : decode cX2_measure 165 = .ok (.putfield 40, 3) := by decide +kernel
theorem dX2_measure_168 : decode cX2_measure 168 = .ok (.aload_n 0, 1) := by decide +kernel
theorem dX2_measure_169 : decode cX2_measure 169 = .ok (.lload 8, 2) := by decide +kernel
theorem dX2_measure_171 : decode cX2_measure 171 = .ok (.aload_n 0, 1) := by decide +kernel
theorem dX2_measure_172 : decode cX2_measure 172 = .ok (.getfield 31, 3) := by decide +kernel
theorem dX2_measure_175 : decode cX2_measure 175 = .ok (.i2l, 1) := by decide +kernel
theorem dX2_measure_176 : decode cX2_measure 176 = .ok (.lmul, 1) := by decide +kernel
theorem dX2_measure_177 : decode cX2_measure 177 = .ok (.iload 4, 2) := by decide +kernel
theorem dX2_measure_179 : decode cX2_measure 179 = .ok (.i2l, 1) := by decide +kernel
theorem dX2_measure_180 : decode cX2_measure 180 = .ok (.lmul, 1) := by decide +kernel
theorem dX2_measure_181 : decode cX2_measure 181 = .ok (.ldc2_w 43, 3) := by decide +kernel
theorem dX2_measure_184 : decode cX2_measure 184 = .ok (.aload_n 1, 1) := by decide +kernel
theorem dX2_measure_185 : decode cX2_measure 185 = .ok (.getfield 9, 3) := by decide +kernel
theorem dX2_measure_188 : decode cX2_measure 188 = .ok (.i2l, 1) := by decide +kernel
theorem dX2_measure_189 : decode cX2_measure 189 = .ok (.lmul, 1) := by decide +kernel
theorem dX2_measure_190 : decode cX2_measure 190 = .ok (.invokestatic 36, 3) := by decide +kernel
theorem dX2_measure_193 : decode cX2_measure 193 = .ok (.l2i, 1) := by decide +kernel
theorem dX2_measure_194 : decode cX2_measure 194 = .ok (.putfield 45, 3) := by decide +kernel
theorem dX2_measure_197 : decode cX2_measure 197 = .ok (.aload_n 0, 1) := by decide +kernel
theorem dX2_measure_198 : decode cX2_measure 198 = .ok (.iload 5, 2) := by decide +kernel
theorem dX2_measure_200 : decode cX2_measure 200 = .ok (.aload_n 0, 1) := by decide +kernel
theorem dX2_measure_201 : decode cX2_measure 201 = .ok (.getfield 31, 3) := by decide +kernel
theorem dX2_measure_204 : decode cX2_measure 204 = .ok (.imul, 1) := by decide +kernel
theorem dX2_measure_205 : decode cX2_measure 205 = .ok (.bipush 100, 2) := by decide +kernel
theorem dX2_measure_207 : decode cX2_measure 207 = .ok (.idiv, 1) := by decide +kernel
theorem dX2_measure_208 : decode cX2_measure 208 = .ok (.putfield 48, 3) := by decide +kernel
theorem dX2_measure_211 : decode cX2_measure 211 = .ok (.aload_n 0, 1) := by decide +kernel
theorem dX2_measure_212 : decode cX2_measure 212 = .ok (.iload 6, 2) := by decide +kernel
theorem dX2_measure_214 : decode cX2_measure 214 = .ok (.aload_n 0, 1) := by decide +kernel
theorem dX2_measure_215 : decode cX2_measure 215 = .ok (.getfield 31, 3) := by decide +kernel
theorem dX2_measure_218 : decode cX2_measure 218 = .ok (.imul, 1) := by decide +kernel
theorem dX2_measure_219 : decode cX2_measure 219 = .ok (.bipush 100, 2) := by decide +kernel
theorem dX2_measure_221 : decode cX2_measure 221 = .ok (.idiv, 1) := by decide +kernel
theorem dX2_measure_222 : decode cX2_measure 222 = .ok (.putfield 51, 3) := by decide +kernel
theorem dX2_measure_225 : decode cX2_measure 225 = .ok (.aload_n 0, 1) := by decide +kernel
theorem dX2_measure_226 : decode cX2_measure 226 = .ok (.lload 8, 2) := by decide +kernel
theorem dX2_measure_228 : decode cX2_measure 228 = .ok (.iload 7, 2) := by decide +kernel
theorem dX2_measure_230 : decode cX2_measure 230 = .ok (.i2l, 1) := by decide +kernel
theorem dX2_measure_231 : decode cX2_measure 231 = .ok (.lmul, 1) := by decide +kernel
theorem dX2_measure_232 : decode cX2_measure 232 = .ok (.ldc2_w 43, 3) := by decide +kernel
theorem dX2_measure_235 : decode cX2_measure 235 = .ok (.ldiv, 1) := by decide +kernel
theorem dX2_measure_236 : decode cX2_measure 236 = .ok (.l2i, 1) := by decide +kernel
theorem dX2_measure_237 : decode cX2_measure 237 = .ok (.putfield 54, 3) := by decide +kernel
theorem dX2_measure_240 : decode cX2_measure 240 = .ok (.return_, 1) := by decide +kernel
theorem dX2_part_0 : decode cX2_part 0 = .ok (.iload_n 1, 1) := by decide +kernel
theorem dX2_part_1 : decode cX2_part 1 = .ok (.tableswitch 60 0 4 #[35, 40, 45, 50, 55], 35) := by decide +kernel
theorem dX2_part_36 : decode cX2_part 36 = .ok (.aload_n 0, 1) := by decide +kernel
theorem dX2_part_37 : decode cX2_part 37 = .ok (.getfield 31, 3) := by decide +kernel
theorem dX2_part_40 : decode cX2_part 40 = .ok (.ireturn, 1) := by decide +kernel
theorem dX2_part_41 : decode cX2_part 41 = .ok (.aload_n 0, 1) := by decide +kernel
theorem dX2_part_42 : decode cX2_part 42 = .ok (.getfield 40, 3) := by decide +kernel
theorem dX2_part_45 : decode cX2_part 45 = .ok (.ireturn, 1) := by decide +kernel
theorem dX2_part_46 : decode cX2_part 46 = .ok (.aload_n 0, 1) := by decide +kernel
theorem dX2_part_47 : decode cX2_part 47 = .ok (.getfield 45, 3) := by decide +kernel
theorem dX2_part_50 : decode cX2_part 50 = .ok (.ireturn, 1) := by decide +kernel
theorem dX2_part_51 : decode cX2_part 51 = .ok (.aload_n 0, 1) := by decide +kernel
theorem dX2_part_52 : decode cX2_part 52 = .ok (.getfield 48, 3) := by decide +kernel
theorem dX2_part_55 : decode cX2_part 55 = .ok (.ireturn, 1) := by decide +kernel
theorem dX2_part_56 : decode cX2_part 56 = .ok (.aload_n 0, 1) := by decide +kernel
theorem dX2_part_57 : decode cX2_part 57 = .ok (.getfield 51, 3) := by decide +kernel
theorem dX2_part_60 : decode cX2_part 60 = .ok (.ireturn, 1) := by decide +kernel
theorem dX2_part_61 : decode cX2_part 61 = .ok (.aload_n 0, 1) := by decide +kernel
theorem dX2_part_62 : decode cX2_part 62 = .ok (.getfield 54, 3) := by decide +kernel
theorem dX2_part_65 : decode cX2_part 65 = .ok (.ireturn, 1) := by decide +kernel
theorem dX3_init_0 : decode cX3_init 0 = .ok (.aload_n 0, 1) := by decide +kernel
theorem dX3_init_1 : decode cX3_init 1 = .ok (.invokespecial 1, 3) := by decide +kernel
theorem dX3_init_4 : decode cX3_init 4 = .ok (.aload_n 0, 1) := by decide +kernel
theorem dX3_init_5 : decode cX3_init 5 = .ok (.aload_n 1, 1) := by decide +kernel
theorem dX3_init_6 : decode cX3_init 6 = .ok (.putfield 7, 3) := by decide +kernel
theorem dX3_init_9 : decode cX3_init 9 = .ok (.return_, 1) := by decide +kernel
theorem dX4_init_0 : decode cX4_init 0 = .ok (.aload_n 0, 1) := by decide +kernel
theorem dX4_init_1 : decode cX4_init 1 = .ok (.invokespecial 3, 3) := by decide +kernel
theorem dX4_init_4 : decode cX4_init 4 = .ok (.aload_n 0, 1) := by decide +kernel
theorem dX4_init_5 : decode cX4_init 5 = .ok (.sipush 400, 3) := by decide +kernel
theorem dX4_init_8 : decode cX4_init 8 = .ok (.newarray .int, 2) := by decide +kernel
theorem dX4_init_10 : decode cX4_init 10 = .ok (.putfield 9, 3) := by decide +kernel
theorem dX4_init_13 : decode cX4_init 13 = .ok (.aload_n 0, 1) := by decide +kernel
theorem dX4_init_14 : decode cX4_init 14 = .ok (.sipush 400, 3) := by decide +kernel
theorem dX4_init_17 : decode cX4_init 17 = .ok (.newarray .int, 2) := by decide +kernel
theorem dX4_init_19 : decode cX4_init 19 = .ok (.putfield 15, 3) := by decide +kernel
theorem dX4_init_22 : decode cX4_init 22 = .ok (.return_, 1) := by decide +kernel
theorem dX4_readText_0 : decode cX4_readText 0 = .ok (.aload_n 0, 1) := by decide +kernel
theorem dX4_readText_1 : decode cX4_readText 1 = .ok (.iconst 0, 1) := by decide +kernel
theorem dX4_readText_2 : decode cX4_readText 2 = .ok (.iload_n 2, 1) := by decide +kernel
theorem dX4_readText_3 : decode cX4_readText 3 = .ok (.aload_n 0, 1) := by decide +kernel
theorem dX4_readText_4 : decode cX4_readText 4 = .ok (.getfield 15, 3) := by decide +kernel
theorem dX4_readText_7 : decode cX4_readText 7 = .ok (.arraylength, 1) := by decide +kernel
theorem dX4_readText_8 : decode cX4_readText 8 = .ok (.invokestatic 18, 3) := by decide +kernel
theorem dX4_readText_11 : decode cX4_readText 11 = .ok (.invokestatic 24, 3) := by decide +kernel
theorem dX4_readText_14 : decode cX4_readText 14 = .ok (.putfield 27, 3) := by decide +kernel
theorem dX4_readText_17 : decode cX4_readText 17 = .ok (.iconst 0, 1) := by decide +kernel
theorem dX4_readText_18 : decode cX4_readText 18 = .ok (.istore 4, 2) := by decide +kernel
theorem dX4_readText_20 : decode cX4_readText 20 = .ok (.iload 4, 2) := by decide +kernel
theorem dX4_readText_22 : decode cX4_readText 22 = .ok (.aload_n 0, 1) := by decide +kernel
theorem dX4_readText_23 : decode cX4_readText 23 = .ok (.getfield 27, 3) := by decide +kernel
theorem dX4_readText_26 : decode cX4_readText 26 = .ok (.if_icmp .ge 22, 3) := by decide +kernel
theorem dX4_readText_29 : decode cX4_readText 29 = .ok (.aload_n 0, 1) := by decide +kernel
theorem dX4_readText_30 : decode cX4_readText 30 = .ok (.getfield 15, 3) := by decide +kernel
theorem dX4_readText_33 : decode cX4_readText 33 = .ok (.iload 4, 2) := by decide +kernel
theorem dX4_readText_35 : decode cX4_readText 35 = .ok (.aload_n 1, 1) := by decide +kernel
theorem dX4_readText_36 : decode cX4_readText 36 = .ok (.iload 4, 2) := by decide +kernel
theorem dX4_readText_38 : decode cX4_readText 38 = .ok (.invokevirtual 31, 3) := by decide +kernel
theorem dX4_readText_41 : decode cX4_readText 41 = .ok (.iastore, 1) := by decide +kernel
theorem dX4_readText_42 : decode cX4_readText 42 = .ok (.iinc 4 1, 3) := by decide +kernel
theorem dX4_readText_45 : decode cX4_readText 45 = .ok (.goto (-25), 3) := by decide +kernel
theorem dX4_readText_48 : decode cX4_readText 48 = .ok (.aload_n 0, 1) := by decide +kernel
theorem dX4_readText_49 : decode cX4_readText 49 = .ok (.iconst 0, 1) := by decide +kernel
theorem dX4_readText_50 : decode cX4_readText 50 = .ok (.putfield 37, 3) := by decide +kernel
theorem dX4_readText_53 : decode cX4_readText 53 = .ok (.aload_n 0, 1) := by decide +kernel
theorem dX4_readText_54 : decode cX4_readText 54 = .ok (.iconst 0, 1) := by decide +kernel
theorem dX4_readText_55 : decode cX4_readText 55 = .ok (.putfield 40, 3) := by decide +kernel
theorem dX4_readText_58 : decode cX4_readText 58 = .ok (.aload_n 0, 1) := by decide +kernel
theorem dX4_readText_59 : decode cX4_readText 59 = .ok (.iconst 0, 1) := by decide +kernel
theorem dX4_readText_60 : decode cX4_readText 60 = .ok (.putfield 43, 3) := by decide +kernel
theorem dX4_readText_63 : decode cX4_readText 63 = .ok (.aload_n 0, 1) := by decide +kernel
theorem dX4_readText_64 : decode cX4_readText 64 = .ok (.iconst 0, 1) := by decide +kernel
theorem dX4_readText_65 : decode cX4_readText 65 = .ok (.putfield 46, 3) := by decide +kernel
theorem dX4_readText_68 : decode cX4_readText 68 = .ok (.aload_n 0, 1) := by decide +kernel
theorem dX4_readText_69 : decode cX4_readText 69 = .ok (.iconst (-1), 1) := by decide +kernel
theorem dX4_readText_70 : decode cX4_readText 70 = .ok (.putfield 49, 3) := by decide +kernel
theorem dX4_readText_73 : decode cX4_readText 73 = .ok (.aload_n 0, 1) := by decide +kernel
theorem dX4_readText_74 : decode cX4_readText 74 = .ok (.invokevirtual 52, 3) := by decide +kernel
theorem dX4_readText_77 : decode cX4_readText 77 = .ok (.iconst 0, 1) := by decide +kernel
theorem dX4_readText_78 : decode cX4_readText 78 = .ok (.istore 4, 2) := by decide +kernel
theorem dX4_readText_80 : decode cX4_readText 80 = .ok (.iload 4, 2) := by decide +kernel
theorem dX4_readText_82 : decode cX4_readText 82 = .ok (.bipush 16, 2) := by decide +kernel
theorem dX4_readText_84 : decode cX4_readText 84 = .ok (.if_icmp .gt 31, 3) := by decide +kernel
theorem dX4_readText_87 : decode cX4_readText 87 = .ok (.aload_n 0, 1) := by decide +kernel
theorem dX4_readText_88 : decode cX4_readText 88 = .ok (.getfield 55, 3) := by decide +kernel
theorem dX4_readText_91 : decode cX4_readText 91 = .ok (.iconst (-1), 1) := by decide +kernel
theorem dX4_readText_92 : decode cX4_readText 92 = .ok (.if_icmp .eq 23, 3) := by decide +kernel
theorem dX4_readText_95 : decode cX4_readText 95 = .ok (.aload_n 0, 1) := by decide +kernel
theorem dX4_readText_96 : decode cX4_readText 96 = .ok (.getfield 46, 3) := by decide +kernel
theorem dX4_readText_99 : decode cX4_readText 99 = .ok (.ifCond .ne 16, 3) := by decide +kernel
theorem dX4_readText_102 : decode cX4_readText 102 = .ok (.aload_n 0, 1) := by decide +kernel
theorem dX4_readText_103 : decode cX4_readText 103 = .ok (.iload_n 3, 1) := by decide +kernel
theorem dX4_readText_104 : decode cX4_readText 104 = .ok (.iload 4, 2) := by decide +kernel
theorem dX4_readText_106 : decode cX4_readText 106 = .ok (.invokevirtual 58, 3) := by decide +kernel
theorem dX4_readText_109 : decode cX4_readText 109 = .ok (.iinc 4 1, 3) := by decide +kernel
theorem dX4_readText_112 : decode cX4_readText 112 = .ok (.goto (-32), 3) := by decide +kernel
theorem dX4_readText_115 : decode cX4_readText 115 = .ok (.aload_n 0, 1) := by decide +kernel
theorem dX4_readText_116 : decode cX4_readText 116 = .ok (.getfield 46, 3) := by decide +kernel
theorem dX4_readText_119 : decode cX4_readText 119 = .ok (.ireturn, 1) := by decide +kernel
theorem dX4_placeOfFault_0 : decode cX4_placeOfFault 0 = .ok (.aload_n 0, 1) := by decide +kernel
theorem dX4_placeOfFault_1 : decode cX4_placeOfFault 1 = .ok (.getfield 49, 3) := by decide +kernel
theorem dX4_placeOfFault_4 : decode cX4_placeOfFault 4 = .ok (.ireturn, 1) := by decide +kernel
theorem dX4_finished_0 : decode cX4_finished 0 = .ok (.new 62, 3) := by decide +kernel
theorem dX4_finished_3 : decode cX4_finished 3 = .ok (.dup, 1) := by decide +kernel
theorem dX4_finished_4 : decode cX4_finished 4 = .ok (.aload_n 0, 1) := by decide +kernel
theorem dX4_finished_5 : decode cX4_finished 5 = .ok (.getfield 9, 3) := by decide +kernel
theorem dX4_finished_8 : decode cX4_finished 8 = .ok (.aload_n 0, 1) := by decide +kernel
theorem dX4_finished_9 : decode cX4_finished 9 = .ok (.getfield 37, 3) := by decide +kernel
theorem dX4_finished_12 : decode cX4_finished 12 = .ok (.invokestatic 64, 3) := by decide +kernel
theorem dX4_finished_15 : decode cX4_finished 15 = .ok (.invokespecial 70, 3) := by decide +kernel
theorem dX4_finished_18 : decode cX4_finished 18 = .ok (.areturn, 1) := by decide +kernel
theorem dX4_readClause_0 : decode cX4_readClause 0 = .ok (.aload_n 0, 1) := by decide +kernel
theorem dX4_readClause_1 : decode cX4_readClause 1 = .ok (.getfield 55, 3) := by decide +kernel
theorem dX4_readClause_4 : decode cX4_readClause 4 = .ok (.sipush 256, 3) := by decide +kernel
theorem dX4_readClause_7 : decode cX4_readClause 7 = .ok (.isub, 1) := by decide +kernel
theorem dX4_readClause_8 : decode cX4_readClause 8 = .ok (.istore_n 3, 1) := by decide +kernel
theorem dX4_readClause_9 : decode cX4_readClause 9 = .ok (.iload_n 1, 1) := by decide +kernel
theorem dX4_readClause_10 : decode cX4_readClause 10 = .ok (.ifCond .eq 13, 3) := by decide +kernel
theorem dX4_readClause_13 : decode cX4_readClause 13 = .ok (.iload_n 3, 1) := by decide +kernel
theorem dX4_readClause_14 : decode cX4_readClause 14 = .ok (.iconst 5, 1) := by decide +kernel
theorem dX4_readClause_15 : decode cX4_readClause 15 = .ok (.bipush 7, 2) := by decide +kernel
theorem dX4_readClause_17 : decode cX4_readClause 17 = .ok (.invokestatic 73, 3) := by decide +kernel
theorem dX4_readClause_20 : decode cX4_readClause 20 = .ok (.goto 9, 3) := by decide +kernel
theorem dX4_readClause_23 : decode cX4_readClause 23 = .ok (.iload_n 3, 1) := by decide +kernel
theorem dX4_readClause_24 : decode cX4_readClause 24 = .ok (.iconst 0, 1) := by decide +kernel
theorem dX4_readClause_25 : decode cX4_readClause 25 = .ok (.iconst 4, 1) := by decide +kernel
theorem dX4_readClause_26 : decode cX4_readClause 26 = .ok (.invokestatic 73, 3) := by decide +kernel
theorem dX4_readClause_29 : decode cX4_readClause 29 = .ok (.istore 4, 2) := by decide +kernel
theorem dX4_readClause_31 : decode cX4_readClause 31 = .ok (.iload 4, 2) := by decide +kernel
theorem dX4_readClause_33 : decode cX4_readClause 33 = .ok (.ifCond .ne 11, 3) := by decide +kernel
theorem dX4_readClause_36 : decode cX4_readClause 36 = .ok (.aload_n 0, 1) := by decide +kernel
theorem dX4_readClause_37 : decode cX4_readClause 37 = .ok (.iconst 1, 1) := by decide +kernel
theorem dX4_readClause_38 : decode cX4_readClause 38 = .ok (.invokevirtual 77, 3) := by decide +kernel
theorem dX4_readClause_41 : decode cX4_readClause 41 = .ok (.goto 78, 3) := by decide +kernel
theorem dX4_readClause_44 : decode cX4_readClause 44 = .ok (.iload_n 2, 1) := by decide +kernel
theorem dX4_readClause_45 : decode cX4_readClause 45 = .ok (.bipush 16, 2) := by decide +kernel
theorem dX4_readClause_47 : decode cX4_readClause 47 = .ok (.if_icmp .lt 11, 3) := by decide +kernel
theorem dX4_readClause_50 : decode cX4_readClause 50 = .ok (.aload_n 0, 1) := by decide +kernel
theorem dX4_readClause_51 : decode cX4_readClause 51 = .ok (.iconst 3, 1) := by decide +kernel
theorem dX4_readClause_52 : decode cX4_readClause 52 = .ok (.invokevirtual 77, 3) := by decide +kernel
theorem dX4_readClause_55 : decode cX4_readClause 55 = .ok (.goto 64, 3) := by decide +kernel
theorem dX4_readClause_58 : decode cX4_readClause 58 = .ok (.aload_n 0, 1) := by decide +kernel
theorem dX4_readClause_59 : decode cX4_readClause 59 = .ok (.invokevirtual 52, 3) := by decide +kernel
theorem dX4_readClause_62 : decode cX4_readClause 62 = .ok (.aload_n 0, 1) := by decide +kernel
theorem dX4_readClause_63 : decode cX4_readClause 63 = .ok (.iconst 2, 1) := by decide +kernel
theorem dX4_readClause_64 : decode cX4_readClause 64 = .ok (.invokevirtual 81, 3) := by decide +kernel
theorem dX4_readClause_67 : decode cX4_readClause 67 = .ok (.aload_n 0, 1) := by decide +kernel
theorem dX4_readClause_68 : decode cX4_readClause 68 = .ok (.getfield 55, 3) := by decide +kernel
theorem dX4_readClause_71 : decode cX4_readClause 71 = .ok (.sipush 277, 3) := by decide +kernel
theorem dX4_readClause_74 : decode cX4_readClause 74 = .ok (.if_icmp .ne 7, 3) := by decide +kernel
theorem dX4_readClause_77 : decode cX4_readClause 77 = .ok (.iconst 1, 1) := by decide +kernel
theorem dX4_readClause_78 : decode cX4_readClause 78 = .ok (.goto 4, 3) := by decide +kernel
theorem dX4_readClause_81 : decode cX4_readClause 81 = .ok (.iconst 0, 1) := by decide +kernel
theorem dX4_readClause_82 : decode cX4_readClause 82 = .ok (.istore 5, 2) := by decide +kernel
theorem dX4_readClause_84 : decode cX4_readClause 84 = .ok (.iload 5, 2) := by decide +kernel
theorem dX4_readClause_86 : decode cX4_readClause 86 = .ok (.ifCond .eq 12, 3) := by decide +kernel
theorem dX4_readClause_89 : decode cX4_readClause 89 = .ok (.aload_n 0, 1) := by decide +kernel
theorem dX4_readClause_90 : decode cX4_readClause 90 = .ok (.invokevirtual 52, 3) := by decide +kernel
theorem dX4_readClause_93 : decode cX4_readClause 93 = .ok (.aload_n 0, 1) := by decide +kernel
theorem dX4_readClause_94 : decode cX4_readClause 94 = .ok (.iconst 0, 1) := by decide +kernel
theorem dX4_readClause_95 : decode cX4_readClause 95 = .ok (.invokevirtual 81, 3) := by decide +kernel
theorem dX4_readClause_98 : decode cX4_readClause 98 = .ok (.aload_n 0, 1) := by decide +kernel
theorem dX4_readClause_99 : decode cX4_readClause 99 = .ok (.bipush 59, 2) := by decide +kernel
theorem dX4_readClause_101 : decode cX4_readClause 101 = .ok (.invokevirtual 84, 3) := by decide +kernel
theorem dX4_readClause_104 : decode cX4_readClause 104 = .ok (.aload_n 0, 1) := by decide +kernel
theorem dX4_readClause_105 : decode cX4_readClause 105 = .ok (.iload 5, 2) := by decide +kernel
theorem dX4_readClause_107 : decode cX4_readClause 107 = .ok (.ifCond .eq 7, 3) := by decide +kernel
theorem dX4_readClause_110 : decode cX4_readClause 110 = .ok (.iconst 4, 1) := by decide +kernel
theorem dX4_readClause_111 : decode cX4_readClause 111 = .ok (.goto 4, 3) := by decide +kernel
theorem dX4_readClause_114 : decode cX4_readClause 114 = .ok (.iconst 3, 1) := by decide +kernel
theorem dX4_readClause_115 : decode cX4_readClause 115 = .ok (.iload_n 3, 1) := by decide +kernel
theorem dX4_readClause_116 : decode cX4_readClause 116 = .ok (.invokevirtual 87, 3) := by decide +kernel
theorem dX4_readClause_119 : decode cX4_readClause 119 = .ok (.return_, 1) := by decide +kernel
theorem dX4_readChain_0 : decode cX4_readChain 0 = .ok (.aload_n 0, 1) := by decide +kernel
theorem dX4_readChain_1 : decode cX4_readChain 1 = .ok (.iload_n 1, 1) := by decide +kernel
theorem dX4_readChain_2 : decode cX4_readChain 2 = .ok (.invokevirtual 91, 3) := by decide +kernel
theorem dX4_readChain_5 : decode cX4_readChain 5 = .ok (.iconst 0, 1) := by decide +kernel
theorem dX4_readChain_6 : decode cX4_readChain 6 = .ok (.istore_n 2, 1) := by decide +kernel
theorem dX4_readChain_7 : decode cX4_readChain 7 = .ok (.iload_n 2, 1) := by decide +kernel
theorem dX4_readChain_8 : decode cX4_readChain 8 = .ok (.aload_n 0, 1) := by decide +kernel
theorem dX4_readChain_9 : decode cX4_readChain 9 = .ok (.getfield 27, 3) := by decide +kernel
theorem dX4_readChain_12 : decode cX4_readChain 12 = .ok (.if_icmp .ge 37, 3) := by decide +kernel
theorem dX4_readChain_15 : decode cX4_readChain 15 = .ok (.aload_n 0, 1) := by decide +kernel
theorem dX4_readChain_16 : decode cX4_readChain 16 = .ok (.iload_n 1, 1) := by decide +kernel
theorem dX4_readChain_17 : decode cX4_readChain 17 = .ok (.invokevirtual 94, 3) := by decide +kernel
theorem dX4_readChain_20 : decode cX4_readChain 20 = .ok (.ifCond .eq 29, 3) := by decide +kernel
theorem dX4_readChain_23 : decode cX4_readChain 23 = .ok (.aload_n 0, 1) := by decide +kernel
theorem dX4_readChain_24 : decode cX4_readChain 24 = .ok (.getfield 55, 3) := by decide +kernel
theorem dX4_readChain_27 : decode cX4_readChain 27 = .ok (.istore_n 3, 1) := by decide +kernel
theorem dX4_readChain_28 : decode cX4_readChain 28 = .ok (.aload_n 0, 1) := by decide +kernel
theorem dX4_readChain_29 : decode cX4_readChain 29 = .ok (.invokevirtual 52, 3) := by decide +kernel
theorem dX4_readChain_32 : decode cX4_readChain 32 = .ok (.aload_n 0, 1) := by decide +kernel
theorem dX4_readChain_33 : decode cX4_readChain 33 = .ok (.iload_n 1, 1) := by decide +kernel
theorem dX4_readChain_34 : decode cX4_readChain 34 = .ok (.invokevirtual 91, 3) := by decide +kernel
theorem dX4_readChain_37 : decode cX4_readChain 37 = .ok (.aload_n 0, 1) := by decide +kernel
theorem dX4_readChain_38 : decode cX4_readChain 38 = .ok (.iload_n 3, 1) := by decide +kernel
theorem dX4_readChain_39 : decode cX4_readChain 39 = .ok (.iconst 0, 1) := by decide +kernel
theorem dX4_readChain_40 : decode cX4_readChain 40 = .ok (.invokevirtual 87, 3) := by decide +kernel
theorem dX4_readChain_43 : decode cX4_readChain 43 = .ok (.iinc 2 1, 3) := by decide +kernel
theorem dX4_readChain_46 : decode cX4_readChain 46 = .ok (.goto (-39), 3) := by decide +kernel
theorem dX4_readChain_49 : decode cX4_readChain 49 = .ok (.return_, 1) := by decide +kernel
theorem dX4_isJoint_0 : decode cX4_isJoint 0 = .ok (.iload_n 1, 1) := by decide +kernel
theorem dX4_isJoint_1 : decode cX4_isJoint 1 = .ok (.tableswitch 83 0 2 #[27, 43, 59], 27) := by decide +kernel
theorem dX4_isJoint_28 : decode cX4_isJoint 28 = .ok (.aload_n 0, 1) := by decide +kernel
theorem dX4_isJoint_29 : decode cX4_isJoint 29 = .ok (.getfield 55, 3) := by decide +kernel
theorem dX4_isJoint_32 : decode cX4_isJoint 32 = .ok (.sipush 278, 3) := by decide +kernel
theorem dX4_isJoint_35 : decode cX4_isJoint 35 = .ok (.if_icmp .ne 7, 3) := by decide +kernel
theorem dX4_isJoint_38 : decode cX4_isJoint 38 = .ok (.iconst 1, 1) := by decide +kernel
theorem dX4_isJoint_39 : decode cX4_isJoint 39 = .ok (.goto 4, 3) := by decide +kernel
theorem dX4_isJoint_42 : decode cX4_isJoint 42 = .ok (.iconst 0, 1) := by decide +kernel
theorem dX4_isJoint_43 : decode cX4_isJoint 43 = .ok (.ireturn, 1) := by decide +kernel
theorem dX4_isJoint_44 : decode cX4_isJoint 44 = .ok (.aload_n 0, 1) := by decide +kernel
theorem dX4_isJoint_45 : decode cX4_isJoint 45 = .ok (.getfield 55, 3) := by decide +kernel
theorem dX4_isJoint_48 : decode cX4_isJoint 48 = .ok (.sipush 279, 3) := by decide +kernel
theorem dX4_isJoint_51 : decode cX4_isJoint 51 = .ok (.if_icmp .ne 7, 3) := by decide +kernel
theorem dX4_isJoint_54 : decode cX4_isJoint 54 = .ok (.iconst 1, 1) := by decide +kernel
theorem dX4_isJoint_55 : decode cX4_isJoint 55 = .ok (.goto 4, 3) := by decide +kernel
theorem dX4_isJoint_58 : decode cX4_isJoint 58 = .ok (.iconst 0, 1) := by decide +kernel
theorem dX4_isJoint_59 : decode cX4_isJoint 59 = .ok (.ireturn, 1) := by decide +kernel
theorem dX4_isJoint_60 : decode cX4_isJoint 60 = .ok (.aload_n 0, 1) := by decide +kernel
theorem dX4_isJoint_61 : decode cX4_isJoint 61 = .ok (.getfield 55, 3) := by decide +kernel
theorem dX4_isJoint_64 : decode cX4_isJoint 64 = .ok (.bipush 43, 2) := by decide +kernel
theorem dX4_isJoint_66 : decode cX4_isJoint 66 = .ok (.if_icmp .eq 12, 3) := by decide +kernel
theorem dX4_isJoint_69 : decode cX4_isJoint 69 = .ok (.aload_n 0, 1) := by decide +kernel
theorem dX4_isJoint_70 : decode cX4_isJoint 70 = .ok (.getfield 55, 3) := by decide +kernel
theorem dX4_isJoint_73 : decode cX4_isJoint 73 = .ok (.bipush 45, 2) := by decide +kernel
theorem dX4_isJoint_75 : decode cX4_isJoint 75 = .ok (.if_icmp .ne 7, 3) := by decide +kernel
theorem dX4_isJoint_78 : decode cX4_isJoint 78 = .ok (.iconst 1, 1) := by decide +kernel
theorem dX4_isJoint_79 : decode cX4_isJoint 79 = .ok (.goto 4, 3) := by decide +kernel
theorem dX4_isJoint_82 : decode cX4_isJoint 82 = .ok (.iconst 0, 1) := by decide +kernel
theorem dX4_isJoint_83 : decode cX4_isJoint 83 = .ok (.ireturn, 1) := by decide +kernel
theorem dX4_isJoint_84 : decode cX4_isJoint 84 = .ok (.aload_n 0, 1) := by decide +kernel
theorem dX4_isJoint_85 : decode cX4_isJoint 85 = .ok (.getfield 55, 3) := by decide +kernel
theorem dX4_isJoint_88 : decode cX4_isJoint 88 = .ok (.bipush 42, 2) := by decide +kernel
theorem dX4_isJoint_90 : decode cX4_isJoint 90 = .ok (.if_icmp .eq 12, 3) := by decide +kernel
theorem dX4_isJoint_93 : decode cX4_isJoint 93 = .ok (.aload_n 0, 1) := by decide +kernel
theorem dX4_isJoint_94 : decode cX4_isJoint 94 = .ok (.getfield 55, 3) := by decide +kernel
theorem dX4_isJoint_97 : decode cX4_isJoint 97 = .ok (.bipush 47, 2) := by decide +kernel
theorem dX4_isJoint_99 : decode cX4_isJoint 99 = .ok (.if_icmp .ne 7, 3) := by decide +kernel
theorem dX4_isJoint_102 : decode cX4_isJoint 102 = .ok (.iconst 1, 1) := by decide +kernel
theorem dX4_isJoint_103 : decode cX4_isJoint 103 = .ok (.goto 4, 3) := by decide +kernel
theorem dX4_isJoint_106 : decode cX4_isJoint 106 = .ok (.iconst 0, 1) := by decide +kernel
theorem dX4_isJoint_107 : decode cX4_isJoint 107 = .ok (.ireturn, 1) := by decide +kernel
theorem dX4_readPart_0 : decode cX4_readPart 0 = .ok (.iload_n 1, 1) := by decide +kernel
theorem dX4_readPart_1 : decode cX4_readPart 1 = .ok (.tableswitch 50 0 2 #[27, 35, 42], 27) := by decide +kernel
theorem dX4_readPart_28 : decode cX4_readPart 28 = .ok (.aload_n 0, 1) := by decide +kernel
theorem dX4_readPart_29 : decode cX4_readPart 29 = .ok (.iconst 1, 1) := by decide +kernel
theorem dX4_readPart_30 : decode cX4_readPart 30 = .ok (.invokevirtual 81, 3) := by decide +kernel
theorem dX4_readPart_33 : decode cX4_readPart 33 = .ok (.goto 22, 3) := by decide +kernel
theorem dX4_readPart_36 : decode cX4_readPart 36 = .ok (.aload_n 0, 1) := by decide +kernel
theorem dX4_readPart_37 : decode cX4_readPart 37 = .ok (.invokevirtual 98, 3) := by decide +kernel
theorem dX4_readPart_40 : decode cX4_readPart 40 = .ok (.goto 15, 3) := by decide +kernel
theorem dX4_readPart_43 : decode cX4_readPart 43 = .ok (.aload_n 0, 1) := by decide +kernel
theorem dX4_readPart_44 : decode cX4_readPart 44 = .ok (.iconst 3, 1) := by decide +kernel
theorem dX4_readPart_45 : decode cX4_readPart 45 = .ok (.invokevirtual 81, 3) := by decide +kernel
theorem dX4_readPart_48 : decode cX4_readPart 48 = .ok (.goto 7, 3) := by decide +kernel
theorem dX4_readPart_51 : decode cX4_readPart 51 = .ok (.aload_n 0, 1) := by decide +kernel
theorem dX4_readPart_52 : decode cX4_readPart 52 = .ok (.invokevirtual 101, 3) := by decide +kernel
theorem dX4_readPart_55 : decode cX4_readPart 55 = .ok (.return_, 1) := by decide +kernel
theorem dX4_readTest_0 : decode cX4_readTest 0 = .ok (.aload_n 0, 1) := by decide +kernel
theorem dX4_readTest_1 : decode cX4_readTest 1 = .ok (.getfield 55, 3) := by decide +kernel
theorem dX4_readTest_4 : decode cX4_readTest 4 = .ok (.sipush 280, 3) := by decide +kernel
theorem dX4_readTest_7 : decode cX4_readTest 7 = .ok (.if_icmp .ne 39, 3) := by decide +kernel
theorem dX4_readTest_10 : decode cX4_readTest 10 = .ok (.aload_n 0, 1) := by decide +kernel
theorem dX4_readTest_11 : decode cX4_readTest 11 = .ok (.invokevirtual 104, 3) := by decide +kernel
theorem dX4_readTest_14 : decode cX4_readTest 14 = .ok (.ifCond .eq 80, 3) := by decide +kernel
theorem dX4_readTest_17 : decode cX4_readTest 17 = .ok (.aload_n 0, 1) := by decide +kernel
theorem dX4_readTest_18 : decode cX4_readTest 18 = .ok (.invokevirtual 52, 3) := by decide +kernel
theorem dX4_readTest_21 : decode cX4_readTest 21 = .ok (.aload_n 0, 1) := by decide +kernel
theorem dX4_readTest_22 : decode cX4_readTest 22 = .ok (.invokevirtual 98, 3) := by decide +kernel
theorem dX4_readTest_25 : decode cX4_readTest 25 = .ok (.aload_n 0, 1) := by decide +kernel
theorem dX4_readTest_26 : decode cX4_readTest 26 = .ok (.dup, 1) := by decide +kernel
theorem dX4_readTest_27 : decode cX4_readTest 27 = .ok (.getfield 43, 3) := by decide +kernel
theorem dX4_readTest_30 : decode cX4_readTest 30 = .ok (.iconst 1, 1) := by decide +kernel
theorem dX4_readTest_31 : decode cX4_readTest 31 = .ok (.isub, 1) := by decide +kernel
theorem dX4_readTest_32 : decode cX4_readTest 32 = .ok (.putfield 43, 3) := by decide +kernel
theorem dX4_readTest_35 : decode cX4_readTest 35 = .ok (.aload_n 0, 1) := by decide +kernel
theorem dX4_readTest_36 : decode cX4_readTest 36 = .ok (.sipush 280, 3) := by decide +kernel
theorem dX4_readTest_39 : decode cX4_readTest 39 = .ok (.iconst 0, 1) := by decide +kernel
theorem dX4_readTest_40 : decode cX4_readTest 40 = .ok (.invokevirtual 87, 3) := by decide +kernel
theorem dX4_readTest_43 : decode cX4_readTest 43 = .ok (.goto 51, 3) := by decide +kernel
theorem dX4_readTest_46 : decode cX4_readTest 46 = .ok (.aload_n 0, 1) := by decide +kernel
theorem dX4_readTest_47 : decode cX4_readTest 47 = .ok (.getfield 55, 3) := by decide +kernel
theorem dX4_readTest_50 : decode cX4_readTest 50 = .ok (.bipush 91, 2) := by decide +kernel
theorem dX4_readTest_52 : decode cX4_readTest 52 = .ok (.if_icmp .ne 38, 3) := by decide +kernel
theorem dX4_readTest_55 : decode cX4_readTest 55 = .ok (.aload_n 0, 1) := by decide +kernel
theorem dX4_readTest_56 : decode cX4_readTest 56 = .ok (.invokevirtual 104, 3) := by decide +kernel
theorem dX4_readTest_59 : decode cX4_readTest 59 = .ok (.ifCond .eq 35, 3) := by decide +kernel
theorem dX4_readTest_62 : decode cX4_readTest 62 = .ok (.aload_n 0, 1) := by decide +kernel
theorem dX4_readTest_63 : decode cX4_readTest 63 = .ok (.invokevirtual 52, 3) := by decide +kernel
theorem dX4_readTest_66 : decode cX4_readTest 66 = .ok (.aload_n 0, 1) := by decide +kernel
theorem dX4_readTest_67 : decode cX4_readTest 67 = .ok (.iconst 0, 1) := by decide +kernel
theorem dX4_readTest_68 : decode cX4_readTest 68 = .ok (.invokevirtual 81, 3) := by decide +kernel
theorem dX4_readTest_71 : decode cX4_readTest 71 = .ok (.aload_n 0, 1) := by decide +kernel
theorem dX4_readTest_72 : decode cX4_readTest 72 = .ok (.bipush 93, 2) := by decide +kernel
theorem dX4_readTest_74 : decode cX4_readTest 74 = .ok (.invokevirtual 84, 3) := by decide +kernel
theorem dX4_readTest_77 : decode cX4_readTest 77 = .ok (.aload_n 0, 1) := by decide +kernel
theorem dX4_readTest_78 : decode cX4_readTest 78 = .ok (.dup, 1) := by decide +kernel
theorem dX4_readTest_79 : decode cX4_readTest 79 = .ok (.getfield 43, 3) := by decide +kernel
theorem dX4_readTest_82 : decode cX4_readTest 82 = .ok (.iconst 1, 1) := by decide +kernel
theorem dX4_readTest_83 : decode cX4_readTest 83 = .ok (.isub, 1) := by decide +kernel
theorem dX4_readTest_84 : decode cX4_readTest 84 = .ok (.putfield 43, 3) := by decide +kernel
theorem dX4_readTest_87 : decode cX4_readTest 87 = .ok (.goto 7, 3) := by decide +kernel
theorem dX4_readTest_90 : decode cX4_readTest 90 = .ok (.aload_n 0, 1) := by decide +kernel
theorem dX4_readTest_91 : decode cX4_readTest 91 = .ok (.invokevirtual 108, 3) := by decide +kernel
theorem dX4_readTest_94 : decode cX4_readTest 94 = .ok (.return_, 1) := by decide +kernel
theorem dX4_readComparison_0 : decode cX4_readComparison 0 = .ok (.aload_n 0, 1) := by decide +kernel
theorem dX4_readComparison_1 : decode cX4_readComparison 1 = .ok (.iconst 2, 1) := by decide +kernel
theorem dX4_readComparison_2 : decode cX4_readComparison 2 = .ok (.invokevirtual 81, 3) := by decide +kernel
theorem dX4_readComparison_5 : decode cX4_readComparison 5 = .ok (.aload_n 0, 1) := by decide +kernel
theorem dX4_readComparison_6 : decode cX4_readComparison 6 = .ok (.getfield 55, 3) := by decide +kernel
theorem dX4_readComparison_9 : decode cX4_readComparison 9 = .ok (.istore_n 1, 1) := by decide +kernel
theorem dX4_readComparison_10 : decode cX4_readComparison 10 = .ok (.iload_n 1, 1) := by decide +kernel
theorem dX4_readComparison_11 : decode cX4_readComparison 11 = .ok (.bipush 60, 2) := by decide +kernel
theorem dX4_readComparison_13 : decode cX4_readComparison 13 = .ok (.if_icmp .eq 15, 3) := by decide +kernel
theorem dX4_readComparison_16 : decode cX4_readComparison 16 = .ok (.iload_n 1, 1) := by decide +kernel
theorem dX4_readComparison_17 : decode cX4_readComparison 17 = .ok (.bipush 62, 2) := by decide +kernel
theorem dX4_readComparison_19 : decode cX4_readComparison 19 = .ok (.if_icmp .eq 9, 3) := by decide +kernel
theorem dX4_readComparison_22 : decode cX4_readComparison 22 = .ok (.iload_n 1, 1) := by decide +kernel
theorem dX4_readComparison_23 : decode cX4_readComparison 23 = .ok (.bipush 61, 2) := by decide +kernel
theorem dX4_readComparison_25 : decode cX4_readComparison 25 = .ok (.if_icmp .ne 21, 3) := by decide +kernel
theorem dX4_readComparison_28 : decode cX4_readComparison 28 = .ok (.aload_n 0, 1) := by decide +kernel
theorem dX4_readComparison_29 : decode cX4_readComparison 29 = .ok (.invokevirtual 52, 3) := by decide +kernel
theorem dX4_readComparison_32 : decode cX4_readComparison 32 = .ok (.aload_n 0, 1) := by decide +kernel
theorem dX4_readComparison_33 : decode cX4_readComparison 33 = .ok (.iconst 2, 1) := by decide +kernel
theorem dX4_readComparison_34 : decode cX4_readComparison 34 = .ok (.invokevirtual 81, 3) := by decide +kernel
theorem dX4_readComparison_37 : decode cX4_readComparison 37 = .ok (.aload_n 0, 1) := by decide +kernel
theorem dX4_readComparison_38 : decode cX4_readComparison 38 = .ok (.iload_n 1, 1) := by decide +kernel
theorem dX4_readComparison_39 : decode cX4_readComparison 39 = .ok (.iconst 0, 1) := by decide +kernel
theorem dX4_readComparison_40 : decode cX4_readComparison 40 = .ok (.invokevirtual 87, 3) := by decide +kernel
theorem dX4_readComparison_43 : decode cX4_readComparison 43 = .ok (.goto 8, 3) := by decide +kernel
theorem dX4_readComparison_46 : decode cX4_readComparison 46 = .ok (.aload_n 0, 1) := by decide +kernel
theorem dX4_readComparison_47 : decode cX4_readComparison 47 = .ok (.iconst 1, 1) := by decide +kernel
theorem dX4_readComparison_48 : decode cX4_readComparison 48 = .ok (.invokevirtual 77, 3) := by decide +kernel
theorem dX4_readComparison_51 : decode cX4_readComparison 51 = .ok (.return_, 1) := by decide +kernel
theorem dX4_readUnit_0 : decode cX4_readUnit 0 = .ok (.aload_n 0, 1) := by decide +kernel
theorem dX4_readUnit_1 : decode cX4_readUnit 1 = .ok (.getfield 55, 3) := by decide +kernel
theorem dX4_readUnit_4 : decode cX4_readUnit 4 = .ok (.istore_n 1, 1) := by decide +kernel
theorem dX4_readUnit_5 : decode cX4_readUnit 5 = .ok (.iload_n 1, 1) := by decide +kernel
theorem dX4_readUnit_6 : decode cX4_readUnit 6 = .ok (.bipush (-2), 2) := by decide +kernel
theorem dX4_readUnit_8 : decode cX4_readUnit 8 = .ok (.if_icmp .ne 10, 3) := by decide +kernel
theorem dX4_readUnit_11 : decode cX4_readUnit 11 = .ok (.aload_n 0, 1) := by decide +kernel
theorem dX4_readUnit_12 : decode cX4_readUnit 12 = .ok (.invokevirtual 111, 3) := by decide +kernel
theorem dX4_readUnit_15 : decode cX4_readUnit 15 = .ok (.goto 102, 3) := by decide +kernel
theorem dX4_readUnit_18 : decode cX4_readUnit 18 = .ok (.iload_n 1, 1) := by decide +kernel
theorem dX4_readUnit_19 : decode cX4_readUnit 19 = .ok (.sipush 264, 3) := by decide +kernel
theorem dX4_readUnit_22 : decode cX4_readUnit 22 = .ok (.sipush 273, 3) := by decide +kernel
theorem dX4_readUnit_25 : decode cX4_readUnit 25 = .ok (.invokestatic 73, 3) := by decide +kernel
theorem dX4_readUnit_28 : decode cX4_readUnit 28 = .ok (.ifCond .eq 20, 3) := by decide +kernel
theorem dX4_readUnit_31 : decode cX4_readUnit 31 = .ok (.aload_n 0, 1) := by decide +kernel
theorem dX4_readUnit_32 : decode cX4_readUnit 32 = .ok (.iconst 2, 1) := by decide +kernel
theorem dX4_readUnit_33 : decode cX4_readUnit 33 = .ok (.iload_n 1, 1) := by decide +kernel
theorem dX4_readUnit_34 : decode cX4_readUnit 34 = .ok (.sipush 264, 3) := by decide +kernel
theorem dX4_readUnit_37 : decode cX4_readUnit 37 = .ok (.isub, 1) := by decide +kernel
theorem dX4_readUnit_38 : decode cX4_readUnit 38 = .ok (.invokevirtual 87, 3) := by decide +kernel
theorem dX4_readUnit_41 : decode cX4_readUnit 41 = .ok (.aload_n 0, 1) := by decide +kernel
theorem dX4_readUnit_42 : decode cX4_readUnit 42 = .ok (.invokevirtual 52, 3) := by decide +kernel
theorem dX4_readUnit_45 : decode cX4_readUnit 45 = .ok (.goto 72, 3) := by decide +kernel
theorem dX4_readUnit_48 : decode cX4_readUnit 48 = .ok (.iload_n 1, 1) := by decide +kernel
theorem dX4_readUnit_49 : decode cX4_readUnit 49 = .ok (.bipush 40, 2) := by decide +kernel
theorem dX4_readUnit_51 : decode cX4_readUnit 51 = .ok (.if_icmp .ne 11, 3) := by decide +kernel
theorem dX4_readUnit_54 : decode cX4_readUnit 54 = .ok (.aload_n 0, 1) := by decide +kernel
theorem dX4_readUnit_55 : decode cX4_readUnit 55 = .ok (.iconst 0, 1) := by decide +kernel
theorem dX4_readUnit_56 : decode cX4_readUnit 56 = .ok (.invokevirtual 114, 3) := by decide +kernel
theorem dX4_readUnit_59 : decode cX4_readUnit 59 = .ok (.goto 58, 3) := by decide +kernel
theorem dX4_readUnit_62 : decode cX4_readUnit 62 = .ok (.iload_n 1, 1) := by decide +kernel
theorem dX4_readUnit_63 : decode cX4_readUnit 63 = .ok (.sipush 276, 3) := by decide +kernel
theorem dX4_readUnit_66 : decode cX4_readUnit 66 = .ok (.if_icmp .eq 17, 3) := by decide +kernel
theorem dX4_readUnit_69 : decode cX4_readUnit 69 = .ok (.iload_n 1, 1) := by decide +kernel
theorem dX4_readUnit_70 : decode cX4_readUnit 70 = .ok (.sipush 274, 3) := by decide +kernel
theorem dX4_readUnit_73 : decode cX4_readUnit 73 = .ok (.if_icmp .eq 10, 3) := by decide +kernel
theorem dX4_readUnit_76 : decode cX4_readUnit 76 = .ok (.iload_n 1, 1) := by decide +kernel
theorem dX4_readUnit_77 : decode cX4_readUnit 77 = .ok (.sipush 275, 3) := by decide +kernel
theorem dX4_readUnit_80 : decode cX4_readUnit 80 = .ok (.if_icmp .ne 32, 3) := by decide +kernel
theorem dX4_readUnit_83 : decode cX4_readUnit 83 = .ok (.aload_n 0, 1) := by decide +kernel
theorem dX4_readUnit_84 : decode cX4_readUnit 84 = .ok (.invokevirtual 52, 3) := by decide +kernel
theorem dX4_readUnit_87 : decode cX4_readUnit 87 = .ok (.aload_n 0, 1) := by decide +kernel
theorem dX4_readUnit_88 : decode cX4_readUnit 88 = .ok (.iload_n 1, 1) := by decide +kernel
theorem dX4_readUnit_89 : decode cX4_readUnit 89 = .ok (.sipush 276, 3) := by decide +kernel
theorem dX4_readUnit_92 : decode cX4_readUnit 92 = .ok (.if_icmp .eq 7, 3) := by decide +kernel
theorem dX4_readUnit_95 : decode cX4_readUnit 95 = .ok (.iconst 1, 1) := by decide +kernel
theorem dX4_readUnit_96 : decode cX4_readUnit 96 = .ok (.goto 4, 3) := by decide +kernel
theorem dX4_readUnit_99 : decode cX4_readUnit 99 = .ok (.iconst 0, 1) := by decide +kernel
theorem dX4_readUnit_100 : decode cX4_readUnit 100 = .ok (.invokevirtual 114, 3) := by decide +kernel
theorem dX4_readUnit_103 : decode cX4_readUnit 103 = .ok (.aload_n 0, 1) := by decide +kernel
theorem dX4_readUnit_104 : decode cX4_readUnit 104 = .ok (.iload_n 1, 1) := by decide +kernel
theorem dX4_readUnit_105 : decode cX4_readUnit 105 = .ok (.iconst 0, 1) := by decide +kernel
theorem dX4_readUnit_106 : decode cX4_readUnit 106 = .ok (.invokevirtual 87, 3) := by decide +kernel
theorem dX4_readUnit_109 : decode cX4_readUnit 109 = .ok (.goto 8, 3) := by decide +kernel
theorem dX4_readUnit_112 : decode cX4_readUnit 112 = .ok (.aload_n 0, 1) := by decide +kernel
theorem dX4_readUnit_113 : decode cX4_readUnit 113 = .ok (.iconst 1, 1) := by decide +kernel
theorem dX4_readUnit_114 : decode cX4_readUnit 114 = .ok (.invokevirtual 77, 3) := by decide +kernel
theorem dX4_readUnit_117 : decode cX4_readUnit 117 = .ok (.return_, 1) := by decide +kernel
theorem dX4_readNumber_0 : decode cX4_readNumber 0 = .ok (.aload_n 0, 1) := by decide +kernel
theorem dX4_readNumber_1 : decode cX4_readNumber 1 = .ok (.getfield 118, 3) := by decide +kernel
theorem dX4_readNumber_4 : decode cX4_readNumber 4 = .ok (.sipush 9999, 3) := by decide +kernel
theorem dX4_readNumber_7 : decode cX4_readNumber 7 = .ok (.if_icmp .le 11, 3) := by decide +kernel
theorem dX4_readNumber_10 : decode cX4_readNumber 10 = .ok (.aload_n 0, 1) := by decide +kernel
theorem dX4_readNumber_11 : decode cX4_readNumber 11 = .ok (.iconst 2, 1) := by decide +kernel
theorem dX4_readNumber_12 : decode cX4_readNumber 12 = .ok (.invokevirtual 77, 3) := by decide +kernel
theorem dX4_readNumber_15 : decode cX4_readNumber 15 = .ok (.goto 16, 3) := by decide +kernel
theorem dX4_readNumber_18 : decode cX4_readNumber 18 = .ok (.aload_n 0, 1) := by decide +kernel
theorem dX4_readNumber_19 : decode cX4_readNumber 19 = .ok (.iconst 1, 1) := by decide +kernel
theorem dX4_readNumber_20 : decode cX4_readNumber 20 = .ok (.aload_n 0, 1) := by decide +kernel
theorem dX4_readNumber_21 : decode cX4_readNumber 21 = .ok (.getfield 118, 3) := by decide +kernel
theorem dX4_readNumber_24 : decode cX4_readNumber 24 = .ok (.invokevirtual 87, 3) := by decide +kernel
theorem dX4_readNumber_27 : decode cX4_readNumber 27 = .ok (.aload_n 0, 1) := by decide +kernel
theorem dX4_readNumber_28 : decode cX4_readNumber 28 = .ok (.invokevirtual 52, 3) := by decide +kernel
theorem dX4_readNumber_31 : decode cX4_readNumber 31 = .ok (.return_, 1) := by decide +kernel
theorem dX4_readInside_0 : decode cX4_readInside 0 = .ok (.aload_n 0, 1) := by decide +kernel
theorem dX4_readInside_1 : decode cX4_readInside 1 = .ok (.getfield 55, 3) := by decide +kernel
theorem dX4_readInside_4 : decode cX4_readInside 4 = .ok (.bipush 40, 2) := by decide +kernel
theorem dX4_readInside_6 : decode cX4_readInside 6 = .ok (.if_icmp .eq 11, 3) := by decide +kernel
theorem dX4_readInside_9 : decode cX4_readInside 9 = .ok (.aload_n 0, 1) := by decide +kernel
theorem dX4_readInside_10 : decode cX4_readInside 10 = .ok (.iconst 1, 1) := by decide +kernel
theorem dX4_readInside_11 : decode cX4_readInside 11 = .ok (.invokevirtual 77, 3) := by decide +kernel
theorem dX4_readInside_14 : decode cX4_readInside 14 = .ok (.goto 50, 3) := by decide +kernel
theorem dX4_readInside_17 : decode cX4_readInside 17 = .ok (.aload_n 0, 1) := by decide +kernel
theorem dX4_readInside_18 : decode cX4_readInside 18 = .ok (.invokevirtual 104, 3) := by decide +kernel
theorem dX4_readInside_21 : decode cX4_readInside 21 = .ok (.ifCond .eq 43, 3) := by decide +kernel
theorem dX4_readInside_24 : decode cX4_readInside 24 = .ok (.aload_n 0, 1) := by decide +kernel
theorem dX4_readInside_25 : decode cX4_readInside 25 = .ok (.invokevirtual 52, 3) := by decide +kernel
theorem dX4_readInside_28 : decode cX4_readInside 28 = .ok (.aload_n 0, 1) := by decide +kernel
theorem dX4_readInside_29 : decode cX4_readInside 29 = .ok (.iconst 2, 1) := by decide +kernel
theorem dX4_readInside_30 : decode cX4_readInside 30 = .ok (.invokevirtual 81, 3) := by decide +kernel
theorem dX4_readInside_33 : decode cX4_readInside 33 = .ok (.iload_n 1, 1) := by decide +kernel
theorem dX4_readInside_34 : decode cX4_readInside 34 = .ok (.ifCond .eq 14, 3) := by decide +kernel
theorem dX4_readInside_37 : decode cX4_readInside 37 = .ok (.aload_n 0, 1) := by decide +kernel
theorem dX4_readInside_38 : decode cX4_readInside 38 = .ok (.bipush 44, 2) := by decide +kernel
theorem dX4_readInside_40 : decode cX4_readInside 40 = .ok (.invokevirtual 84, 3) := by decide +kernel
theorem dX4_readInside_43 : decode cX4_readInside 43 = .ok (.aload_n 0, 1) := by decide +kernel
theorem dX4_readInside_44 : decode cX4_readInside 44 = .ok (.iconst 2, 1) := by decide +kernel
theorem dX4_readInside_45 : decode cX4_readInside 45 = .ok (.invokevirtual 81, 3) := by decide +kernel
theorem dX4_readInside_48 : decode cX4_readInside 48 = .ok (.aload_n 0, 1) := by decide +kernel
theorem dX4_readInside_49 : decode cX4_readInside 49 = .ok (.bipush 41, 2) := by decide +kernel
theorem dX4_readInside_51 : decode cX4_readInside 51 = .ok (.invokevirtual 84, 3) := by decide +kernel
theorem dX4_readInside_54 : decode cX4_readInside 54 = .ok (.aload_n 0, 1) := by decide +kernel
theorem dX4_readInside_55 : decode cX4_readInside 55 = .ok (.dup, 1) := by decide +kernel
theorem dX4_readInside_56 : decode cX4_readInside 56 = .ok (.getfield 43, 3) := by decide +kernel
theorem dX4_readInside_59 : decode cX4_readInside 59 = .ok (.iconst 1, 1) := by decide +kernel
theorem dX4_readInside_60 : decode cX4_readInside 60 = .ok (.isub, 1) := by decide +kernel
theorem dX4_readInside_61 : decode cX4_readInside 61 = .ok (.putfield 43, 3) := by decide +kernel
theorem dX4_readInside_64 : decode cX4_readInside 64 = .ok (.return_, 1) := by decide +kernel
theorem dX4_opens_0 : decode cX4_opens 0 = .ok (.aload_n 0, 1) := by decide +kernel
theorem dX4_opens_1 : decode cX4_opens 1 = .ok (.getfield 43, 3) := by decide +kernel
theorem dX4_opens_4 : decode cX4_opens 4 = .ok (.bipush 6, 2) := by decide +kernel
theorem dX4_opens_6 : decode cX4_opens 6 = .ok (.if_icmp .lt 10, 3) := by decide +kernel
theorem dX4_opens_9 : decode cX4_opens 9 = .ok (.aload_n 0, 1) := by decide +kernel
theorem dX4_opens_10 : decode cX4_opens 10 = .ok (.iconst 3, 1) := by decide +kernel
theorem dX4_opens_11 : decode cX4_opens 11 = .ok (.invokevirtual 77, 3) := by decide +kernel
theorem dX4_opens_14 : decode cX4_opens 14 = .ok (.iconst 0, 1) := by decide +kernel
theorem dX4_opens_15 : decode cX4_opens 15 = .ok (.ireturn, 1) := by decide +kernel
theorem dX4_opens_16 : decode cX4_opens 16 = .ok (.aload_n 0, 1) := by decide +kernel
theorem dX4_opens_17 : decode cX4_opens 17 = .ok (.dup, 1) := by decide +kernel
theorem dX4_opens_18 : decode cX4_opens 18 = .ok (.getfield 43, 3) := by decide +kernel
theorem dX4_opens_21 : decode cX4_opens 21 = .ok (.iconst 1, 1) := by decide +kernel
theorem dX4_opens_22 : decode cX4_opens 22 = .ok (.iadd, 1) := by decide +kernel
theorem dX4_opens_23 : decode cX4_opens 23 = .ok (.putfield 43, 3) := by decide +kernel
theorem dX4_opens_26 : decode cX4_opens 26 = .ok (.iconst 1, 1) := by decide +kernel
theorem dX4_opens_27 : decode cX4_opens 27 = .ok (.ireturn, 1) := by decide +kernel
theorem dX4_take_0 : decode cX4_take 0 = .ok (.aload_n 0, 1) := by decide +kernel
theorem dX4_take_1 : decode cX4_take 1 = .ok (.getfield 55, 3) := by decide +kernel
theorem dX4_take_4 : decode cX4_take 4 = .ok (.iload_n 1, 1) := by decide +kernel
theorem dX4_take_5 : decode cX4_take 5 = .ok (.if_icmp .ne 10, 3) := by decide +kernel
theorem dX4_take_8 : decode cX4_take 8 = .ok (.aload_n 0, 1) := by decide +kernel
theorem dX4_take_9 : decode cX4_take 9 = .ok (.invokevirtual 52, 3) := by decide +kernel
theorem dX4_take_12 : decode cX4_take 12 = .ok (.goto 8, 3) := by decide +kernel
theorem dX4_take_15 : decode cX4_take 15 = .ok (.aload_n 0, 1) := by decide +kernel
theorem dX4_take_16 : decode cX4_take 16 = .ok (.iconst 1, 1) := by decide +kernel
theorem dX4_take_17 : decode cX4_take 17 = .ok (.invokevirtual 77, 3) := by decide +kernel
theorem dX4_take_20 : decode cX4_take 20 = .ok (.return_, 1) := by decide +kernel
theorem dX4_fail_0 : decode cX4_fail 0 = .ok (.aload_n 0, 1) := by decide +kernel
theorem dX4_fail_1 : decode cX4_fail 1 = .ok (.getfield 46, 3) := by decide +kernel
theorem dX4_fail_4 : decode cX4_fail 4 = .ok (.ifCond .ne 16, 3) := by decide +kernel
theorem dX4_fail_7 : decode cX4_fail 7 = .ok (.aload_n 0, 1) := by decide +kernel
theorem dX4_fail_8 : decode cX4_fail 8 = .ok (.iload_n 1, 1) := by decide +kernel
theorem dX4_fail_9 : decode cX4_fail 9 = .ok (.putfield 46, 3) := by decide +kernel
theorem dX4_fail_12 : decode cX4_fail 12 = .ok (.aload_n 0, 1) := by decide +kernel
theorem dX4_fail_13 : decode cX4_fail 13 = .ok (.aload_n 0, 1) := by decide +kernel
theorem dX4_fail_14 : decode cX4_fail 14 = .ok (.getfield 121, 3) := by decide +kernel
theorem dX4_fail_17 : decode cX4_fail 17 = .ok (.putfield 49, 3) := by decide +kernel
theorem dX4_fail_20 : decode cX4_fail 20 = .ok (.aload_n 0, 1) := by decide +kernel
theorem dX4_fail_21 : decode cX4_fail 21 = .ok (.bipush (-4), 2) := by decide +kernel
theorem dX4_fail_23 : decode cX4_fail 23 = .ok (.putfield 55, 3) := by decide +kernel
theorem dX4_fail_26 : decode cX4_fail 26 = .ok (.return_, 1) := by decide +kernel
theorem dX4_emit_0 : decode cX4_emit 0 = .ok (.aload_n 0, 1) := by decide +kernel
theorem dX4_emit_1 : decode cX4_emit 1 = .ok (.getfield 37, 3) := by decide +kernel
theorem dX4_emit_4 : decode cX4_emit 4 = .ok (.aload_n 0, 1) := by decide +kernel
theorem dX4_emit_5 : decode cX4_emit 5 = .ok (.getfield 9, 3) := by decide +kernel
theorem dX4_emit_8 : decode cX4_emit 8 = .ok (.arraylength, 1) := by decide +kernel
theorem dX4_emit_9 : decode cX4_emit 9 = .ok (.if_icmp .ge 29, 3) := by decide +kernel
theorem dX4_emit_12 : decode cX4_emit 12 = .ok (.aload_n 0, 1) := by decide +kernel
theorem dX4_emit_13 : decode cX4_emit 13 = .ok (.getfield 9, 3) := by decide +kernel
theorem dX4_emit_16 : decode cX4_emit 16 = .ok (.aload_n 0, 1) := by decide +kernel
theorem dX4_emit_17 : decode cX4_emit 17 = .ok (.getfield 37, 3) := by decide +kernel
theorem dX4_emit_20 : decode cX4_emit 20 = .ok (.iload_n 2, 1) := by decide +kernel
theorem dX4_emit_21 : decode cX4_emit 21 = .ok (.sipush 512, 3) := by decide +kernel
theorem dX4_emit_24 : decode cX4_emit 24 = .ok (.imul, 1) := by decide +kernel
theorem dX4_emit_25 : decode cX4_emit 25 = .ok (.iload_n 1, 1) := by decide +kernel
theorem dX4_emit_26 : decode cX4_emit 26 = .ok (.iadd, 1) := by decide +kernel
theorem dX4_emit_27 : decode cX4_emit 27 = .ok (.iastore, 1) := by decide +kernel
theorem dX4_emit_28 : decode cX4_emit 28 = .ok (.aload_n 0, 1) := by decide +kernel
theorem dX4_emit_29 : decode cX4_emit 29 = .ok (.dup, 1) := by decide +kernel
theorem dX4_emit_30 : decode cX4_emit 30 = .ok (.getfield 37, 3) := by decide +kernel
theorem dX4_emit_33 : decode cX4_emit 33 = .ok (.iconst 1, 1) := by decide +kernel
theorem dX4_emit_34 : decode cX4_emit 34 = .ok (.iadd, 1) := by decide +kernel
theorem dX4_emit_35 : decode cX4_emit 35 = .ok (.putfield 37, 3) := by decide +kernel
theorem dX4_emit_38 : decode cX4_emit 38 = .ok (.return_, 1) := by decide +kernel
theorem dX4_advance_0 : decode cX4_advance 0 = .ok (.aload_n 0, 1) := by decide +kernel
theorem dX4_advance_1 : decode cX4_advance 1 = .ok (.getfield 40, 3) := by decide +kernel
theorem dX4_advance_4 : decode cX4_advance 4 = .ok (.istore_n 1, 1) := by decide +kernel
theorem dX4_advance_5 : decode cX4_advance 5 = .ok (.iload_n 1, 1) := by decide +kernel
theorem dX4_advance_6 : decode cX4_advance 6 = .ok (.aload_n 0, 1) := by decide +kernel
theorem dX4_advance_7 : decode cX4_advance 7 = .ok (.getfield 27, 3) := by decide +kernel
theorem dX4_advance_10 : decode cX4_advance 10 = .ok (.if_icmp .ge 20, 3) := by decide +kernel
theorem dX4_advance_13 : decode cX4_advance 13 = .ok (.aload_n 0, 1) := by decide +kernel
theorem dX4_advance_14 : decode cX4_advance 14 = .ok (.getfield 15, 3) := by decide +kernel
theorem dX4_advance_17 : decode cX4_advance 17 = .ok (.iload_n 1, 1) := by decide +kernel
theorem dX4_advance_18 : decode cX4_advance 18 = .ok (.iaload, 1) := by decide +kernel
theorem dX4_advance_19 : decode cX4_advance 19 = .ok (.bipush 32, 2) := by decide +kernel
theorem dX4_advance_21 : decode cX4_advance 21 = .ok (.if_icmp .ne 9, 3) := by decide +kernel
theorem dX4_advance_24 : decode cX4_advance 24 = .ok (.iinc 1 1, 3) := by decide +kernel
theorem dX4_advance_27 : decode cX4_advance 27 = .ok (.goto (-22), 3) := by decide +kernel
theorem dX4_advance_30 : decode cX4_advance 30 = .ok (.aload_n 0, 1) := by decide +kernel
theorem dX4_advance_31 : decode cX4_advance 31 = .ok (.iload_n 1, 1) := by decide +kernel
theorem dX4_advance_32 : decode cX4_advance 32 = .ok (.putfield 121, 3) := by decide +kernel
theorem dX4_advance_35 : decode cX4_advance 35 = .ok (.aload_n 0, 1) := by decide +kernel
theorem dX4_advance_36 : decode cX4_advance 36 = .ok (.iload_n 1, 1) := by decide +kernel
theorem dX4_advance_37 : decode cX4_advance 37 = .ok (.putfield 40, 3) := by decide +kernel
theorem dX4_advance_40 : decode cX4_advance 40 = .ok (.iload_n 1, 1) := by decide +kernel
theorem dX4_advance_41 : decode cX4_advance 41 = .ok (.aload_n 0, 1) := by decide +kernel
theorem dX4_advance_42 : decode cX4_advance 42 = .ok (.getfield 27, 3) := by decide +kernel
theorem dX4_advance_45 : decode cX4_advance 45 = .ok (.if_icmp .lt 11, 3) := by decide +kernel
theorem dX4_advance_48 : decode cX4_advance 48 = .ok (.aload_n 0, 1) := by decide +kernel
theorem dX4_advance_49 : decode cX4_advance 49 = .ok (.iconst (-1), 1) := by decide +kernel
theorem dX4_advance_50 : decode cX4_advance 50 = .ok (.putfield 55, 3) := by decide +kernel
theorem dX4_advance_53 : decode cX4_advance 53 = .ok (.goto 109, 3) := by decide +kernel
theorem dX4_advance_56 : decode cX4_advance 56 = .ok (.aload_n 0, 1) := by decide +kernel
theorem dX4_advance_57 : decode cX4_advance 57 = .ok (.getfield 15, 3) := by decide +kernel
theorem dX4_advance_60 : decode cX4_advance 60 = .ok (.iload_n 1, 1) := by decide +kernel
theorem dX4_advance_61 : decode cX4_advance 61 = .ok (.iaload, 1) := by decide +kernel
theorem dX4_advance_62 : decode cX4_advance 62 = .ok (.invokestatic 124, 3) := by decide +kernel
theorem dX4_advance_65 : decode cX4_advance 65 = .ok (.ifCond .eq 10, 3) := by decide +kernel
theorem dX4_advance_68 : decode cX4_advance 68 = .ok (.aload_n 0, 1) := by decide +kernel
theorem dX4_advance_69 : decode cX4_advance 69 = .ok (.invokevirtual 127, 3) := by decide +kernel
theorem dX4_advance_72 : decode cX4_advance 72 = .ok (.goto 90, 3) := by decide +kernel
theorem dX4_advance_75 : decode cX4_advance 75 = .ok (.aload_n 0, 1) := by decide +kernel
theorem dX4_advance_76 : decode cX4_advance 76 = .ok (.getfield 15, 3) := by decide +kernel
theorem dX4_advance_79 : decode cX4_advance 79 = .ok (.iload_n 1, 1) := by decide +kernel
theorem dX4_advance_80 : decode cX4_advance 80 = .ok (.iaload, 1) := by decide +kernel
theorem dX4_advance_81 : decode cX4_advance 81 = .ok (.invokestatic 130, 3) := by decide +kernel
theorem dX4_advance_84 : decode cX4_advance 84 = .ok (.ifCond .eq 61, 3) := by decide +kernel
theorem dX4_advance_87 : decode cX4_advance 87 = .ok (.aload_n 0, 1) := by decide +kernel
theorem dX4_advance_88 : decode cX4_advance 88 = .ok (.getfield 40, 3) := by decide +kernel
theorem dX4_advance_91 : decode cX4_advance 91 = .ok (.aload_n 0, 1) := by decide +kernel
theorem dX4_advance_92 : decode cX4_advance 92 = .ok (.getfield 27, 3) := by decide +kernel
theorem dX4_advance_95 : decode cX4_advance 95 = .ok (.if_icmp .ge 31, 3) := by decide +kernel
theorem dX4_advance_98 : decode cX4_advance 98 = .ok (.aload_n 0, 1) := by decide +kernel
theorem dX4_advance_99 : decode cX4_advance 99 = .ok (.getfield 15, 3) := by decide +kernel
theorem dX4_advance_102 : decode cX4_advance 102 = .ok (.aload_n 0, 1) := by decide +kernel
theorem dX4_advance_103 : decode cX4_advance 103 = .ok (.getfield 40, 3) := by decide +kernel
theorem dX4_advance_106 : decode cX4_advance 106 = .ok (.iaload, 1) := by decide +kernel
theorem dX4_advance_107 : decode cX4_advance 107 = .ok (.invokestatic 130, 3) := by decide +kernel
theorem dX4_advance_110 : decode cX4_advance 110 = .ok (.ifCond .eq 16, 3) := by decide +kernel
theorem dX4_advance_113 : decode cX4_advance 113 = .ok (.aload_n 0, 1) := by decide +kernel
theorem dX4_advance_114 : decode cX4_advance 114 = .ok (.dup, 1) := by decide +kernel
theorem dX4_advance_115 : decode cX4_advance 115 = .ok (.getfield 40, 3) := by decide +kernel
theorem dX4_advance_118 : decode cX4_advance 118 = .ok (.iconst 1, 1) := by decide +kernel
theorem dX4_advance_119 : decode cX4_advance 119 = .ok (.iadd, 1) := by decide +kernel
theorem dX4_advance_120 : decode cX4_advance 120 = .ok (.putfield 40, 3) := by decide +kernel
theorem dX4_advance_123 : decode cX4_advance 123 = .ok (.goto (-36), 3) := by decide +kernel
theorem dX4_advance_126 : decode cX4_advance 126 = .ok (.aload_n 0, 1) := by decide +kernel
theorem dX4_advance_127 : decode cX4_advance 127 = .ok (.aload_n 0, 1) := by decide +kernel
theorem dX4_advance_128 : decode cX4_advance 128 = .ok (.aload_n 0, 1) := by decide +kernel
theorem dX4_advance_129 : decode cX4_advance 129 = .ok (.getfield 121, 3) := by decide +kernel
theorem dX4_advance_132 : decode cX4_advance 132 = .ok (.aload_n 0, 1) := by decide +kernel
theorem dX4_advance_133 : decode cX4_advance 133 = .ok (.getfield 40, 3) := by decide +kernel
theorem dX4_advance_136 : decode cX4_advance 136 = .ok (.invokevirtual 133, 3) := by decide +kernel
theorem dX4_advance_139 : decode cX4_advance 139 = .ok (.putfield 55, 3) := by decide +kernel
theorem dX4_advance_142 : decode cX4_advance 142 = .ok (.goto 20, 3) := by decide +kernel
theorem dX4_advance_145 : decode cX4_advance 145 = .ok (.aload_n 0, 1) := by decide +kernel
theorem dX4_advance_146 : decode cX4_advance 146 = .ok (.aload_n 0, 1) := by decide +kernel
theorem dX4_advance_147 : decode cX4_advance 147 = .ok (.getfield 15, 3) := by decide +kernel
theorem dX4_advance_150 : decode cX4_advance 150 = .ok (.iload_n 1, 1) := by decide +kernel
theorem dX4_advance_151 : decode cX4_advance 151 = .ok (.iaload, 1) := by decide +kernel
theorem dX4_advance_152 : decode cX4_advance 152 = .ok (.putfield 55, 3) := by decide +kernel
theorem dX4_advance_155 : decode cX4_advance 155 = .ok (.aload_n 0, 1) := by decide +kernel
theorem dX4_advance_156 : decode cX4_advance 156 = .ok (.iload_n 1, 1) := by decide +kernel
theorem dX4_advance_157 : decode cX4_advance 157 = .ok (.iconst 1, 1) := by decide +kernel
theorem dX4_advance_158 : decode cX4_advance 158 = .ok (.iadd, 1) := by decide +kernel
theorem dX4_advance_159 : decode cX4_advance 159 = .ok (.putfield 40, 3) := by decide +kernel
theorem dX4_advance_162 : decode cX4_advance 162 = .ok (.return_, 1) := by decide +kernel
theorem dX4_isDigit_0 : decode cX4_isDigit 0 = .ok (.iload_n 0, 1) := by decide +kernel
theorem dX4_isDigit_1 : decode cX4_isDigit 1 = .ok (.bipush 48, 2) := by decide +kernel
theorem dX4_isDigit_3 : decode cX4_isDigit 3 = .ok (.if_icmp .lt 13, 3) := by decide +kernel
theorem dX4_isDigit_6 : decode cX4_isDigit 6 = .ok (.iload_n 0, 1) := by decide +kernel
theorem dX4_isDigit_7 : decode cX4_isDigit 7 = .ok (.bipush 57, 2) := by decide +kernel
theorem dX4_isDigit_9 : decode cX4_isDigit 9 = .ok (.if_icmp .gt 7, 3) := by decide +kernel
theorem dX4_isDigit_12 : decode cX4_isDigit 12 = .ok (.iconst 1, 1) := by decide +kernel
theorem dX4_isDigit_13 : decode cX4_isDigit 13 = .ok (.goto 4, 3) := by decide +kernel
theorem dX4_isDigit_16 : decode cX4_isDigit 16 = .ok (.iconst 0, 1) := by decide +kernel
theorem dX4_isDigit_17 : decode cX4_isDigit 17 = .ok (.ireturn, 1) := by decide +kernel
theorem dX4_isLetter_0 : decode cX4_isLetter 0 = .ok (.iload_n 0, 1) := by decide +kernel
theorem dX4_isLetter_1 : decode cX4_isLetter 1 = .ok (.bipush 97, 2) := by decide +kernel
theorem dX4_isLetter_3 : decode cX4_isLetter 3 = .ok (.if_icmp .lt 13, 3) := by decide +kernel
theorem dX4_isLetter_6 : decode cX4_isLetter 6 = .ok (.iload_n 0, 1) := by decide +kernel
theorem dX4_isLetter_7 : decode cX4_isLetter 7 = .ok (.bipush 122, 2) := by decide +kernel
theorem dX4_isLetter_9 : decode cX4_isLetter 9 = .ok (.if_icmp .gt 7, 3) := by decide +kernel
theorem dX4_isLetter_12 : decode cX4_isLetter 12 = .ok (.iconst 1, 1) := by decide +kernel
theorem dX4_isLetter_13 : decode cX4_isLetter 13 = .ok (.goto 4, 3) := by decide +kernel
theorem dX4_isLetter_16 : decode cX4_isLetter 16 = .ok (.iconst 0, 1) := by decide +kernel
theorem dX4_isLetter_17 : decode cX4_isLetter 17 = .ok (.ireturn, 1) := by decide +kernel
theorem dX4_scanNumber_0 : decode cX4_scanNumber 0 = .ok (.aload_n 0, 1) := by decide +kernel
theorem dX4_scanNumber_1 : decode cX4_scanNumber 1 = .ok (.bipush (-2), 2) := by decide +kernel
theorem dX4_scanNumber_3 : decode cX4_scanNumber 3 = .ok (.putfield 55, 3) := by decide +kernel
theorem dX4_scanNumber_6 : decode cX4_scanNumber 6 = .ok (.aload_n 0, 1) := by decide +kernel
theorem dX4_scanNumber_7 : decode cX4_scanNumber 7 = .ok (.iconst 0, 1) := by decide +kernel
theorem dX4_scanNumber_8 : decode cX4_scanNumber 8 = .ok (.putfield 118, 3) := by decide +kernel
theorem dX4_scanNumber_11 : decode cX4_scanNumber 11 = .ok (.aload_n 0, 1) := by decide +kernel
theorem dX4_scanNumber_12 : decode cX4_scanNumber 12 = .ok (.getfield 40, 3) := by decide +kernel
theorem dX4_scanNumber_15 : decode cX4_scanNumber 15 = .ok (.aload_n 0, 1) := by decide +kernel
theorem dX4_scanNumber_16 : decode cX4_scanNumber 16 = .ok (.getfield 27, 3) := by decide +kernel
theorem dX4_scanNumber_19 : decode cX4_scanNumber 19 = .ok (.if_icmp .ge 61, 3) := by decide +kernel
theorem dX4_scanNumber_22 : decode cX4_scanNumber 22 = .ok (.aload_n 0, 1) := by decide +kernel
theorem dX4_scanNumber_23 : decode cX4_scanNumber 23 = .ok (.getfield 15, 3) := by decide +kernel
theorem dX4_scanNumber_26 : decode cX4_scanNumber 26 = .ok (.aload_n 0, 1) := by decide +kernel
theorem dX4_scanNumber_27 : decode cX4_scanNumber 27 = .ok (.getfield 40, 3) := by decide +kernel
theorem dX4_scanNumber_30 : decode cX4_scanNumber 30 = .ok (.iaload, 1) := by decide +kernel
theorem dX4_scanNumber_31 : decode cX4_scanNumber 31 = .ok (.invokestatic 124, 3) := by decide +kernel
theorem dX4_scanNumber_34 : decode cX4_scanNumber 34 = .ok (.ifCond .eq 46, 3) := by decide +kernel
theorem dX4_scanNumber_37 : decode cX4_scanNumber 37 = .ok (.aload_n 0, 1) := by decide +kernel
theorem dX4_scanNumber_38 : decode cX4_scanNumber 38 = .ok (.aload_n 0, 1) := by decide +kernel
