theorem dX11_ran_44 : decode cX11_ran 44 = .ok (.ireturn, 1) := by decide +kernel
theorem dX11_seed_0 : decode cX11_seed 0 = .ok (.aload_n 0, 1) := by decide +kernel
theorem dX11_seed_1 : decode cX11_seed 1 = .ok (.getfield 12, 3) := by decide +kernel
theorem dX11_seed_4 : decode cX11_seed 4 = .ok (.getfield 205, 3) := by decide +kernel
theorem dX11_seed_7 : decode cX11_seed 7 = .ok (.istore_n 2, 1) := by decide +kernel
theorem dX11_seed_8 : decode cX11_seed 8 = .ok (.aload_n 0, 1) := by decide +kernel
theorem dX11_seed_9 : decode cX11_seed 9 = .ok (.getfield 12, 3) := by decide +kernel
theorem dX11_seed_12 : decode cX11_seed 12 = .ok (.iload_n 1, 1) := by decide +kernel
theorem dX11_seed_13 : decode cX11_seed 13 = .ok (.putfield 205, 3) := by decide +kernel
theorem dX11_seed_16 : decode cX11_seed 16 = .ok (.iload_n 2, 1) := by decide +kernel
theorem dX11_seed_17 : decode cX11_seed 17 = .ok (.ireturn, 1) := by decide +kernel
theorem dX11_wire_0 : decode cX11_wire 0 = .ok (.aload_n 0, 1) := by decide +kernel
theorem dX11_wire_1 : decode cX11_wire 1 = .ok (.invokevirtual 151, 3) := by decide +kernel
theorem dX11_wire_4 : decode cX11_wire 4 = .ok (.aload_n 0, 1) := by decide +kernel
theorem dX11_wire_5 : decode cX11_wire 5 = .ok (.getfield 51, 3) := by decide +kernel
theorem dX11_wire_8 : decode cX11_wire 8 = .ok (.invokevirtual 208, 3) := by decide +kernel
theorem dX11_wire_11 : decode cX11_wire 11 = .ok (.lreturn, 1) := by decide +kernel
theorem dX11_fits_0 : decode cX11_fits 0 = .ok (.iload_n 1, 1) := by decide +kernel
theorem dX11_fits_1 : decode cX11_fits 1 = .ok (.iconst 0, 1) := by decide +kernel
theorem dX11_fits_2 : decode cX11_fits 2 = .ok (.bipush 99, 2) := by decide +kernel
theorem dX11_fits_4 : decode cX11_fits 4 = .ok (.invokestatic 59, 3) := by decide +kernel
theorem dX11_fits_7 : decode cX11_fits 7 = .ok (.invokestatic 63, 3) := by decide +kernel
theorem dX11_fits_10 : decode cX11_fits 10 = .ok (.aload_n 0, 1) := by decide +kernel
theorem dX11_fits_11 : decode cX11_fits 11 = .ok (.getfield 51, 3) := by decide +kernel
theorem dX11_fits_14 : decode cX11_fits 14 = .ok (.aload_n 0, 1) := by decide +kernel
theorem dX11_fits_15 : decode cX11_fits 15 = .ok (.getfield 39, 3) := by decide +kernel
theorem dX11_fits_18 : decode cX11_fits 18 = .ok (.iload_n 1, 1) := by decide +kernel
theorem dX11_fits_19 : decode cX11_fits 19 = .ok (.invokevirtual 212, 3) := by decide +kernel
theorem dX11_fits_22 : decode cX11_fits 22 = .ok (.ireturn, 1) := by decide +kernel
theorem dX11_telling_0 : decode cX11_telling 0 = .ok (.aload_n 0, 1) := by decide +kernel
theorem dX11_telling_1 : decode cX11_telling 1 = .ok (.invokevirtual 151, 3) := by decide +kernel
theorem dX11_telling_4 : decode cX11_telling 4 = .ok (.iload_n 1, 1) := by decide +kernel
theorem dX11_telling_5 : decode cX11_telling 5 = .ok (.iconst 0, 1) := by decide +kernel
theorem dX11_telling_6 : decode cX11_telling 6 = .ok (.bipush 99, 2) := by decide +kernel
theorem dX11_telling_8 : decode cX11_telling 8 = .ok (.invokestatic 59, 3) := by decide +kernel
theorem dX11_telling_11 : decode cX11_telling 11 = .ok (.invokestatic 63, 3) := by decide +kernel
theorem dX11_telling_14 : decode cX11_telling 14 = .ok (.aload_n 0, 1) := by decide +kernel
theorem dX11_telling_15 : decode cX11_telling 15 = .ok (.getfield 51, 3) := by decide +kernel
theorem dX11_telling_18 : decode cX11_telling 18 = .ok (.aload_n 0, 1) := by decide +kernel
theorem dX11_telling_19 : decode cX11_telling 19 = .ok (.getfield 39, 3) := by decide +kernel
theorem dX11_telling_22 : decode cX11_telling 22 = .ok (.aload_n 0, 1) := by decide +kernel
theorem dX11_telling_23 : decode cX11_telling 23 = .ok (.getfield 51, 3) := by decide +kernel
theorem dX11_telling_26 : decode cX11_telling 26 = .ok (.aload_n 0, 1) := by decide +kernel
theorem dX11_telling_27 : decode cX11_telling 27 = .ok (.getfield 39, 3) := by decide +kernel
theorem dX11_telling_30 : decode cX11_telling 30 = .ok (.iload_n 1, 1) := by decide +kernel
theorem dX11_telling_31 : decode cX11_telling 31 = .ok (.invokevirtual 212, 3) := by decide +kernel
theorem dX11_telling_34 : decode cX11_telling 34 = .ok (.invokevirtual 216, 3) := by decide +kernel
theorem dX11_telling_37 : decode cX11_telling 37 = .ok (.ireturn, 1) := by decide +kernel
theorem dX11_earlier_0 : decode cX11_earlier 0 = .ok (.iload_n 1, 1) := by decide +kernel
theorem dX11_earlier_1 : decode cX11_earlier 1 = .ok (.iconst 1, 1) := by decide +kernel
theorem dX11_earlier_2 : decode cX11_earlier 2 = .ok (.ldc 165, 2) := by decide +kernel
theorem dX11_earlier_4 : decode cX11_earlier 4 = .ok (.invokestatic 59, 3) := by decide +kernel
theorem dX11_earlier_7 : decode cX11_earlier 7 = .ok (.ifCond .eq 17, 3) := by decide +kernel
theorem dX11_earlier_10 : decode cX11_earlier 10 = .ok (.iload_n 2, 1) := by decide +kernel
theorem dX11_earlier_11 : decode cX11_earlier 11 = .ok (.iconst 0, 1) := by decide +kernel
theorem dX11_earlier_12 : decode cX11_earlier 12 = .ok (.ldc 165, 2) := by decide +kernel
theorem dX11_earlier_14 : decode cX11_earlier 14 = .ok (.invokestatic 59, 3) := by decide +kernel
theorem dX11_earlier_17 : decode cX11_earlier 17 = .ok (.ifCond .eq 7, 3) := by decide +kernel
theorem dX11_earlier_20 : decode cX11_earlier 20 = .ok (.iconst 1, 1) := by decide +kernel
theorem dX11_earlier_21 : decode cX11_earlier 21 = .ok (.goto 4, 3) := by decide +kernel
theorem dX11_earlier_24 : decode cX11_earlier 24 = .ok (.iconst 0, 1) := by decide +kernel
theorem dX11_earlier_25 : decode cX11_earlier 25 = .ok (.invokestatic 63, 3) := by decide +kernel
theorem dX11_earlier_28 : decode cX11_earlier 28 = .ok (.aload_n 0, 1) := by decide +kernel
theorem dX11_earlier_29 : decode cX11_earlier 29 = .ok (.getfield 12, 3) := by decide +kernel
theorem dX11_earlier_32 : decode cX11_earlier 32 = .ok (.getfield 219, 3) := by decide +kernel
theorem dX11_earlier_35 : decode cX11_earlier 35 = .ok (.iload_n 1, 1) := by decide +kernel
theorem dX11_earlier_36 : decode cX11_earlier 36 = .ok (.iload_n 2, 1) := by decide +kernel
theorem dX11_earlier_37 : decode cX11_earlier 37 = .ok (.invokevirtual 223, 3) := by decide +kernel
theorem dX11_earlier_40 : decode cX11_earlier 40 = .ok (.ireturn, 1) := by decide +kernel
theorem dX11_ratio_0 : decode cX11_ratio 0 = .ok (.aload_n 0, 1) := by decide +kernel
theorem dX11_ratio_1 : decode cX11_ratio 1 = .ok (.getfield 12, 3) := by decide +kernel
theorem dX11_ratio_4 : decode cX11_ratio 4 = .ok (.getfield 219, 3) := by decide +kernel
theorem dX11_ratio_7 : decode cX11_ratio 7 = .ok (.invokevirtual 228, 3) := by decide +kernel
theorem dX11_ratio_10 : decode cX11_ratio 10 = .ok (.istore_n 2, 1) := by decide +kernel
theorem dX11_ratio_11 : decode cX11_ratio 11 = .ok (.iload_n 2, 1) := by decide +kernel
theorem dX11_ratio_12 : decode cX11_ratio 12 = .ok (.ifCond .eq 14, 3) := by decide +kernel
theorem dX11_ratio_15 : decode cX11_ratio 15 = .ok (.iload_n 1, 1) := by decide +kernel
theorem dX11_ratio_16 : decode cX11_ratio 16 = .ok (.iconst (-1), 1) := by decide +kernel
theorem dX11_ratio_17 : decode cX11_ratio 17 = .ok (.iload_n 2, 1) := by decide +kernel
theorem dX11_ratio_18 : decode cX11_ratio 18 = .ok (.iconst 1, 1) := by decide +kernel
theorem dX11_ratio_19 : decode cX11_ratio 19 = .ok (.isub, 1) := by decide +kernel
theorem dX11_ratio_20 : decode cX11_ratio 20 = .ok (.invokestatic 59, 3) := by decide +kernel
theorem dX11_ratio_23 : decode cX11_ratio 23 = .ok (.ifCond .ne 11, 3) := by decide +kernel
theorem dX11_ratio_26 : decode cX11_ratio 26 = .ok (.new 199, 3) := by decide +kernel
theorem dX11_ratio_29 : decode cX11_ratio 29 = .ok (.dup, 1) := by decide +kernel
theorem dX11_ratio_30 : decode cX11_ratio 30 = .ok (.invokespecial 201, 3) := by decide +kernel
theorem dX11_ratio_33 : decode cX11_ratio 33 = .ok (.athrow, 1) := by decide +kernel
theorem dX11_ratio_34 : decode cX11_ratio 34 = .ok (.iload_n 1, 1) := by decide +kernel
theorem dX11_ratio_35 : decode cX11_ratio 35 = .ok (.iconst (-1), 1) := by decide +kernel
theorem dX11_ratio_36 : decode cX11_ratio 36 = .ok (.if_icmp .ne 16, 3) := by decide +kernel
theorem dX11_ratio_39 : decode cX11_ratio 39 = .ok (.aload_n 0, 1) := by decide +kernel
theorem dX11_ratio_40 : decode cX11_ratio 40 = .ok (.getfield 12, 3) := by decide +kernel
theorem dX11_ratio_43 : decode cX11_ratio 43 = .ok (.getfield 219, 3) := by decide +kernel
theorem dX11_ratio_46 : decode cX11_ratio 46 = .ok (.invokevirtual 231, 3) := by decide +kernel
theorem dX11_ratio_49 : decode cX11_ratio 49 = .ok (.goto 14, 3) := by decide +kernel
theorem dX11_ratio_52 : decode cX11_ratio 52 = .ok (.aload_n 0, 1) := by decide +kernel
theorem dX11_ratio_53 : decode cX11_ratio 53 = .ok (.getfield 12, 3) := by decide +kernel
theorem dX11_ratio_56 : decode cX11_ratio 56 = .ok (.getfield 219, 3) := by decide +kernel
theorem dX11_ratio_59 : decode cX11_ratio 59 = .ok (.iload_n 1, 1) := by decide +kernel
theorem dX11_ratio_60 : decode cX11_ratio 60 = .ok (.invokevirtual 234, 3) := by decide +kernel
theorem dX11_ratio_63 : decode cX11_ratio 63 = .ok (.ireturn, 1) := by decide +kernel
theorem dX11_strange_0 : decode cX11_strange 0 = .ok (.iload_n 1, 1) := by decide +kernel
theorem dX11_strange_1 : decode cX11_strange 1 = .ok (.iconst 0, 1) := by decide +kernel
theorem dX11_strange_2 : decode cX11_strange 2 = .ok (.sipush 9999, 3) := by decide +kernel
theorem dX11_strange_5 : decode cX11_strange 5 = .ok (.invokestatic 59, 3) := by decide +kernel
theorem dX11_strange_8 : decode cX11_strange 8 = .ok (.invokestatic 63, 3) := by decide +kernel
theorem dX11_strange_11 : decode cX11_strange 11 = .ok (.aload_n 0, 1) := by decide +kernel
theorem dX11_strange_12 : decode cX11_strange 12 = .ok (.getfield 12, 3) := by decide +kernel
theorem dX11_strange_15 : decode cX11_strange 15 = .ok (.getfield 219, 3) := by decide +kernel
theorem dX11_strange_18 : decode cX11_strange 18 = .ok (.iload_n 1, 1) := by decide +kernel
theorem dX11_strange_19 : decode cX11_strange 19 = .ok (.invokevirtual 237, 3) := by decide +kernel
theorem dX11_strange_22 : decode cX11_strange 22 = .ok (.ireturn, 1) := by decide +kernel
theorem dX11_span_0 : decode cX11_span 0 = .ok (.iload_n 1, 1) := by decide +kernel
theorem dX11_span_1 : decode cX11_span 1 = .ok (.iconst 0, 1) := by decide +kernel
theorem dX11_span_2 : decode cX11_span 2 = .ok (.ldc 165, 2) := by decide +kernel
theorem dX11_span_4 : decode cX11_span 4 = .ok (.invokestatic 59, 3) := by decide +kernel
theorem dX11_span_7 : decode cX11_span 7 = .ok (.invokestatic 63, 3) := by decide +kernel
theorem dX11_span_10 : decode cX11_span 10 = .ok (.aload_n 0, 1) := by decide +kernel
theorem dX11_span_11 : decode cX11_span 11 = .ok (.getfield 12, 3) := by decide +kernel
theorem dX11_span_14 : decode cX11_span 14 = .ok (.getfield 219, 3) := by decide +kernel
theorem dX11_span_17 : decode cX11_span 17 = .ok (.iload_n 1, 1) := by decide +kernel
theorem dX11_span_18 : decode cX11_span 18 = .ok (.iload_n 2, 1) := by decide +kernel
theorem dX11_span_19 : decode cX11_span 19 = .ok (.invokevirtual 240, 3) := by decide +kernel
theorem dX11_span_22 : decode cX11_span 22 = .ok (.lreturn, 1) := by decide +kernel
theorem dX11_better_0 : decode cX11_better 0 = .ok (.aload_n 0, 1) := by decide +kernel
theorem dX11_better_1 : decode cX11_better 1 = .ok (.invokevirtual 151, 3) := by decide +kernel
theorem dX11_better_4 : decode cX11_better 4 = .ok (.aload_n 0, 1) := by decide +kernel
theorem dX11_better_5 : decode cX11_better 5 = .ok (.getfield 39, 3) := by decide +kernel
theorem dX11_better_8 : decode cX11_better 8 = .ok (.iload_n 1, 1) := by decide +kernel
theorem dX11_better_9 : decode cX11_better 9 = .ok (.invokestatic 157, 3) := by decide +kernel
theorem dX11_better_12 : decode cX11_better 12 = .ok (.astore_n 3, 1) := by decide +kernel
theorem dX11_better_13 : decode cX11_better 13 = .ok (.iload_n 2, 1) := by decide +kernel
theorem dX11_better_14 : decode cX11_better 14 = .ok (.iconst (-1), 1) := by decide +kernel
theorem dX11_better_15 : decode cX11_better 15 = .ok (.iconst 2, 1) := by decide +kernel
theorem dX11_better_16 : decode cX11_better 16 = .ok (.invokestatic 59, 3) := by decide +kernel
theorem dX11_better_19 : decode cX11_better 19 = .ok (.invokestatic 63, 3) := by decide +kernel
theorem dX11_better_22 : decode cX11_better 22 = .ok (.aload_n 0, 1) := by decide +kernel
theorem dX11_better_23 : decode cX11_better 23 = .ok (.getfield 51, 3) := by decide +kernel
theorem dX11_better_26 : decode cX11_better 26 = .ok (.aload_n 3, 1) := by decide +kernel
theorem dX11_better_27 : decode cX11_better 27 = .ok (.invokevirtual 244, 3) := by decide +kernel
theorem dX11_better_30 : decode cX11_better 30 = .ok (.ifCond .eq 14, 3) := by decide +kernel
theorem dX11_better_33 : decode cX11_better 33 = .ok (.aload_n 0, 1) := by decide +kernel
theorem dX11_better_34 : decode cX11_better 34 = .ok (.getfield 51, 3) := by decide +kernel
theorem dX11_better_37 : decode cX11_better 37 = .ok (.iload_n 2, 1) := by decide +kernel
theorem dX11_better_38 : decode cX11_better 38 = .ok (.invokevirtual 248, 3) := by decide +kernel
theorem dX11_better_41 : decode cX11_better 41 = .ok (.goto 6, 3) := by decide +kernel
theorem dX11_better_44 : decode cX11_better 44 = .ok (.ldc2_w 252, 3) := by decide +kernel
theorem dX11_better_47 : decode cX11_better 47 = .ok (.lreturn, 1) := by decide +kernel
theorem dX11_lines_0 : decode cX11_lines 0 = .ok (.aload_n 0, 1) := by decide +kernel
theorem dX11_lines_1 : decode cX11_lines 1 = .ok (.invokevirtual 151, 3) := by decide +kernel
theorem dX11_lines_4 : decode cX11_lines 4 = .ok (.aload_n 0, 1) := by decide +kernel
theorem dX11_lines_5 : decode cX11_lines 5 = .ok (.getfield 39, 3) := by decide +kernel
theorem dX11_lines_8 : decode cX11_lines 8 = .ok (.iload_n 1, 1) := by decide +kernel
theorem dX11_lines_9 : decode cX11_lines 9 = .ok (.invokestatic 157, 3) := by decide +kernel
theorem dX11_lines_12 : decode cX11_lines 12 = .ok (.astore_n 3, 1) := by decide +kernel
theorem dX11_lines_13 : decode cX11_lines 13 = .ok (.iload_n 2, 1) := by decide +kernel
theorem dX11_lines_14 : decode cX11_lines 14 = .ok (.iconst 0, 1) := by decide +kernel
theorem dX11_lines_15 : decode cX11_lines 15 = .ok (.bipush 20, 2) := by decide +kernel
theorem dX11_lines_17 : decode cX11_lines 17 = .ok (.invokestatic 59, 3) := by decide +kernel
theorem dX11_lines_20 : decode cX11_lines 20 = .ok (.invokestatic 63, 3) := by decide +kernel
theorem dX11_lines_23 : decode cX11_lines 23 = .ok (.iconst 0, 1) := by decide +kernel
theorem dX11_lines_24 : decode cX11_lines 24 = .ok (.istore 4, 2) := by decide +kernel
theorem dX11_lines_26 : decode cX11_lines 26 = .ok (.iconst 0, 1) := by decide +kernel
theorem dX11_lines_27 : decode cX11_lines 27 = .ok (.istore 5, 2) := by decide +kernel
theorem dX11_lines_29 : decode cX11_lines 29 = .ok (.iload 5, 2) := by decide +kernel
theorem dX11_lines_31 : decode cX11_lines 31 = .ok (.iload_n 2, 1) := by decide +kernel
theorem dX11_lines_32 : decode cX11_lines 32 = .ok (.if_icmp .ge 30, 3) := by decide +kernel
theorem dX11_lines_35 : decode cX11_lines 35 = .ok (.aload_n 0, 1) := by decide +kernel
theorem dX11_lines_36 : decode cX11_lines 36 = .ok (.getfield 51, 3) := by decide +kernel
theorem dX11_lines_39 : decode cX11_lines 39 = .ok (.aload_n 3, 1) := by decide +kernel
theorem dX11_lines_40 : decode cX11_lines 40 = .ok (.invokevirtual 244, 3) := by decide +kernel
theorem dX11_lines_43 : decode cX11_lines 43 = .ok (.ifCond .eq 19, 3) := by decide +kernel
theorem dX11_lines_46 : decode cX11_lines 46 = .ok (.aload_n 0, 1) := by decide +kernel
theorem dX11_lines_47 : decode cX11_lines 47 = .ok (.getfield 51, 3) := by decide +kernel
theorem dX11_lines_50 : decode cX11_lines 50 = .ok (.invokevirtual 254, 3) := by decide +kernel
theorem dX11_lines_53 : decode cX11_lines 53 = .ok (.iinc 4 1, 3) := by decide +kernel
theorem dX11_lines_56 : decode cX11_lines 56 = .ok (.iinc 5 1, 3) := by decide +kernel
theorem dX11_lines_59 : decode cX11_lines 59 = .ok (.goto (-30), 3) := by decide +kernel
theorem dX11_lines_62 : decode cX11_lines 62 = .ok (.iload 4, 2) := by decide +kernel
theorem dX11_lines_64 : decode cX11_lines 64 = .ok (.ireturn, 1) := by decide +kernel
theorem dX11_mile_0 : decode cX11_mile 0 = .ok (.iload_n 1, 1) := by decide +kernel
theorem dX11_mile_1 : decode cX11_mile 1 = .ok (.iconst 0, 1) := by decide +kernel
theorem dX11_mile_2 : decode cX11_mile 2 = .ok (.sipush 999, 3) := by decide +kernel
theorem dX11_mile_5 : decode cX11_mile 5 = .ok (.invokestatic 59, 3) := by decide +kernel
theorem dX11_mile_8 : decode cX11_mile 8 = .ok (.ifCond .eq 18, 3) := by decide +kernel
theorem dX11_mile_11 : decode cX11_mile 11 = .ok (.iload_n 2, 1) := by decide +kernel
theorem dX11_mile_12 : decode cX11_mile 12 = .ok (.bipush (-99), 2) := by decide +kernel
theorem dX11_mile_14 : decode cX11_mile 14 = .ok (.bipush 99, 2) := by decide +kernel
theorem dX11_mile_16 : decode cX11_mile 16 = .ok (.invokestatic 59, 3) := by decide +kernel
theorem dX11_mile_19 : decode cX11_mile 19 = .ok (.ifCond .eq 7, 3) := by decide +kernel
theorem dX11_mile_22 : decode cX11_mile 22 = .ok (.iconst 1, 1) := by decide +kernel
theorem dX11_mile_23 : decode cX11_mile 23 = .ok (.goto 4, 3) := by decide +kernel
theorem dX11_mile_26 : decode cX11_mile 26 = .ok (.iconst 0, 1) := by decide +kernel
theorem dX11_mile_27 : decode cX11_mile 27 = .ok (.invokestatic 63, 3) := by decide +kernel
theorem dX11_mile_30 : decode cX11_mile 30 = .ok (.aload_n 0, 1) := by decide +kernel
theorem dX11_mile_31 : decode cX11_mile 31 = .ok (.getfield 12, 3) := by decide +kernel
theorem dX11_mile_34 : decode cX11_mile 34 = .ok (.getfield 257, 3) := by decide +kernel
theorem dX11_mile_37 : decode cX11_mile 37 = .ok (.invokevirtual 192, 3) := by decide +kernel
theorem dX11_mile_40 : decode cX11_mile 40 = .ok (.ifCond .eq 5, 3) := by decide +kernel
theorem dX11_mile_43 : decode cX11_mile 43 = .ok (.iconst (-1), 1) := by decide +kernel
theorem dX11_mile_44 : decode cX11_mile 44 = .ok (.ireturn, 1) := by decide +kernel
theorem dX11_mile_45 : decode cX11_mile 45 = .ok (.aload_n 0, 1) := by decide +kernel
theorem dX11_mile_46 : decode cX11_mile 46 = .ok (.getfield 12, 3) := by decide +kernel
theorem dX11_mile_49 : decode cX11_mile 49 = .ok (.getfield 257, 3) := by decide +kernel
theorem dX11_mile_52 : decode cX11_mile 52 = .ok (.iload_n 1, 1) := by decide +kernel
theorem dX11_mile_53 : decode cX11_mile 53 = .ok (.iload_n 2, 1) := by decide +kernel
theorem dX11_mile_54 : decode cX11_mile 54 = .ok (.bipush 10, 2) := by decide +kernel
theorem dX11_mile_56 : decode cX11_mile 56 = .ok (.idiv, 1) := by decide +kernel
theorem dX11_mile_57 : decode cX11_mile 57 = .ok (.iadd, 1) := by decide +kernel
theorem dX11_mile_58 : decode cX11_mile 58 = .ok (.invokevirtual 260, 3) := by decide +kernel
theorem dX11_mile_61 : decode cX11_mile 61 = .ok (.aload_n 0, 1) := by decide +kernel
theorem dX11_mile_62 : decode cX11_mile 62 = .ok (.getfield 12, 3) := by decide +kernel
theorem dX11_mile_65 : decode cX11_mile 65 = .ok (.getfield 257, 3) := by decide +kernel
theorem dX11_mile_68 : decode cX11_mile 68 = .ok (.invokevirtual 99, 3) := by decide +kernel
theorem dX11_mile_71 : decode cX11_mile 71 = .ok (.ireturn, 1) := by decide +kernel
theorem dX11_mean_0 : decode cX11_mean 0 = .ok (.aload_n 0, 1) := by decide +kernel
theorem dX11_mean_1 : decode cX11_mean 1 = .ok (.getfield 12, 3) := by decide +kernel
theorem dX11_mean_4 : decode cX11_mean 4 = .ok (.getfield 257, 3) := by decide +kernel
theorem dX11_mean_7 : decode cX11_mean 7 = .ok (.invokevirtual 99, 3) := by decide +kernel
theorem dX11_mean_10 : decode cX11_mean 10 = .ok (.iconst 2, 1) := by decide +kernel
theorem dX11_mean_11 : decode cX11_mean 11 = .ok (.if_icmp .ge 9, 3) := by decide +kernel
theorem dX11_mean_14 : decode cX11_mean 14 = .ok (.ldc_w 263, 3) := by decide +kernel
theorem dX11_mean_17 : decode cX11_mean 17 = .ok (.goto 11, 3) := by decide +kernel
theorem dX11_mean_20 : decode cX11_mean 20 = .ok (.aload_n 0, 1) := by decide +kernel
theorem dX11_mean_21 : decode cX11_mean 21 = .ok (.getfield 12, 3) := by decide +kernel
theorem dX11_mean_24 : decode cX11_mean 24 = .ok (.iload_n 1, 1) := by decide +kernel
theorem dX11_mean_25 : decode cX11_mean 25 = .ok (.invokevirtual 264, 3) := by decide +kernel
theorem dX11_mean_28 : decode cX11_mean 28 = .ok (.ireturn, 1) := by decide +kernel
theorem dX11_anew_0 : decode cX11_anew 0 = .ok (.aload_n 0, 1) := by decide +kernel
theorem dX11_anew_1 : decode cX11_anew 1 = .ok (.getfield 12, 3) := by decide +kernel
theorem dX11_anew_4 : decode cX11_anew 4 = .ok (.getfield 257, 3) := by decide +kernel
theorem dX11_anew_7 : decode cX11_anew 7 = .ok (.invokevirtual 99, 3) := by decide +kernel
theorem dX11_anew_10 : decode cX11_anew 10 = .ok (.istore_n 1, 1) := by decide +kernel
theorem dX11_anew_11 : decode cX11_anew 11 = .ok (.aload_n 0, 1) := by decide +kernel
theorem dX11_anew_12 : decode cX11_anew 12 = .ok (.getfield 12, 3) := by decide +kernel
theorem dX11_anew_15 : decode cX11_anew 15 = .ok (.getfield 257, 3) := by decide +kernel
theorem dX11_anew_18 : decode cX11_anew 18 = .ok (.invokevirtual 110, 3) := by decide +kernel
theorem dX11_anew_21 : decode cX11_anew 21 = .ok (.iload_n 1, 1) := by decide +kernel
theorem dX11_anew_22 : decode cX11_anew 22 = .ok (.ireturn, 1) := by decide +kernel
theorem dX11_odds_0 : decode cX11_odds 0 = .ok (.iload_n 1, 1) := by decide +kernel
theorem dX11_odds_1 : decode cX11_odds 1 = .ok (.iconst 0, 1) := by decide +kernel
theorem dX11_odds_2 : decode cX11_odds 2 = .ok (.ldc 165, 2) := by decide +kernel
theorem dX11_odds_4 : decode cX11_odds 4 = .ok (.invokestatic 59, 3) := by decide +kernel
theorem dX11_odds_7 : decode cX11_odds 7 = .ok (.ifCond .eq 17, 3) := by decide +kernel
theorem dX11_odds_10 : decode cX11_odds 10 = .ok (.iload_n 2, 1) := by decide +kernel
theorem dX11_odds_11 : decode cX11_odds 11 = .ok (.iconst 0, 1) := by decide +kernel
theorem dX11_odds_12 : decode cX11_odds 12 = .ok (.ldc 165, 2) := by decide +kernel
theorem dX11_odds_14 : decode cX11_odds 14 = .ok (.invokestatic 59, 3) := by decide +kernel
theorem dX11_odds_17 : decode cX11_odds 17 = .ok (.ifCond .eq 7, 3) := by decide +kernel
theorem dX11_odds_20 : decode cX11_odds 20 = .ok (.iconst 1, 1) := by decide +kernel
theorem dX11_odds_21 : decode cX11_odds 21 = .ok (.goto 4, 3) := by decide +kernel
theorem dX11_odds_24 : decode cX11_odds 24 = .ok (.iconst 0, 1) := by decide +kernel
theorem dX11_odds_25 : decode cX11_odds 25 = .ok (.invokestatic 63, 3) := by decide +kernel
theorem dX11_odds_28 : decode cX11_odds 28 = .ok (.aload_n 0, 1) := by decide +kernel
theorem dX11_odds_29 : decode cX11_odds 29 = .ok (.getfield 12, 3) := by decide +kernel
theorem dX11_odds_32 : decode cX11_odds 32 = .ok (.getfield 219, 3) := by decide +kernel
theorem dX11_odds_35 : decode cX11_odds 35 = .ok (.iload_n 1, 1) := by decide +kernel
theorem dX11_odds_36 : decode cX11_odds 36 = .ok (.iload_n 2, 1) := by decide +kernel
theorem dX11_odds_37 : decode cX11_odds 37 = .ok (.invokevirtual 268, 3) := by decide +kernel
theorem dX11_odds_40 : decode cX11_odds 40 = .ok (.ireturn, 1) := by decide +kernel
theorem dX11_price_0 : decode cX11_price 0 = .ok (.iload_n 1, 1) := by decide +kernel
theorem dX11_price_1 : decode cX11_price 1 = .ok (.iconst 0, 1) := by decide +kernel
theorem dX11_price_2 : decode cX11_price 2 = .ok (.ldc 165, 2) := by decide +kernel
theorem dX11_price_4 : decode cX11_price 4 = .ok (.invokestatic 59, 3) := by decide +kernel
theorem dX11_price_7 : decode cX11_price 7 = .ok (.ifCond .eq 17, 3) := by decide +kernel
theorem dX11_price_10 : decode cX11_price 10 = .ok (.iload_n 2, 1) := by decide +kernel
theorem dX11_price_11 : decode cX11_price 11 = .ok (.iconst 0, 1) := by decide +kernel
theorem dX11_price_12 : decode cX11_price 12 = .ok (.ldc 165, 2) := by decide +kernel
theorem dX11_price_14 : decode cX11_price 14 = .ok (.invokestatic 59, 3) := by decide +kernel
theorem dX11_price_17 : decode cX11_price 17 = .ok (.ifCond .eq 7, 3) := by decide +kernel
theorem dX11_price_20 : decode cX11_price 20 = .ok (.iconst 1, 1) := by decide +kernel
theorem dX11_price_21 : decode cX11_price 21 = .ok (.goto 4, 3) := by decide +kernel
theorem dX11_price_24 : decode cX11_price 24 = .ok (.iconst 0, 1) := by decide +kernel
theorem dX11_price_25 : decode cX11_price 25 = .ok (.invokestatic 63, 3) := by decide +kernel
theorem dX11_price_28 : decode cX11_price 28 = .ok (.iload_n 3, 1) := by decide +kernel
theorem dX11_price_29 : decode cX11_price 29 = .ok (.iconst 0, 1) := by decide +kernel
theorem dX11_price_30 : decode cX11_price 30 = .ok (.sipush 9999, 3) := by decide +kernel
theorem dX11_price_33 : decode cX11_price 33 = .ok (.invokestatic 59, 3) := by decide +kernel
theorem dX11_price_36 : decode cX11_price 36 = .ok (.ifCond .eq 19, 3) := by decide +kernel
theorem dX11_price_39 : decode cX11_price 39 = .ok (.iload 4, 2) := by decide +kernel
theorem dX11_price_41 : decode cX11_price 41 = .ok (.iconst 0, 1) := by decide +kernel
theorem dX11_price_42 : decode cX11_price 42 = .ok (.sipush 9999, 3) := by decide +kernel
theorem dX11_price_45 : decode cX11_price 45 = .ok (.invokestatic 59, 3) := by decide +kernel
theorem dX11_price_48 : decode cX11_price 48 = .ok (.ifCond .eq 7, 3) := by decide +kernel
theorem dX11_price_51 : decode cX11_price 51 = .ok (.iconst 1, 1) := by decide +kernel
theorem dX11_price_52 : decode cX11_price 52 = .ok (.goto 4, 3) := by decide +kernel
theorem dX11_price_55 : decode cX11_price 55 = .ok (.iconst 0, 1) := by decide +kernel
theorem dX11_price_56 : decode cX11_price 56 = .ok (.invokestatic 63, 3) := by decide +kernel
theorem dX11_price_59 : decode cX11_price 59 = .ok (.aload_n 0, 1) := by decide +kernel
theorem dX11_price_60 : decode cX11_price 60 = .ok (.getfield 12, 3) := by decide +kernel
theorem dX11_price_63 : decode cX11_price 63 = .ok (.getfield 219, 3) := by decide +kernel
theorem dX11_price_66 : decode cX11_price 66 = .ok (.iload_n 1, 1) := by decide +kernel
theorem dX11_price_67 : decode cX11_price 67 = .ok (.iload_n 2, 1) := by decide +kernel
theorem dX11_price_68 : decode cX11_price 68 = .ok (.invokevirtual 268, 3) := by decide +kernel
theorem dX11_price_71 : decode cX11_price 71 = .ok (.istore 5, 2) := by decide +kernel
theorem dX11_price_73 : decode cX11_price 73 = .ok (.iload_n 3, 1) := by decide +kernel
theorem dX11_price_74 : decode cX11_price 74 = .ok (.iload 5, 2) := by decide +kernel
theorem dX11_price_76 : decode cX11_price 76 = .ok (.imul, 1) := by decide +kernel
theorem dX11_price_77 : decode cX11_price 77 = .ok (.iload 4, 2) := by decide +kernel
theorem dX11_price_79 : decode cX11_price 79 = .ok (.aload_n 0, 1) := by decide +kernel
theorem dX11_price_80 : decode cX11_price 80 = .ok (.getfield 12, 3) := by decide +kernel
theorem dX11_price_83 : decode cX11_price 83 = .ok (.getfield 219, 3) := by decide +kernel
theorem dX11_price_86 : decode cX11_price 86 = .ok (.invokevirtual 271, 3) := by decide +kernel
theorem dX11_price_89 : decode cX11_price 89 = .ok (.iload 5, 2) := by decide +kernel
theorem dX11_price_91 : decode cX11_price 91 = .ok (.isub, 1) := by decide +kernel
theorem dX11_price_92 : decode cX11_price 92 = .ok (.imul, 1) := by decide +kernel
theorem dX11_price_93 : decode cX11_price 93 = .ok (.isub, 1) := by decide +kernel
theorem dX11_price_94 : decode cX11_price 94 = .ok (.ireturn, 1) := by decide +kernel
theorem dX11_foul_0 : decode cX11_foul 0 = .ok (.iload_n 1, 1) := by decide +kernel
theorem dX11_foul_1 : decode cX11_foul 1 = .ok (.iconst 0, 1) := by decide +kernel
theorem dX11_foul_2 : decode cX11_foul 2 = .ok (.sipush 999, 3) := by decide +kernel
theorem dX11_foul_5 : decode cX11_foul 5 = .ok (.invokestatic 59, 3) := by decide +kernel
theorem dX11_foul_8 : decode cX11_foul 8 = .ok (.ifCond .eq 18, 3) := by decide +kernel
theorem dX11_foul_11 : decode cX11_foul 11 = .ok (.iload_n 2, 1) := by decide +kernel
theorem dX11_foul_12 : decode cX11_foul 12 = .ok (.iconst 0, 1) := by decide +kernel
theorem dX11_foul_13 : decode cX11_foul 13 = .ok (.sipush 999, 3) := by decide +kernel
theorem dX11_foul_16 : decode cX11_foul 16 = .ok (.invokestatic 59, 3) := by decide +kernel
theorem dX11_foul_19 : decode cX11_foul 19 = .ok (.ifCond .eq 7, 3) := by decide +kernel
theorem dX11_foul_22 : decode cX11_foul 22 = .ok (.iconst 1, 1) := by decide +kernel
theorem dX11_foul_23 : decode cX11_foul 23 = .ok (.goto 4, 3) := by decide +kernel
theorem dX11_foul_26 : decode cX11_foul 26 = .ok (.iconst 0, 1) := by decide +kernel
theorem dX11_foul_27 : decode cX11_foul 27 = .ok (.invokestatic 63, 3) := by decide +kernel
theorem dX11_foul_30 : decode cX11_foul 30 = .ok (.aload_n 0, 1) := by decide +kernel
theorem dX11_foul_31 : decode cX11_foul 31 = .ok (.getfield 12, 3) := by decide +kernel
theorem dX11_foul_34 : decode cX11_foul 34 = .ok (.iload_n 1, 1) := by decide +kernel
theorem dX11_foul_35 : decode cX11_foul 35 = .ok (.iload_n 2, 1) := by decide +kernel
theorem dX11_foul_36 : decode cX11_foul 36 = .ok (.invokevirtual 274, 3) := by decide +kernel
theorem dX11_foul_39 : decode cX11_foul 39 = .ok (.ireturn, 1) := by decide +kernel
theorem dX11_grown_0 : decode cX11_grown 0 = .ok (.iload_n 1, 1) := by decide +kernel
theorem dX11_grown_1 : decode cX11_grown 1 = .ok (.iconst 0, 1) := by decide +kernel
theorem dX11_grown_2 : decode cX11_grown 2 = .ok (.sipush 999, 3) := by decide +kernel
theorem dX11_grown_5 : decode cX11_grown 5 = .ok (.invokestatic 59, 3) := by decide +kernel
theorem dX11_grown_8 : decode cX11_grown 8 = .ok (.invokestatic 63, 3) := by decide +kernel
theorem dX11_grown_11 : decode cX11_grown 11 = .ok (.aload_n 0, 1) := by decide +kernel
theorem dX11_grown_12 : decode cX11_grown 12 = .ok (.getfield 12, 3) := by decide +kernel
theorem dX11_grown_15 : decode cX11_grown 15 = .ok (.iload_n 1, 1) := by decide +kernel
theorem dX11_grown_16 : decode cX11_grown 16 = .ok (.invokevirtual 277, 3) := by decide +kernel
theorem dX11_grown_19 : decode cX11_grown 19 = .ok (.ireturn, 1) := by decide +kernel
theorem dX11_image_0 : decode cX11_image 0 = .ok (.aload_n 0, 1) := by decide +kernel
theorem dX11_image_1 : decode cX11_image 1 = .ok (.getfield 280, 3) := by decide +kernel
theorem dX11_image_4 : decode cX11_image 4 = .ok (.aload_n 0, 1) := by decide +kernel
theorem dX11_image_5 : decode cX11_image 5 = .ok (.getfield 16, 3) := by decide +kernel
theorem dX11_image_8 : decode cX11_image 8 = .ok (.arraylength, 1) := by decide +kernel
theorem dX11_image_9 : decode cX11_image 9 = .ok (.if_icmp .lt 5, 3) := by decide +kernel
theorem dX11_image_12 : decode cX11_image 12 = .ok (.iconst (-1), 1) := by decide +kernel
theorem dX11_image_13 : decode cX11_image 13 = .ok (.ireturn, 1) := by decide +kernel
theorem dX11_image_14 : decode cX11_image 14 = .ok (.aload_n 0, 1) := by decide +kernel
theorem dX11_image_15 : decode cX11_image 15 = .ok (.getfield 16, 3) := by decide +kernel
theorem dX11_image_18 : decode cX11_image 18 = .ok (.aload_n 0, 1) := by decide +kernel
theorem dX11_image_19 : decode cX11_image 19 = .ok (.getfield 280, 3) := by decide +kernel
theorem dX11_image_22 : decode cX11_image 22 = .ok (.aaload, 1) := by decide +kernel
theorem dX11_image_23 : decode cX11_image 23 = .ok (.aload_n 0, 1) := by decide +kernel
theorem dX11_image_24 : decode cX11_image 24 = .ok (.getfield 12, 3) := by decide +kernel
theorem dX11_image_27 : decode cX11_image 27 = .ok (.invokevirtual 283, 3) := by decide +kernel
theorem dX11_image_30 : decode cX11_image 30 = .ok (.aload_n 0, 1) := by decide +kernel
theorem dX11_image_31 : decode cX11_image 31 = .ok (.dup, 1) := by decide +kernel
theorem dX11_image_32 : decode cX11_image 32 = .ok (.getfield 280, 3) := by decide +kernel
theorem dX11_image_35 : decode cX11_image 35 = .ok (.iconst 1, 1) := by decide +kernel
theorem dX11_image_36 : decode cX11_image 36 = .ok (.iadd, 1) := by decide +kernel
theorem dX11_image_37 : decode cX11_image 37 = .ok (.putfield 280, 3) := by decide +kernel
theorem dX11_image_40 : decode cX11_image 40 = .ok (.aload_n 0, 1) := by decide +kernel
theorem dX11_image_41 : decode cX11_image 41 = .ok (.getfield 280, 3) := by decide +kernel
theorem dX11_image_44 : decode cX11_image 44 = .ok (.ireturn, 1) := by decide +kernel
theorem dX11_restore_0 : decode cX11_restore 0 = .ok (.aload_n 0, 1) := by decide +kernel
theorem dX11_restore_1 : decode cX11_restore 1 = .ok (.getfield 280, 3) := by decide +kernel
theorem dX11_restore_4 : decode cX11_restore 4 = .ok (.ifCond .le 15, 3) := by decide +kernel
theorem dX11_restore_7 : decode cX11_restore 7 = .ok (.aload_n 0, 1) := by decide +kernel
theorem dX11_restore_8 : decode cX11_restore 8 = .ok (.getfield 280, 3) := by decide +kernel
theorem dX11_restore_11 : decode cX11_restore 11 = .ok (.aload_n 0, 1) := by decide +kernel
theorem dX11_restore_12 : decode cX11_restore 12 = .ok (.getfield 16, 3) := by decide +kernel
theorem dX11_restore_15 : decode cX11_restore 15 = .ok (.arraylength, 1) := by decide +kernel
theorem dX11_restore_16 : decode cX11_restore 16 = .ok (.if_icmp .le 5, 3) := by decide +kernel
theorem dX11_restore_19 : decode cX11_restore 19 = .ok (.iconst (-1), 1) := by decide +kernel
theorem dX11_restore_20 : decode cX11_restore 20 = .ok (.ireturn, 1) := by decide +kernel
theorem dX11_restore_21 : decode cX11_restore 21 = .ok (.aload_n 0, 1) := by decide +kernel
theorem dX11_restore_22 : decode cX11_restore 22 = .ok (.dup, 1) := by decide +kernel
theorem dX11_restore_23 : decode cX11_restore 23 = .ok (.getfield 280, 3) := by decide +kernel
theorem dX11_restore_26 : decode cX11_restore 26 = .ok (.iconst 1, 1) := by decide +kernel
theorem dX11_restore_27 : decode cX11_restore 27 = .ok (.isub, 1) := by decide +kernel
theorem dX11_restore_28 : decode cX11_restore 28 = .ok (.putfield 280, 3) := by decide +kernel
theorem dX11_restore_31 : decode cX11_restore 31 = .ok (.aload_n 0, 1) := by decide +kernel
theorem dX11_restore_32 : decode cX11_restore 32 = .ok (.getfield 12, 3) := by decide +kernel
theorem dX11_restore_35 : decode cX11_restore 35 = .ok (.aload_n 0, 1) := by decide +kernel
theorem dX11_restore_36 : decode cX11_restore 36 = .ok (.getfield 16, 3) := by decide +kernel
theorem dX11_restore_39 : decode cX11_restore 39 = .ok (.aload_n 0, 1) := by decide +kernel
theorem dX11_restore_40 : decode cX11_restore 40 = .ok (.getfield 280, 3) := by decide +kernel
theorem dX11_restore_43 : decode cX11_restore 43 = .ok (.aaload, 1) := by decide +kernel
theorem dX11_restore_44 : decode cX11_restore 44 = .ok (.invokevirtual 283, 3) := by decide +kernel
theorem dX11_restore_47 : decode cX11_restore 47 = .ok (.aload_n 0, 1) := by decide +kernel
theorem dX11_restore_48 : decode cX11_restore 48 = .ok (.getfield 280, 3) := by decide +kernel
theorem dX11_restore_51 : decode cX11_restore 51 = .ok (.ireturn, 1) := by decide +kernel
theorem dX11_count_0 : decode cX11_count 0 = .ok (.iload_n 1, 1) := by decide +kernel
theorem dX11_count_1 : decode cX11_count 1 = .ok (.tableswitch 156 0 10 #[59, 67, 78, 86, 94, 102, 113, 124, 135, 140, 148], 59) := by decide +kernel
theorem dX11_count_60 : decode cX11_count 60 = .ok (.aload_n 0, 1) := by decide +kernel
theorem dX11_count_61 : decode cX11_count 61 = .ok (.getfield 12, 3) := by decide +kernel
theorem dX11_count_64 : decode cX11_count 64 = .ok (.getfield 286, 3) := by decide +kernel
theorem dX11_count_67 : decode cX11_count 67 = .ok (.ireturn, 1) := by decide +kernel
theorem dX11_count_68 : decode cX11_count 68 = .ok (.aload_n 0, 1) := by decide +kernel
theorem dX11_count_69 : decode cX11_count 69 = .ok (.getfield 12, 3) := by decide +kernel
theorem dX11_count_72 : decode cX11_count 72 = .ok (.getfield 289, 3) := by decide +kernel
theorem dX11_count_75 : decode cX11_count 75 = .ok (.invokevirtual 99, 3) := by decide +kernel
theorem dX11_count_78 : decode cX11_count 78 = .ok (.ireturn, 1) := by decide +kernel
theorem dX11_count_79 : decode cX11_count 79 = .ok (.aload_n 0, 1) := by decide +kernel
theorem dX11_count_80 : decode cX11_count 80 = .ok (.getfield 39, 3) := by decide +kernel
theorem dX11_count_83 : decode cX11_count 83 = .ok (.invokevirtual 292, 3) := by decide +kernel
theorem dX11_count_86 : decode cX11_count 86 = .ok (.ireturn, 1) := by decide +kernel
theorem dX11_count_87 : decode cX11_count 87 = .ok (.aload_n 0, 1) := by decide +kernel
theorem dX11_count_88 : decode cX11_count 88 = .ok (.getfield 43, 3) := by decide +kernel
theorem dX11_count_91 : decode cX11_count 91 = .ok (.invokevirtual 292, 3) := by decide +kernel
theorem dX11_count_94 : decode cX11_count 94 = .ok (.ireturn, 1) := by decide +kernel
theorem dX11_count_95 : decode cX11_count 95 = .ok (.aload_n 0, 1) := by decide +kernel
theorem dX11_count_96 : decode cX11_count 96 = .ok (.getfield 12, 3) := by decide +kernel
theorem dX11_count_99 : decode cX11_count 99 = .ok (.invokevirtual 196, 3) := by decide +kernel
theorem dX11_count_102 : decode cX11_count 102 = .ok (.ireturn, 1) := by decide +kernel
theorem dX11_count_103 : decode cX11_count 103 = .ok (.aload_n 0, 1) := by decide +kernel
theorem dX11_count_104 : decode cX11_count 104 = .ok (.getfield 12, 3) := by decide +kernel
theorem dX11_count_107 : decode cX11_count 107 = .ok (.getfield 219, 3) := by decide +kernel
theorem dX11_count_110 : decode cX11_count 110 = .ok (.invokevirtual 228, 3) := by decide +kernel
theorem dX11_count_113 : decode cX11_count 113 = .ok (.ireturn, 1) := by decide +kernel
theorem dX11_count_114 : decode cX11_count 114 = .ok (.aload_n 0, 1) := by decide +kernel
theorem dX11_count_115 : decode cX11_count 115 = .ok (.getfield 12, 3) := by decide +kernel
theorem dX11_count_118 : decode cX11_count 118 = .ok (.getfield 257, 3) := by decide +kernel
theorem dX11_count_121 : decode cX11_count 121 = .ok (.invokevirtual 99, 3) := by decide +kernel
theorem dX11_count_124 : decode cX11_count 124 = .ok (.ireturn, 1) := by decide +kernel
theorem dX11_count_125 : decode cX11_count 125 = .ok (.aload_n 0, 1) := by decide +kernel
theorem dX11_count_126 : decode cX11_count 126 = .ok (.getfield 12, 3) := by decide +kernel
theorem dX11_count_129 : decode cX11_count 129 = .ok (.getfield 293, 3) := by decide +kernel
theorem dX11_count_132 : decode cX11_count 132 = .ok (.invokevirtual 99, 3) := by decide +kernel
theorem dX11_count_135 : decode cX11_count 135 = .ok (.ireturn, 1) := by decide +kernel
theorem dX11_count_136 : decode cX11_count 136 = .ok (.aload_n 0, 1) := by decide +kernel
theorem dX11_count_137 : decode cX11_count 137 = .ok (.getfield 280, 3) := by decide +kernel
theorem dX11_count_140 : decode cX11_count 140 = .ok (.ireturn, 1) := by decide +kernel
theorem dX11_count_141 : decode cX11_count 141 = .ok (.aload_n 0, 1) := by decide +kernel
theorem dX11_count_142 : decode cX11_count 142 = .ok (.getfield 25, 3) := by decide +kernel
theorem dX11_count_145 : decode cX11_count 145 = .ok (.invokevirtual 99, 3) := by decide +kernel
theorem dX11_count_148 : decode cX11_count 148 = .ok (.ireturn, 1) := by decide +kernel
theorem dX11_count_149 : decode cX11_count 149 = .ok (.aload_n 0, 1) := by decide +kernel
theorem dX11_count_150 : decode cX11_count 150 = .ok (.getfield 12, 3) := by decide +kernel
theorem dX11_count_153 : decode cX11_count 153 = .ok (.getfield 205, 3) := by decide +kernel
theorem dX11_count_156 : decode cX11_count 156 = .ok (.ireturn, 1) := by decide +kernel
theorem dX11_count_157 : decode cX11_count 157 = .ok (.iconst (-1), 1) := by decide +kernel
theorem dX11_count_158 : decode cX11_count 158 = .ok (.ireturn, 1) := by decide +kernel
theorem dX11_feedBytes_0 : decode cX11_feedBytes 0 = .ok (.bipush 24, 2) := by decide +kernel
theorem dX11_feedBytes_2 : decode cX11_feedBytes 2 = .ok (.istore_n 2, 1) := by decide +kernel
theorem dX11_feedBytes_3 : decode cX11_feedBytes 3 = .ok (.iload_n 2, 1) := by decide +kernel
theorem dX11_feedBytes_4 : decode cX11_feedBytes 4 = .ok (.ifCond .lt 23, 3) := by decide +kernel
theorem dX11_feedBytes_7 : decode cX11_feedBytes 7 = .ok (.aload_n 0, 1) := by decide +kernel
theorem dX11_feedBytes_8 : decode cX11_feedBytes 8 = .ok (.getfield 25, 3) := by decide +kernel
theorem dX11_feedBytes_11 : decode cX11_feedBytes 11 = .ok (.iload_n 1, 1) := by decide +kernel
theorem dX11_feedBytes_12 : decode cX11_feedBytes 12 = .ok (.iload_n 2, 1) := by decide +kernel
theorem dX11_feedBytes_13 : decode cX11_feedBytes 13 = .ok (.iushr, 1) := by decide +kernel
theorem dX11_feedBytes_14 : decode cX11_feedBytes 14 = .ok (.sipush 255, 3) := by decide +kernel
theorem dX11_feedBytes_17 : decode cX11_feedBytes 17 = .ok (.iand, 1) := by decide +kernel
theorem dX11_feedBytes_18 : decode cX11_feedBytes 18 = .ok (.invokevirtual 260, 3) := by decide +kernel
theorem dX11_feedBytes_21 : decode cX11_feedBytes 21 = .ok (.iinc 2 (-8), 3) := by decide +kernel
theorem dX11_feedBytes_24 : decode cX11_feedBytes 24 = .ok (.goto (-21), 3) := by decide +kernel
theorem dX11_feedBytes_27 : decode cX11_feedBytes 27 = .ok (.return_, 1) := by decide +kernel
theorem dX11_demand_0 : decode cX11_demand 0 = .ok (.iload_n 0, 1) := by decide +kernel
theorem dX11_demand_1 : decode cX11_demand 1 = .ok (.ifCond .ne 11, 3) := by decide +kernel
theorem dX11_demand_4 : decode cX11_demand 4 = .ok (.new 296, 3) := by decide +kernel
theorem dX11_demand_7 : decode cX11_demand 7 = .ok (.dup, 1) := by decide +kernel
theorem dX11_demand_8 : decode cX11_demand 8 = .ok (.invokespecial 298, 3) := by decide +kernel
theorem dX11_demand_11 : decode cX11_demand 11 = .ok (.athrow, 1) := by decide +kernel
theorem dX11_demand_12 : decode cX11_demand 12 = .ok (.return_, 1) := by decide +kernel
theorem dX11_demandAnyHull_0 : decode cX11_demandAnyHull 0 = .ok (.aload_n 0, 1) := by decide +kernel
theorem dX11_demandAnyHull_1 : decode cX11_demandAnyHull 1 = .ok (.getfield 12, 3) := by decide +kernel
theorem dX11_demandAnyHull_4 : decode cX11_demandAnyHull 4 = .ok (.getfield 286, 3) := by decide +kernel
theorem dX11_demandAnyHull_7 : decode cX11_demandAnyHull 7 = .ok (.ifCond .ne 11, 3) := by decide +kernel
theorem dX11_demandAnyHull_10 : decode cX11_demandAnyHull 10 = .ok (.new 299, 3) := by decide +kernel
theorem dX11_demandAnyHull_13 : decode cX11_demandAnyHull 13 = .ok (.dup, 1) := by decide +kernel
theorem dX11_demandAnyHull_14 : decode cX11_demandAnyHull 14 = .ok (.invokespecial 301, 3) := by decide +kernel
theorem dX11_demandAnyHull_17 : decode cX11_demandAnyHull 17 = .ok (.athrow, 1) := by decide +kernel
theorem dX11_demandAnyHull_18 : decode cX11_demandAnyHull 18 = .ok (.return_, 1) := by decide +kernel
theorem dX11_demandHull_0 : decode cX11_demandHull 0 = .ok (.aload_n 0, 1) := by decide +kernel
theorem dX11_demandHull_1 : decode cX11_demandHull 1 = .ok (.getfield 12, 3) := by decide +kernel
theorem dX11_demandHull_4 : decode cX11_demandHull 4 = .ok (.iload_n 1, 1) := by decide +kernel
theorem dX11_demandHull_5 : decode cX11_demandHull 5 = .ok (.invokevirtual 302, 3) := by decide +kernel
theorem dX11_demandHull_8 : decode cX11_demandHull 8 = .ok (.astore_n 2, 1) := by decide +kernel
theorem dX11_demandHull_9 : decode cX11_demandHull 9 = .ok (.aload_n 2, 1) := by decide +kernel
theorem dX11_demandHull_10 : decode cX11_demandHull 10 = .ok (.ifnonnull 11, 3) := by decide +kernel
theorem dX11_demandHull_13 : decode cX11_demandHull 13 = .ok (.new 199, 3) := by decide +kernel
theorem dX11_demandHull_16 : decode cX11_demandHull 16 = .ok (.dup, 1) := by decide +kernel
theorem dX11_demandHull_17 : decode cX11_demandHull 17 = .ok (.invokespecial 201, 3) := by decide +kernel
theorem dX11_demandHull_20 : decode cX11_demandHull 20 = .ok (.athrow, 1) := by decide +kernel
theorem dX11_demandHull_21 : decode cX11_demandHull 21 = .ok (.aload_n 2, 1) := by decide +kernel
theorem dX11_demandHull_22 : decode cX11_demandHull 22 = .ok (.areturn, 1) := by decide +kernel
theorem dX11_demandTank_0 : decode cX11_demandTank 0 = .ok (.iload_n 1, 1) := by decide +kernel
theorem dX11_demandTank_1 : decode cX11_demandTank 1 = .ok (.iconst (-1), 1) := by decide +kernel
theorem dX11_demandTank_2 : decode cX11_demandTank 2 = .ok (.aload_n 0, 1) := by decide +kernel
theorem dX11_demandTank_3 : decode cX11_demandTank 3 = .ok (.getfield 12, 3) := by decide +kernel
theorem dX11_demandTank_6 : decode cX11_demandTank 6 = .ok (.getfield 289, 3) := by decide +kernel
theorem dX11_demandTank_9 : decode cX11_demandTank 9 = .ok (.invokevirtual 99, 3) := by decide +kernel
theorem dX11_demandTank_12 : decode cX11_demandTank 12 = .ok (.iconst 1, 1) := by decide +kernel
theorem dX11_demandTank_13 : decode cX11_demandTank 13 = .ok (.isub, 1) := by decide +kernel
theorem dX11_demandTank_14 : decode cX11_demandTank 14 = .ok (.invokestatic 59, 3) := by decide +kernel
theorem dX11_demandTank_17 : decode cX11_demandTank 17 = .ok (.ifCond .ne 11, 3) := by decide +kernel
theorem dX11_demandTank_20 : decode cX11_demandTank 20 = .ok (.new 305, 3) := by decide +kernel
theorem dX11_demandTank_23 : decode cX11_demandTank 23 = .ok (.dup, 1) := by decide +kernel
theorem dX11_demandTank_24 : decode cX11_demandTank 24 = .ok (.invokespecial 307, 3) := by decide +kernel
theorem dX11_demandTank_27 : decode cX11_demandTank 27 = .ok (.athrow, 1) := by decide +kernel
theorem dX11_demandTank_28 : decode cX11_demandTank 28 = .ok (.return_, 1) := by decide +kernel
theorem dX11_demandProgram_0 : decode cX11_demandProgram 0 = .ok (.aload_n 0, 1) := by decide +kernel
theorem dX11_demandProgram_1 : decode cX11_demandProgram 1 = .ok (.iload_n 1, 1) := by decide +kernel
theorem dX11_demandProgram_2 : decode cX11_demandProgram 2 = .ok (.invokevirtual 308, 3) := by decide +kernel
theorem dX11_demandProgram_5 : decode cX11_demandProgram 5 = .ok (.astore_n 2, 1) := by decide +kernel
theorem dX11_demandProgram_6 : decode cX11_demandProgram 6 = .ok (.aload_n 2, 1) := by decide +kernel
theorem dX11_demandProgram_7 : decode cX11_demandProgram 7 = .ok (.ifnonnull 11, 3) := by decide +kernel
theorem dX11_demandProgram_10 : decode cX11_demandProgram 10 = .ok (.new 305, 3) := by decide +kernel
theorem dX11_demandProgram_13 : decode cX11_demandProgram 13 = .ok (.dup, 1) := by decide +kernel
theorem dX11_demandProgram_14 : decode cX11_demandProgram 14 = .ok (.invokespecial 307, 3) := by decide +kernel
theorem dX11_demandProgram_17 : decode cX11_demandProgram 17 = .ok (.athrow, 1) := by decide +kernel
theorem dX11_demandProgram_18 : decode cX11_demandProgram 18 = .ok (.aload_n 2, 1) := by decide +kernel
theorem dX11_demandProgram_19 : decode cX11_demandProgram 19 = .ok (.areturn, 1) := by decide +kernel
theorem dX11_isWithin_0 : decode cX11_isWithin 0 = .ok (.iload_n 0, 1) := by decide +kernel
theorem dX11_isWithin_1 : decode cX11_isWithin 1 = .ok (.iload_n 1, 1) := by decide +kernel
theorem dX11_isWithin_2 : decode cX11_isWithin 2 = .ok (.if_icmp .lt 12, 3) := by decide +kernel
theorem dX11_isWithin_5 : decode cX11_isWithin 5 = .ok (.iload_n 0, 1) := by decide +kernel
theorem dX11_isWithin_6 : decode cX11_isWithin 6 = .ok (.iload_n 2, 1) := by decide +kernel
theorem dX11_isWithin_7 : decode cX11_isWithin 7 = .ok (.if_icmp .gt 7, 3) := by decide +kernel
theorem dX11_isWithin_10 : decode cX11_isWithin 10 = .ok (.iconst 1, 1) := by decide +kernel
theorem dX11_isWithin_11 : decode cX11_isWithin 11 = .ok (.goto 4, 3) := by decide +kernel
theorem dX11_isWithin_14 : decode cX11_isWithin 14 = .ok (.iconst 0, 1) := by decide +kernel
theorem dX11_isWithin_15 : decode cX11_isWithin 15 = .ok (.ireturn, 1) := by decide +kernel
theorem dX11_over_0 : decode cX11_over 0 = .ok (.lload_n 2, 1) := by decide +kernel
theorem dX11_over_1 : decode cX11_over 1 = .ok (.lconst 0, 1) := by decide +kernel
theorem dX11_over_2 : decode cX11_over 2 = .ok (.lcmp, 1) := by decide +kernel
theorem dX11_over_3 : decode cX11_over 3 = .ok (.ifCond .ne 7, 3) := by decide +kernel
theorem dX11_over_6 : decode cX11_over 6 = .ok (.lconst 0, 1) := by decide +kernel
theorem dX11_over_7 : decode cX11_over 7 = .ok (.goto 6, 3) := by decide +kernel
theorem dX11_over_10 : decode cX11_over 10 = .ok (.lload_n 0, 1) := by decide +kernel
theorem dX11_over_11 : decode cX11_over 11 = .ok (.lload_n 2, 1) := by decide +kernel
theorem dX11_over_12 : decode cX11_over 12 = .ok (.ldiv, 1) := by decide +kernel
theorem dX11_over_13 : decode cX11_over 13 = .ok (.lreturn, 1) := by decide +kernel
theorem dX11_hundredths_0 : decode cX11_hundredths 0 = .ok (.lload_n 0, 1) := by decide +kernel
theorem dX11_hundredths_1 : decode cX11_hundredths 1 = .ok (.lload_n 2, 1) := by decide +kernel
theorem dX11_hundredths_2 : decode cX11_hundredths 2 = .ok (.lmul, 1) := by decide +kernel
theorem dX11_hundredths_3 : decode cX11_hundredths 3 = .ok (.ldc2_w 312, 3) := by decide +kernel
theorem dX11_hundredths_6 : decode cX11_hundredths 6 = .ok (.ldiv, 1) := by decide +kernel
theorem dX11_hundredths_7 : decode cX11_hundredths 7 = .ok (.lreturn, 1) := by decide +kernel
theorem dX11_distance_0 : decode cX11_distance 0 = .ok (.lload_n 0, 1) := by decide +kernel
theorem dX11_distance_1 : decode cX11_distance 1 = .ok (.lload_n 2, 1) := by decide +kernel
theorem dX11_distance_2 : decode cX11_distance 2 = .ok (.lcmp, 1) := by decide +kernel
theorem dX11_distance_3 : decode cX11_distance 3 = .ok (.ifCond .lt 9, 3) := by decide +kernel
theorem dX11_distance_6 : decode cX11_distance 6 = .ok (.lload_n 0, 1) := by decide +kernel
theorem dX11_distance_7 : decode cX11_distance 7 = .ok (.lload_n 2, 1) := by decide +kernel
theorem dX11_distance_8 : decode cX11_distance 8 = .ok (.lsub, 1) := by decide +kernel
theorem dX11_distance_9 : decode cX11_distance 9 = .ok (.goto 6, 3) := by decide +kernel
theorem dX11_distance_12 : decode cX11_distance 12 = .ok (.lload_n 2, 1) := by decide +kernel
theorem dX11_distance_13 : decode cX11_distance 13 = .ok (.lload_n 0, 1) := by decide +kernel
theorem dX11_distance_14 : decode cX11_distance 14 = .ok (.lsub, 1) := by decide +kernel
theorem dX11_distance_15 : decode cX11_distance 15 = .ok (.lreturn, 1) := by decide +kernel
theorem dX11_rootOf_0 : decode cX11_rootOf 0 = .ok (.lload_n 0, 1) := by decide +kernel
theorem dX11_rootOf_1 : decode cX11_rootOf 1 = .ok (.lconst 0, 1) := by decide +kernel
theorem dX11_rootOf_2 : decode cX11_rootOf 2 = .ok (.lcmp, 1) := by decide +kernel
theorem dX11_rootOf_3 : decode cX11_rootOf 3 = .ok (.ifCond .ge 5, 3) := by decide +kernel
theorem dX11_rootOf_6 : decode cX11_rootOf 6 = .ok (.lconst 0, 1) := by decide +kernel
theorem dX11_rootOf_7 : decode cX11_rootOf 7 = .ok (.lreturn, 1) := by decide +kernel
theorem dX11_rootOf_8 : decode cX11_rootOf 8 = .ok (.lconst 0, 1) := by decide +kernel
theorem dX11_rootOf_9 : decode cX11_rootOf 9 = .ok (.lstore_n 2, 1) := by decide +kernel
theorem dX11_rootOf_10 : decode cX11_rootOf 10 = .ok (.bipush 31, 2) := by decide +kernel
theorem dX11_rootOf_12 : decode cX11_rootOf 12 = .ok (.istore 4, 2) := by decide +kernel
theorem dX11_rootOf_14 : decode cX11_rootOf 14 = .ok (.iload 4, 2) := by decide +kernel
theorem dX11_rootOf_16 : decode cX11_rootOf 16 = .ok (.ifCond .lt 39, 3) := by decide +kernel
theorem dX11_rootOf_19 : decode cX11_rootOf 19 = .ok (.lload_n 2, 1) := by decide +kernel
theorem dX11_rootOf_20 : decode cX11_rootOf 20 = .ok (.lconst 1, 1) := by decide +kernel
theorem dX11_rootOf_21 : decode cX11_rootOf 21 = .ok (.iload 4, 2) := by decide +kernel
theorem dX11_rootOf_23 : decode cX11_rootOf 23 = .ok (.lshl, 1) := by decide +kernel
theorem dX11_rootOf_24 : decode cX11_rootOf 24 = .ok (.ladd, 1) := by decide +kernel
theorem dX11_rootOf_25 : decode cX11_rootOf 25 = .ok (.lstore 5, 2) := by decide +kernel
theorem dX11_rootOf_27 : decode cX11_rootOf 27 = .ok (.lload 5, 2) := by decide +kernel
theorem dX11_rootOf_29 : decode cX11_rootOf 29 = .ok (.ldc2_w 314, 3) := by decide +kernel
theorem dX11_rootOf_32 : decode cX11_rootOf 32 = .ok (.lcmp, 1) := by decide +kernel
theorem dX11_rootOf_33 : decode cX11_rootOf 33 = .ok (.ifCond .gt 16, 3) := by decide +kernel
theorem dX11_rootOf_36 : decode cX11_rootOf 36 = .ok (.lload 5, 2) := by decide +kernel
theorem dX11_rootOf_38 : decode cX11_rootOf 38 = .ok (.lload 5, 2) := by decide +kernel
theorem dX11_rootOf_40 : decode cX11_rootOf 40 = .ok (.lmul, 1) := by decide +kernel
theorem dX11_rootOf_41 : decode cX11_rootOf 41 = .ok (.lload_n 0, 1) := by decide +kernel
theorem dX11_rootOf_42 : decode cX11_rootOf 42 = .ok (.lcmp, 1) := by decide +kernel
theorem dX11_rootOf_43 : decode cX11_rootOf 43 = .ok (.ifCond .gt 6, 3) := by decide +kernel
theorem dX11_rootOf_46 : decode cX11_rootOf 46 = .ok (.lload 5, 2) := by decide +kernel
theorem dX11_rootOf_48 : decode cX11_rootOf 48 = .ok (.lstore_n 2, 1) := by decide +kernel
theorem dX11_rootOf_49 : decode cX11_rootOf 49 = .ok (.iinc 4 (-1), 3) := by decide +kernel
theorem dX11_rootOf_52 : decode cX11_rootOf 52 = .ok (.goto (-38), 3) := by decide +kernel
theorem dX11_rootOf_55 : decode cX11_rootOf 55 = .ok (.lload_n 2, 1) := by decide +kernel
theorem dX11_rootOf_56 : decode cX11_rootOf 56 = .ok (.lreturn, 1) := by decide +kernel
theorem dX12_init_0 : decode cX12_init 0 = .ok (.aload_n 0, 1) := by decide +kernel
theorem dX12_init_1 : decode cX12_init 1 = .ok (.invokespecial 3, 3) := by decide +kernel
theorem dX12_init_4 : decode cX12_init 4 = .ok (.aload_n 0, 1) := by decide +kernel
theorem dX12_init_5 : decode cX12_init 5 = .ok (.iconst (-1), 1) := by decide +kernel
theorem dX12_init_6 : decode cX12_init 6 = .ok (.putfield 11, 3) := by decide +kernel
theorem dX12_init_9 : decode cX12_init 9 = .ok (.aload_n 0, 1) := by decide +kernel
theorem dX12_init_10 : decode cX12_init 10 = .ok (.sipush 400, 3) := by decide +kernel
theorem dX12_init_13 : decode cX12_init 13 = .ok (.newarray .int, 2) := by decide +kernel
theorem dX12_init_15 : decode cX12_init 15 = .ok (.putfield 15, 3) := by decide +kernel
theorem dX12_init_18 : decode cX12_init 18 = .ok (.aload_n 0, 1) := by decide +kernel
theorem dX12_init_19 : decode cX12_init 19 = .ok (.bipush 7, 2) := by decide +kernel
theorem dX12_init_21 : decode cX12_init 21 = .ok (.sipush 400, 3) := by decide +kernel
theorem dX12_init_24 : decode cX12_init 24 = .ok (.multianewarray 19 2, 4) := by decide +kernel
theorem dX12_init_28 : decode cX12_init 28 = .ok (.putfield 21, 3) := by decide +kernel
theorem dX12_init_31 : decode cX12_init 31 = .ok (.aload_n 0, 1) := by decide +kernel
theorem dX12_init_32 : decode cX12_init 32 = .ok (.bipush 7, 2) := by decide +kernel
theorem dX12_init_34 : decode cX12_init 34 = .ok (.newarray .int, 2) := by decide +kernel
theorem dX12_init_36 : decode cX12_init 36 = .ok (.putfield 24, 3) := by decide +kernel
theorem dX12_init_39 : decode cX12_init 39 = .ok (.aload_n 0, 1) := by decide +kernel
theorem dX12_init_40 : decode cX12_init 40 = .ok (.bipush 10, 2) := by decide +kernel
theorem dX12_init_42 : decode cX12_init 42 = .ok (.newarray .long, 2) := by decide +kernel
theorem dX12_init_44 : decode cX12_init 44 = .ok (.putfield 27, 3) := by decide +kernel
theorem dX12_init_47 : decode cX12_init 47 = .ok (.aload_n 0, 1) := by decide +kernel
theorem dX12_init_48 : decode cX12_init 48 = .ok (.bipush 8, 2) := by decide +kernel
theorem dX12_init_50 : decode cX12_init 50 = .ok (.newarray .long, 2) := by decide +kernel
theorem dX12_init_52 : decode cX12_init 52 = .ok (.putfield 31, 3) := by decide +kernel
theorem dX12_init_55 : decode cX12_init 55 = .ok (.aload_n 0, 1) := by decide +kernel
theorem dX12_init_56 : decode cX12_init 56 = .ok (.bipush 6, 2) := by decide +kernel
theorem dX12_init_58 : decode cX12_init 58 = .ok (.newarray .int, 2) := by decide +kernel
theorem dX12_init_60 : decode cX12_init 60 = .ok (.putfield 34, 3) := by decide +kernel
theorem dX12_init_63 : decode cX12_init 63 = .ok (.aload_n 0, 1) := by decide +kernel
theorem dX12_init_64 : decode cX12_init 64 = .ok (.bipush 6, 2) := by decide +kernel
theorem dX12_init_66 : decode cX12_init 66 = .ok (.newarray .int, 2) := by decide +kernel
theorem dX12_init_68 : decode cX12_init 68 = .ok (.putfield 37, 3) := by decide +kernel
theorem dX12_init_71 : decode cX12_init 71 = .ok (.aload_n 0, 1) := by decide +kernel
theorem dX12_init_72 : decode cX12_init 72 = .ok (.bipush 6, 2) := by decide +kernel
theorem dX12_init_74 : decode cX12_init 74 = .ok (.bipush 12, 2) := by decide +kernel
theorem dX12_init_76 : decode cX12_init 76 = .ok (.multianewarray 19 2, 4) := by decide +kernel
theorem dX12_init_80 : decode cX12_init 80 = .ok (.putfield 40, 3) := by decide +kernel
theorem dX12_init_83 : decode cX12_init 83 = .ok (.aload_n 0, 1) := by decide +kernel
theorem dX12_init_84 : decode cX12_init 84 = .ok (.bipush 6, 2) := by decide +kernel
theorem dX12_init_86 : decode cX12_init 86 = .ok (.bipush 12, 2) := by decide +kernel
theorem dX12_init_88 : decode cX12_init 88 = .ok (.multianewarray 19 2, 4) := by decide +kernel
theorem dX12_init_92 : decode cX12_init 92 = .ok (.putfield 43, 3) := by decide +kernel
theorem dX12_init_95 : decode cX12_init 95 = .ok (.aload_n 0, 1) := by decide +kernel
theorem dX12_init_96 : decode cX12_init 96 = .ok (.iconst 4, 1) := by decide +kernel
theorem dX12_init_97 : decode cX12_init 97 = .ok (.newarray .int, 2) := by decide +kernel
theorem dX12_init_99 : decode cX12_init 99 = .ok (.putfield 46, 3) := by decide +kernel
theorem dX12_init_102 : decode cX12_init 102 = .ok (.aload_n 0, 1) := by decide +kernel
theorem dX12_init_103 : decode cX12_init 103 = .ok (.iconst 4, 1) := by decide +kernel
theorem dX12_init_104 : decode cX12_init 104 = .ok (.newarray .int, 2) := by decide +kernel
theorem dX12_init_106 : decode cX12_init 106 = .ok (.putfield 49, 3) := by decide +kernel
theorem dX12_init_109 : decode cX12_init 109 = .ok (.aload_n 0, 1) := by decide +kernel
theorem dX12_init_110 : decode cX12_init 110 = .ok (.bipush 6, 2) := by decide +kernel
theorem dX12_init_112 : decode cX12_init 112 = .ok (.newarray .int, 2) := by decide +kernel
theorem dX12_init_114 : decode cX12_init 114 = .ok (.dup, 1) := by decide +kernel
theorem dX12_init_115 : decode cX12_init 115 = .ok (.iconst 0, 1) := by decide +kernel
theorem dX12_init_116 : decode cX12_init 116 = .ok (.iconst 0, 1) := by decide +kernel
theorem dX12_init_117 : decode cX12_init 117 = .ok (.iastore, 1) := by decide +kernel
theorem dX12_init_118 : decode cX12_init 118 = .ok (.dup, 1) := by decide +kernel
theorem dX12_init_119 : decode cX12_init 119 = .ok (.iconst 1, 1) := by decide +kernel
theorem dX12_init_120 : decode cX12_init 120 = .ok (.iconst 1, 1) := by decide +kernel
theorem dX12_init_121 : decode cX12_init 121 = .ok (.iastore, 1) := by decide +kernel
theorem dX12_init_122 : decode cX12_init 122 = .ok (.dup, 1) := by decide +kernel
theorem dX12_init_123 : decode cX12_init 123 = .ok (.iconst 2, 1) := by decide +kernel
theorem dX12_init_124 : decode cX12_init 124 = .ok (.iconst 1, 1) := by decide +kernel
theorem dX12_init_125 : decode cX12_init 125 = .ok (.iastore, 1) := by decide +kernel
theorem dX12_init_126 : decode cX12_init 126 = .ok (.dup, 1) := by decide +kernel
theorem dX12_init_127 : decode cX12_init 127 = .ok (.iconst 3, 1) := by decide +kernel
theorem dX12_init_128 : decode cX12_init 128 = .ok (.iconst (-1), 1) := by decide +kernel
theorem dX12_init_129 : decode cX12_init 129 = .ok (.iastore, 1) := by decide +kernel
theorem dX12_init_130 : decode cX12_init 130 = .ok (.dup, 1) := by decide +kernel
theorem dX12_init_131 : decode cX12_init 131 = .ok (.iconst 4, 1) := by decide +kernel
theorem dX12_init_132 : decode cX12_init 132 = .ok (.iconst 0, 1) := by decide +kernel
theorem dX12_init_133 : decode cX12_init 133 = .ok (.iastore, 1) := by decide +kernel
theorem dX12_init_134 : decode cX12_init 134 = .ok (.dup, 1) := by decide +kernel
theorem dX12_init_135 : decode cX12_init 135 = .ok (.iconst 5, 1) := by decide +kernel
theorem dX12_init_136 : decode cX12_init 136 = .ok (.iconst 0, 1) := by decide +kernel
theorem dX12_init_137 : decode cX12_init 137 = .ok (.iastore, 1) := by decide +kernel
theorem dX12_init_138 : decode cX12_init 138 = .ok (.putfield 52, 3) := by decide +kernel
theorem dX12_init_141 : decode cX12_init 141 = .ok (.aload_n 0, 1) := by decide +kernel
theorem dX12_init_142 : decode cX12_init 142 = .ok (.iconst 1, 1) := by decide +kernel
theorem dX12_init_143 : decode cX12_init 143 = .ok (.putfield 55, 3) := by decide +kernel
theorem dX12_init_146 : decode cX12_init 146 = .ok (.aload_n 0, 1) := by decide +kernel
theorem dX12_init_147 : decode cX12_init 147 = .ok (.bipush 60, 2) := by decide +kernel
theorem dX12_init_149 : decode cX12_init 149 = .ok (.bipush 7, 2) := by decide +kernel
theorem dX12_init_151 : decode cX12_init 151 = .ok (.multianewarray 19 2, 4) := by decide +kernel
theorem dX12_init_155 : decode cX12_init 155 = .ok (.putfield 58, 3) := by decide +kernel
theorem dX12_init_158 : decode cX12_init 158 = .ok (.aload_n 0, 1) := by decide +kernel
theorem dX12_init_159 : decode cX12_init 159 = .ok (.bipush 20, 2) := by decide +kernel
theorem dX12_init_161 : decode cX12_init 161 = .ok (.newarray .int, 2) := by decide +kernel
theorem dX12_init_163 : decode cX12_init 163 = .ok (.putfield 61, 3) := by decide +kernel
theorem dX12_init_166 : decode cX12_init 166 = .ok (.aload_n 0, 1) := by decide +kernel
theorem dX12_init_167 : decode cX12_init 167 = .ok (.bipush 20, 2) := by decide +kernel
theorem dX12_init_169 : decode cX12_init 169 = .ok (.newarray .int, 2) := by decide +kernel
theorem dX12_init_171 : decode cX12_init 171 = .ok (.putfield 64, 3) := by decide +kernel
theorem dX12_init_174 : decode cX12_init 174 = .ok (.aload_n 0, 1) := by decide +kernel
theorem dX12_init_175 : decode cX12_init 175 = .ok (.bipush 20, 2) := by decide +kernel
theorem dX12_init_177 : decode cX12_init 177 = .ok (.newarray .int, 2) := by decide +kernel
theorem dX12_init_179 : decode cX12_init 179 = .ok (.putfield 67, 3) := by decide +kernel
theorem dX12_init_182 : decode cX12_init 182 = .ok (.aload_n 0, 1) := by decide +kernel
theorem dX12_init_183 : decode cX12_init 183 = .ok (.bipush 6, 2) := by decide +kernel
theorem dX12_init_185 : decode cX12_init 185 = .ok (.iconst 2, 1) := by decide +kernel
theorem dX12_init_186 : decode cX12_init 186 = .ok (.multianewarray 19 2, 4) := by decide +kernel
theorem dX12_init_190 : decode cX12_init 190 = .ok (.putfield 70, 3) := by decide +kernel
theorem dX12_init_193 : decode cX12_init 193 = .ok (.aload_n 0, 1) := by decide +kernel
theorem dX12_init_194 : decode cX12_init 194 = .ok (.bipush 8, 2) := by decide +kernel
theorem dX12_init_196 : decode cX12_init 196 = .ok (.iconst 2, 1) := by decide +kernel
theorem dX12_init_197 : decode cX12_init 197 = .ok (.multianewarray 19 2, 4) := by decide +kernel
theorem dX12_init_201 : decode cX12_init 201 = .ok (.putfield 73, 3) := by decide +kernel
theorem dX12_init_204 : decode cX12_init 204 = .ok (.aload_n 0, 1) := by decide +kernel
theorem dX12_init_205 : decode cX12_init 205 = .ok (.iconst 3, 1) := by decide +kernel
theorem dX12_init_206 : decode cX12_init 206 = .ok (.sipush 800, 3) := by decide +kernel
theorem dX12_init_209 : decode cX12_init 209 = .ok (.multianewarray 19 2, 4) := by decide +kernel
theorem dX12_init_213 : decode cX12_init 213 = .ok (.putfield 76, 3) := by decide +kernel
theorem dX12_init_216 : decode cX12_init 216 = .ok (.return_, 1) := by decide +kernel
theorem dX12_thrown_0 : decode cX12_thrown 0 = .ok (.aload_n 0, 1) := by decide +kernel
theorem dX12_thrown_1 : decode cX12_thrown 1 = .ok (.getfield 79, 3) := by decide +kernel
theorem dX12_thrown_4 : decode cX12_thrown 4 = .ok (.ireturn, 1) := by decide +kernel
theorem dX12_bad_0 : decode cX12_bad 0 = .ok (.iload_n 1, 1) := by decide +kernel
theorem dX12_bad_1 : decode cX12_bad 1 = .ok (.ifCond .eq 15, 3) := by decide +kernel
theorem dX12_bad_4 : decode cX12_bad 4 = .ok (.aload_n 0, 1) := by decide +kernel
theorem dX12_bad_5 : decode cX12_bad 5 = .ok (.getfield 79, 3) := by decide +kernel
theorem dX12_bad_8 : decode cX12_bad 8 = .ok (.ifCond .ne 8, 3) := by decide +kernel
theorem dX12_bad_11 : decode cX12_bad 11 = .ok (.aload_n 0, 1) := by decide +kernel
theorem dX12_bad_12 : decode cX12_bad 12 = .ok (.iload_n 2, 1) := by decide +kernel
theorem dX12_bad_13 : decode cX12_bad 13 = .ok (.putfield 79, 3) := by decide +kernel
theorem dX12_bad_16 : decode cX12_bad 16 = .ok (.aload_n 0, 1) := by decide +kernel
theorem dX12_bad_17 : decode cX12_bad 17 = .ok (.getfield 79, 3) := by decide +kernel
theorem dX12_bad_20 : decode cX12_bad 20 = .ok (.ifCond .eq 7, 3) := by decide +kernel
theorem dX12_bad_23 : decode cX12_bad 23 = .ok (.iconst 1, 1) := by decide +kernel
theorem dX12_bad_24 : decode cX12_bad 24 = .ok (.goto 4, 3) := by decide +kernel
theorem dX12_bad_27 : decode cX12_bad 27 = .ok (.iconst 0, 1) := by decide +kernel
theorem dX12_bad_28 : decode cX12_bad 28 = .ok (.ireturn, 1) := by decide +kernel
theorem dX12_in_0 : decode cX12_in 0 = .ok (.iload_n 0, 1) := by decide +kernel
theorem dX12_in_1 : decode cX12_in 1 = .ok (.iload_n 1, 1) := by decide +kernel
theorem dX12_in_2 : decode cX12_in 2 = .ok (.if_icmp .lt 12, 3) := by decide +kernel
theorem dX12_in_5 : decode cX12_in 5 = .ok (.iload_n 0, 1) := by decide +kernel
theorem dX12_in_6 : decode cX12_in 6 = .ok (.iload_n 2, 1) := by decide +kernel
theorem dX12_in_7 : decode cX12_in 7 = .ok (.if_icmp .gt 7, 3) := by decide +kernel
theorem dX12_in_10 : decode cX12_in 10 = .ok (.iconst 1, 1) := by decide +kernel
theorem dX12_in_11 : decode cX12_in 11 = .ok (.goto 4, 3) := by decide +kernel
theorem dX12_in_14 : decode cX12_in 14 = .ok (.iconst 0, 1) := by decide +kernel
theorem dX12_in_15 : decode cX12_in 15 = .ok (.ireturn, 1) := by decide +kernel
theorem dX12_within_0 : decode cX12_within 0 = .ok (.lload_n 0, 1) := by decide +kernel
theorem dX12_within_1 : decode cX12_within 1 = .ok (.lload_n 2, 1) := by decide +kernel
theorem dX12_within_2 : decode cX12_within 2 = .ok (.lcmp, 1) := by decide +kernel
theorem dX12_within_3 : decode cX12_within 3 = .ok (.ifCond .ge 7, 3) := by decide +kernel
theorem dX12_within_6 : decode cX12_within 6 = .ok (.lload_n 2, 1) := by decide +kernel
theorem dX12_within_7 : decode cX12_within 7 = .ok (.goto 16, 3) := by decide +kernel
theorem dX12_within_10 : decode cX12_within 10 = .ok (.lload_n 0, 1) := by decide +kernel
theorem dX12_within_11 : decode cX12_within 11 = .ok (.lload 4, 2) := by decide +kernel
theorem dX12_within_13 : decode cX12_within 13 = .ok (.lcmp, 1) := by decide +kernel
theorem dX12_within_14 : decode cX12_within 14 = .ok (.ifCond .le 8, 3) := by decide +kernel
theorem dX12_within_17 : decode cX12_within 17 = .ok (.lload 4, 2) := by decide +kernel
theorem dX12_within_19 : decode cX12_within 19 = .ok (.goto 4, 3) := by decide +kernel
theorem dX12_within_22 : decode cX12_within 22 = .ok (.lload_n 0, 1) := by decide +kernel
theorem dX12_within_23 : decode cX12_within 23 = .ok (.lreturn, 1) := by decide +kernel
theorem dX12_amount_0 : decode cX12_amount 0 = .ok (.lload_n 0, 1) := by decide +kernel
theorem dX12_amount_1 : decode cX12_amount 1 = .ok (.lconst 0, 1) := by decide +kernel
theorem dX12_amount_2 : decode cX12_amount 2 = .ok (.lcmp, 1) := by decide +kernel
theorem dX12_amount_3 : decode cX12_amount 3 = .ok (.ifCond .ge 8, 3) := by decide +kernel
theorem dX12_amount_6 : decode cX12_amount 6 = .ok (.lload_n 0, 1) := by decide +kernel
theorem dX12_amount_7 : decode cX12_amount 7 = .ok (.lneg, 1) := by decide +kernel
theorem dX12_amount_8 : decode cX12_amount 8 = .ok (.goto 4, 3) := by decide +kernel
theorem dX12_amount_11 : decode cX12_amount 11 = .ok (.lload_n 0, 1) := by decide +kernel
theorem dX12_amount_12 : decode cX12_amount 12 = .ok (.lreturn, 1) := by decide +kernel
theorem dX12_hull_0 : decode cX12_hull 0 = .ok (.aload_n 0, 1) := by decide +kernel
theorem dX12_hull_1 : decode cX12_hull 1 = .ok (.iconst 0, 1) := by decide +kernel
theorem dX12_hull_2 : decode cX12_hull 2 = .ok (.putfield 79, 3) := by decide +kernel
theorem dX12_hull_5 : decode cX12_hull 5 = .ok (.aload_n 0, 1) := by decide +kernel
theorem dX12_hull_6 : decode cX12_hull 6 = .ok (.iload_n 1, 1) := by decide +kernel
theorem dX12_hull_7 : decode cX12_hull 7 = .ok (.bipush 10, 2) := by decide +kernel
theorem dX12_hull_9 : decode cX12_hull 9 = .ok (.sipush 400, 3) := by decide +kernel
theorem dX12_hull_12 : decode cX12_hull 12 = .ok (.invokestatic 82, 3) := by decide +kernel
theorem dX12_hull_15 : decode cX12_hull 15 = .ok (.ifCond .eq 13, 3) := by decide +kernel
theorem dX12_hull_18 : decode cX12_hull 18 = .ok (.iload_n 2, 1) := by decide +kernel
theorem dX12_hull_19 : decode cX12_hull 19 = .ok (.iconst 2, 1) := by decide +kernel
theorem dX12_hull_20 : decode cX12_hull 20 = .ok (.bipush 12, 2) := by decide +kernel
theorem dX12_hull_22 : decode cX12_hull 22 = .ok (.invokestatic 82, 3) := by decide +kernel
theorem dX12_hull_25 : decode cX12_hull 25 = .ok (.ifCond .ne 7, 3) := by decide +kernel
theorem dX12_hull_28 : decode cX12_hull 28 = .ok (.iconst 1, 1) := by decide +kernel
theorem dX12_hull_29 : decode cX12_hull 29 = .ok (.goto 4, 3) := by decide +kernel
theorem dX12_hull_32 : decode cX12_hull 32 = .ok (.iconst 0, 1) := by decide +kernel
theorem dX12_hull_33 : decode cX12_hull 33 = .ok (.iconst 1, 1) := by decide +kernel
theorem dX12_hull_34 : decode cX12_hull 34 = .ok (.invokevirtual 86, 3) := by decide +kernel
theorem dX12_hull_37 : decode cX12_hull 37 = .ok (.ifCond .eq 5, 3) := by decide +kernel
theorem dX12_hull_40 : decode cX12_hull 40 = .ok (.iconst 0, 1) := by decide +kernel
theorem dX12_hull_41 : decode cX12_hull 41 = .ok (.ireturn, 1) := by decide +kernel
theorem dX12_hull_42 : decode cX12_hull 42 = .ok (.aload_n 0, 1) := by decide +kernel
theorem dX12_hull_43 : decode cX12_hull 43 = .ok (.getfield 90, 3) := by decide +kernel
theorem dX12_hull_46 : decode cX12_hull 46 = .ok (.bipush 6, 2) := by decide +kernel
theorem dX12_hull_48 : decode cX12_hull 48 = .ok (.if_icmp .ne 5, 3) := by decide +kernel
theorem dX12_hull_51 : decode cX12_hull 51 = .ok (.iconst (-1), 1) := by decide +kernel
theorem dX12_hull_52 : decode cX12_hull 52 = .ok (.ireturn, 1) := by decide +kernel
theorem dX12_hull_53 : decode cX12_hull 53 = .ok (.aload_n 0, 1) := by decide +kernel
theorem dX12_hull_54 : decode cX12_hull 54 = .ok (.getfield 34, 3) := by decide +kernel
theorem dX12_hull_57 : decode cX12_hull 57 = .ok (.aload_n 0, 1) := by decide +kernel
theorem dX12_hull_58 : decode cX12_hull 58 = .ok (.getfield 90, 3) := by decide +kernel
theorem dX12_hull_61 : decode cX12_hull 61 = .ok (.iload_n 1, 1) := by decide +kernel
theorem dX12_hull_62 : decode cX12_hull 62 = .ok (.iastore, 1) := by decide +kernel
theorem dX12_hull_63 : decode cX12_hull 63 = .ok (.aload_n 0, 1) := by decide +kernel
theorem dX12_hull_64 : decode cX12_hull 64 = .ok (.getfield 37, 3) := by decide +kernel
theorem dX12_hull_67 : decode cX12_hull 67 = .ok (.aload_n 0, 1) := by decide +kernel
theorem dX12_hull_68 : decode cX12_hull 68 = .ok (.getfield 90, 3) := by decide +kernel
theorem dX12_hull_71 : decode cX12_hull 71 = .ok (.iload_n 2, 1) := by decide +kernel
theorem dX12_hull_72 : decode cX12_hull 72 = .ok (.iastore, 1) := by decide +kernel
theorem dX12_hull_73 : decode cX12_hull 73 = .ok (.iconst 0, 1) := by decide +kernel
theorem dX12_hull_74 : decode cX12_hull 74 = .ok (.istore_n 3, 1) := by decide +kernel
theorem dX12_hull_75 : decode cX12_hull 75 = .ok (.iload_n 3, 1) := by decide +kernel
theorem dX12_hull_76 : decode cX12_hull 76 = .ok (.bipush 12, 2) := by decide +kernel
theorem dX12_hull_78 : decode cX12_hull 78 = .ok (.if_icmp .ge 52, 3) := by decide +kernel
theorem dX12_hull_81 : decode cX12_hull 81 = .ok (.aload_n 0, 1) := by decide +kernel
theorem dX12_hull_82 : decode cX12_hull 82 = .ok (.getfield 40, 3) := by decide +kernel
theorem dX12_hull_85 : decode cX12_hull 85 = .ok (.aload_n 0, 1) := by decide +kernel
theorem dX12_hull_86 : decode cX12_hull 86 = .ok (.getfield 90, 3) := by decide +kernel
theorem dX12_hull_89 : decode cX12_hull 89 = .ok (.aaload, 1) := by decide +kernel
theorem dX12_hull_90 : decode cX12_hull 90 = .ok (.iload_n 3, 1) := by decide +kernel
theorem dX12_hull_91 : decode cX12_hull 91 = .ok (.iload_n 3, 1) := by decide +kernel
theorem dX12_hull_92 : decode cX12_hull 92 = .ok (.iload_n 2, 1) := by decide +kernel
theorem dX12_hull_93 : decode cX12_hull 93 = .ok (.if_icmp .ge 8, 3) := by decide +kernel
theorem dX12_hull_96 : decode cX12_hull 96 = .ok (.bipush 10, 2) := by decide +kernel
theorem dX12_hull_98 : decode cX12_hull 98 = .ok (.goto 4, 3) := by decide +kernel
theorem dX12_hull_101 : decode cX12_hull 101 = .ok (.iconst 0, 1) := by decide +kernel
theorem dX12_hull_102 : decode cX12_hull 102 = .ok (.iastore, 1) := by decide +kernel
theorem dX12_hull_103 : decode cX12_hull 103 = .ok (.aload_n 0, 1) := by decide +kernel
theorem dX12_hull_104 : decode cX12_hull 104 = .ok (.getfield 43, 3) := by decide +kernel
theorem dX12_hull_107 : decode cX12_hull 107 = .ok (.aload_n 0, 1) := by decide +kernel
theorem dX12_hull_108 : decode cX12_hull 108 = .ok (.getfield 90, 3) := by decide +kernel
theorem dX12_hull_111 : decode cX12_hull 111 = .ok (.aaload, 1) := by decide +kernel
theorem dX12_hull_112 : decode cX12_hull 112 = .ok (.iload_n 3, 1) := by decide +kernel
theorem dX12_hull_113 : decode cX12_hull 113 = .ok (.iload_n 3, 1) := by decide +kernel
theorem dX12_hull_114 : decode cX12_hull 114 = .ok (.iload_n 2, 1) := by decide +kernel
theorem dX12_hull_115 : decode cX12_hull 115 = .ok (.if_icmp .ge 7, 3) := by decide +kernel
theorem dX12_hull_118 : decode cX12_hull 118 = .ok (.iconst 5, 1) := by decide +kernel
theorem dX12_hull_119 : decode cX12_hull 119 = .ok (.goto 4, 3) := by decide +kernel
theorem dX12_hull_122 : decode cX12_hull 122 = .ok (.iconst 0, 1) := by decide +kernel
theorem dX12_hull_123 : decode cX12_hull 123 = .ok (.iastore, 1) := by decide +kernel
theorem dX12_hull_124 : decode cX12_hull 124 = .ok (.iinc 3 1, 3) := by decide +kernel
theorem dX12_hull_127 : decode cX12_hull 127 = .ok (.goto (-52), 3) := by decide +kernel
theorem dX12_hull_130 : decode cX12_hull 130 = .ok (.aload_n 0, 1) := by decide +kernel
theorem dX12_hull_131 : decode cX12_hull 131 = .ok (.dup, 1) := by decide +kernel
theorem dX12_hull_132 : decode cX12_hull 132 = .ok (.getfield 90, 3) := by decide +kernel
theorem dX12_hull_135 : decode cX12_hull 135 = .ok (.iconst 1, 1) := by decide +kernel
theorem dX12_hull_136 : decode cX12_hull 136 = .ok (.iadd, 1) := by decide +kernel
theorem dX12_hull_137 : decode cX12_hull 137 = .ok (.putfield 90, 3) := by decide +kernel
theorem dX12_hull_140 : decode cX12_hull 140 = .ok (.aload_n 0, 1) := by decide +kernel
theorem dX12_hull_141 : decode cX12_hull 141 = .ok (.getfield 90, 3) := by decide +kernel
theorem dX12_hull_144 : decode cX12_hull 144 = .ok (.iconst 1, 1) := by decide +kernel
theorem dX12_hull_145 : decode cX12_hull 145 = .ok (.isub, 1) := by decide +kernel
theorem dX12_hull_146 : decode cX12_hull 146 = .ok (.ireturn, 1) := by decide +kernel
theorem dX12_isHull_0 : decode cX12_isHull 0 = .ok (.iload_n 1, 1) := by decide +kernel
theorem dX12_isHull_1 : decode cX12_isHull 1 = .ok (.iconst 0, 1) := by decide +kernel
theorem dX12_isHull_2 : decode cX12_isHull 2 = .ok (.aload_n 0, 1) := by decide +kernel
theorem dX12_isHull_3 : decode cX12_isHull 3 = .ok (.getfield 90, 3) := by decide +kernel
theorem dX12_isHull_6 : decode cX12_isHull 6 = .ok (.iconst 1, 1) := by decide +kernel
theorem dX12_isHull_7 : decode cX12_isHull 7 = .ok (.isub, 1) := by decide +kernel
theorem dX12_isHull_8 : decode cX12_isHull 8 = .ok (.invokestatic 82, 3) := by decide +kernel
theorem dX12_isHull_11 : decode cX12_isHull 11 = .ok (.ireturn, 1) := by decide +kernel
theorem dX12_station_0 : decode cX12_station 0 = .ok (.aload_n 0, 1) := by decide +kernel
theorem dX12_station_1 : decode cX12_station 1 = .ok (.iconst 0, 1) := by decide +kernel
theorem dX12_station_2 : decode cX12_station 2 = .ok (.putfield 79, 3) := by decide +kernel
theorem dX12_station_5 : decode cX12_station 5 = .ok (.aload_n 0, 1) := by decide +kernel
theorem dX12_station_6 : decode cX12_station 6 = .ok (.aload_n 0, 1) := by decide +kernel
theorem dX12_station_7 : decode cX12_station 7 = .ok (.iload_n 1, 1) := by decide +kernel
theorem dX12_station_8 : decode cX12_station 8 = .ok (.invokevirtual 93, 3) := by decide +kernel
theorem dX12_station_11 : decode cX12_station 11 = .ok (.ifCond .ne 7, 3) := by decide +kernel
theorem dX12_station_14 : decode cX12_station 14 = .ok (.iconst 1, 1) := by decide +kernel
theorem dX12_station_15 : decode cX12_station 15 = .ok (.goto 4, 3) := by decide +kernel
theorem dX12_station_18 : decode cX12_station 18 = .ok (.iconst 0, 1) := by decide +kernel
theorem dX12_station_19 : decode cX12_station 19 = .ok (.iconst 1, 1) := by decide +kernel
theorem dX12_station_20 : decode cX12_station 20 = .ok (.invokevirtual 86, 3) := by decide +kernel
theorem dX12_station_23 : decode cX12_station 23 = .ok (.ifCond .ne 53, 3) := by decide +kernel
theorem dX12_station_26 : decode cX12_station 26 = .ok (.aload_n 0, 1) := by decide +kernel
theorem dX12_station_27 : decode cX12_station 27 = .ok (.iload_n 2, 1) := by decide +kernel
theorem dX12_station_28 : decode cX12_station 28 = .ok (.iconst 0, 1) := by decide +kernel
theorem dX12_station_29 : decode cX12_station 29 = .ok (.aload_n 0, 1) := by decide +kernel
theorem dX12_station_30 : decode cX12_station 30 = .ok (.getfield 37, 3) := by decide +kernel
theorem dX12_station_33 : decode cX12_station 33 = .ok (.iload_n 1, 1) := by decide +kernel
theorem dX12_station_34 : decode cX12_station 34 = .ok (.iaload, 1) := by decide +kernel
theorem dX12_station_35 : decode cX12_station 35 = .ok (.iconst 1, 1) := by decide +kernel
theorem dX12_station_36 : decode cX12_station 36 = .ok (.isub, 1) := by decide +kernel
theorem dX12_station_37 : decode cX12_station 37 = .ok (.invokestatic 82, 3) := by decide +kernel
theorem dX12_station_40 : decode cX12_station 40 = .ok (.ifCond .eq 24, 3) := by decide +kernel
theorem dX12_station_43 : decode cX12_station 43 = .ok (.iload_n 3, 1) := by decide +kernel
theorem dX12_station_44 : decode cX12_station 44 = .ok (.iconst 0, 1) := by decide +kernel
theorem dX12_station_45 : decode cX12_station 45 = .ok (.bipush 60, 2) := by decide +kernel
theorem dX12_station_47 : decode cX12_station 47 = .ok (.invokestatic 82, 3) := by decide +kernel
theorem dX12_station_50 : decode cX12_station 50 = .ok (.ifCond .eq 14, 3) := by decide +kernel
theorem dX12_station_53 : decode cX12_station 53 = .ok (.iload 4, 2) := by decide +kernel
theorem dX12_station_55 : decode cX12_station 55 = .ok (.iconst 0, 1) := by decide +kernel
theorem dX12_station_56 : decode cX12_station 56 = .ok (.bipush 60, 2) := by decide +kernel
theorem dX12_station_58 : decode cX12_station 58 = .ok (.invokestatic 82, 3) := by decide +kernel
theorem dX12_station_61 : decode cX12_station 61 = .ok (.ifCond .ne 7, 3) := by decide +kernel
theorem dX12_station_64 : decode cX12_station 64 = .ok (.iconst 1, 1) := by decide +kernel
theorem dX12_station_65 : decode cX12_station 65 = .ok (.goto 4, 3) := by decide +kernel
theorem dX12_station_68 : decode cX12_station 68 = .ok (.iconst 0, 1) := by decide +kernel
theorem dX12_station_69 : decode cX12_station 69 = .ok (.iconst 2, 1) := by decide +kernel
theorem dX12_station_70 : decode cX12_station 70 = .ok (.invokevirtual 86, 3) := by decide +kernel
theorem dX12_station_73 : decode cX12_station 73 = .ok (.ifCond .eq 5, 3) := by decide +kernel
theorem dX12_station_76 : decode cX12_station 76 = .ok (.iconst 0, 1) := by decide +kernel
theorem dX12_station_77 : decode cX12_station 77 = .ok (.ireturn, 1) := by decide +kernel
theorem dX12_station_78 : decode cX12_station 78 = .ok (.bipush 100, 2) := by decide +kernel
theorem dX12_station_80 : decode cX12_station 80 = .ok (.aload_n 0, 1) := by decide +kernel
theorem dX12_station_81 : decode cX12_station 81 = .ok (.getfield 40, 3) := by decide +kernel
theorem dX12_station_84 : decode cX12_station 84 = .ok (.iload_n 1, 1) := by decide +kernel
theorem dX12_station_85 : decode cX12_station 85 = .ok (.aaload, 1) := by decide +kernel
theorem dX12_station_86 : decode cX12_station 86 = .ok (.iload_n 2, 1) := by decide +kernel
theorem dX12_station_87 : decode cX12_station 87 = .ok (.iaload, 1) := by decide +kernel
theorem dX12_station_88 : decode cX12_station 88 = .ok (.imul, 1) := by decide +kernel
theorem dX12_station_89 : decode cX12_station 89 = .ok (.aload_n 0, 1) := by decide +kernel
theorem dX12_station_90 : decode cX12_station 90 = .ok (.getfield 43, 3) := by decide +kernel
theorem dX12_station_93 : decode cX12_station 93 = .ok (.iload_n 1, 1) := by decide +kernel
theorem dX12_station_94 : decode cX12_station 94 = .ok (.aaload, 1) := by decide +kernel
theorem dX12_station_95 : decode cX12_station 95 = .ok (.iload_n 2, 1) := by decide +kernel
theorem dX12_station_96 : decode cX12_station 96 = .ok (.iaload, 1) := by decide +kernel
theorem dX12_station_97 : decode cX12_station 97 = .ok (.iadd, 1) := by decide +kernel
theorem dX12_station_98 : decode cX12_station 98 = .ok (.istore 5, 2) := by decide +kernel
theorem dX12_station_100 : decode cX12_station 100 = .ok (.aload_n 0, 1) := by decide +kernel
theorem dX12_station_101 : decode cX12_station 101 = .ok (.getfield 40, 3) := by decide +kernel
theorem dX12_station_104 : decode cX12_station 104 = .ok (.iload_n 1, 1) := by decide +kernel
theorem dX12_station_105 : decode cX12_station 105 = .ok (.aaload, 1) := by decide +kernel
theorem dX12_station_106 : decode cX12_station 106 = .ok (.iload_n 2, 1) := by decide +kernel
theorem dX12_station_107 : decode cX12_station 107 = .ok (.iload_n 3, 1) := by decide +kernel
theorem dX12_station_108 : decode cX12_station 108 = .ok (.iastore, 1) := by decide +kernel
theorem dX12_station_109 : decode cX12_station 109 = .ok (.aload_n 0, 1) := by decide +kernel
theorem dX12_station_110 : decode cX12_station 110 = .ok (.getfield 43, 3) := by decide +kernel
theorem dX12_station_113 : decode cX12_station 113 = .ok (.iload_n 1, 1) := by decide +kernel
theorem dX12_station_114 : decode cX12_station 114 = .ok (.aaload, 1) := by decide +kernel
theorem dX12_station_115 : decode cX12_station 115 = .ok (.iload_n 2, 1) := by decide +kernel
theorem dX12_station_116 : decode cX12_station 116 = .ok (.iload 4, 2) := by decide +kernel
theorem dX12_station_118 : decode cX12_station 118 = .ok (.iastore, 1) := by decide +kernel
theorem dX12_station_119 : decode cX12_station 119 = .ok (.iload 5, 2) := by decide +kernel
theorem dX12_station_121 : decode cX12_station 121 = .ok (.ireturn, 1) := by decide +kernel
theorem dX12_modelOf_0 : decode cX12_modelOf 0 = .ok (.aload_n 0, 1) := by decide +kernel
theorem dX12_modelOf_1 : decode cX12_modelOf 1 = .ok (.getfield 34, 3) := by decide +kernel
theorem dX12_modelOf_4 : decode cX12_modelOf 4 = .ok (.iload_n 1, 1) := by decide +kernel
theorem dX12_modelOf_5 : decode cX12_modelOf 5 = .ok (.iaload, 1) := by decide +kernel
theorem dX12_modelOf_6 : decode cX12_modelOf 6 = .ok (.iload_n 2, 1) := by decide +kernel
theorem dX12_modelOf_7 : decode cX12_modelOf 7 = .ok (.idiv, 1) := by decide +kernel
theorem dX12_modelOf_8 : decode cX12_modelOf 8 = .ok (.ifCond .ne 7, 3) := by decide +kernel
theorem dX12_modelOf_11 : decode cX12_modelOf 11 = .ok (.lconst 1, 1) := by decide +kernel
theorem dX12_modelOf_12 : decode cX12_modelOf 12 = .ok (.goto 12, 3) := by decide +kernel
theorem dX12_modelOf_15 : decode cX12_modelOf 15 = .ok (.aload_n 0, 1) := by decide +kernel
theorem dX12_modelOf_16 : decode cX12_modelOf 16 = .ok (.getfield 34, 3) := by decide +kernel
theorem dX12_modelOf_19 : decode cX12_modelOf 19 = .ok (.iload_n 1, 1) := by decide +kernel
theorem dX12_modelOf_20 : decode cX12_modelOf 20 = .ok (.iaload, 1) := by decide +kernel
theorem dX12_modelOf_21 : decode cX12_modelOf 21 = .ok (.iload_n 2, 1) := by decide +kernel
theorem dX12_modelOf_22 : decode cX12_modelOf 22 = .ok (.idiv, 1) := by decide +kernel
theorem dX12_modelOf_23 : decode cX12_modelOf 23 = .ok (.i2l, 1) := by decide +kernel
theorem dX12_modelOf_24 : decode cX12_modelOf 24 = .ok (.lstore 4, 2) := by decide +kernel
theorem dX12_modelOf_26 : decode cX12_modelOf 26 = .ok (.lconst 0, 1) := by decide +kernel
theorem dX12_modelOf_27 : decode cX12_modelOf 27 = .ok (.lstore 6, 2) := by decide +kernel
theorem dX12_modelOf_29 : decode cX12_modelOf 29 = .ok (.lconst 0, 1) := by decide +kernel
theorem dX12_modelOf_30 : decode cX12_modelOf 30 = .ok (.lstore 8, 2) := by decide +kernel
theorem dX12_modelOf_32 : decode cX12_modelOf 32 = .ok (.lconst 0, 1) := by decide +kernel
theorem dX12_modelOf_33 : decode cX12_modelOf 33 = .ok (.lstore 10, 2) := by decide +kernel
theorem dX12_modelOf_35 : decode cX12_modelOf 35 = .ok (.lconst 0, 1) := by decide +kernel
theorem dX12_modelOf_36 : decode cX12_modelOf 36 = .ok (.lstore 12, 2) := by decide +kernel
theorem dX12_modelOf_38 : decode cX12_modelOf 38 = .ok (.lconst 0, 1) := by decide +kernel
theorem dX12_modelOf_39 : decode cX12_modelOf 39 = .ok (.lstore 14, 2) := by decide +kernel
theorem dX12_modelOf_41 : decode cX12_modelOf 41 = .ok (.aload_n 0, 1) := by decide +kernel
theorem dX12_modelOf_42 : decode cX12_modelOf 42 = .ok (.getfield 37, 3) := by decide +kernel
theorem dX12_modelOf_45 : decode cX12_modelOf 45 = .ok (.iload_n 1, 1) := by decide +kernel
theorem dX12_modelOf_46 : decode cX12_modelOf 46 = .ok (.iaload, 1) := by decide +kernel
theorem dX12_modelOf_47 : decode cX12_modelOf 47 = .ok (.istore 16, 2) := by decide +kernel
theorem dX12_modelOf_49 : decode cX12_modelOf 49 = .ok (.iconst 0, 1) := by decide +kernel
theorem dX12_modelOf_50 : decode cX12_modelOf 50 = .ok (.istore 17, 2) := by decide +kernel
theorem dX12_modelOf_52 : decode cX12_modelOf 52 = .ok (.iload 17, 2) := by decide +kernel
theorem dX12_modelOf_54 : decode cX12_modelOf 54 = .ok (.iload 16, 2) := by decide +kernel
theorem dX12_modelOf_56 : decode cX12_modelOf 56 = .ok (.if_icmp .ge 118, 3) := by decide +kernel
theorem dX12_modelOf_59 : decode cX12_modelOf 59 = .ok (.aload_n 0, 1) := by decide +kernel
theorem dX12_modelOf_60 : decode cX12_modelOf 60 = .ok (.getfield 40, 3) := by decide +kernel
theorem dX12_modelOf_63 : decode cX12_modelOf 63 = .ok (.iload_n 1, 1) := by decide +kernel
theorem dX12_modelOf_64 : decode cX12_modelOf 64 = .ok (.aaload, 1) := by decide +kernel
theorem dX12_modelOf_65 : decode cX12_modelOf 65 = .ok (.iload 17, 2) := by decide +kernel
theorem dX12_modelOf_67 : decode cX12_modelOf 67 = .ok (.iaload, 1) := by decide +kernel
theorem dX12_modelOf_68 : decode cX12_modelOf 68 = .ok (.istore 18, 2) := by decide +kernel
theorem dX12_modelOf_70 : decode cX12_modelOf 70 = .ok (.aload_n 0, 1) := by decide +kernel
theorem dX12_modelOf_71 : decode cX12_modelOf 71 = .ok (.getfield 43, 3) := by decide +kernel
theorem dX12_modelOf_74 : decode cX12_modelOf 74 = .ok (.iload_n 1, 1) := by decide +kernel
theorem dX12_modelOf_75 : decode cX12_modelOf 75 = .ok (.aaload, 1) := by decide +kernel
theorem dX12_modelOf_76 : decode cX12_modelOf 76 = .ok (.iload 17, 2) := by decide +kernel
theorem dX12_modelOf_78 : decode cX12_modelOf 78 = .ok (.iaload, 1) := by decide +kernel
theorem dX12_modelOf_79 : decode cX12_modelOf 79 = .ok (.istore 19, 2) := by decide +kernel
theorem dX12_modelOf_81 : decode cX12_modelOf 81 = .ok (.lload 6, 2) := by decide +kernel
theorem dX12_modelOf_83 : decode cX12_modelOf 83 = .ok (.iload 18, 2) := by decide +kernel
theorem dX12_modelOf_85 : decode cX12_modelOf 85 = .ok (.iconst 2, 1) := by decide +kernel
theorem dX12_modelOf_86 : decode cX12_modelOf 86 = .ok (.iload 19, 2) := by decide +kernel
theorem dX12_modelOf_88 : decode cX12_modelOf 88 = .ok (.imul, 1) := by decide +kernel
theorem dX12_modelOf_89 : decode cX12_modelOf 89 = .ok (.iadd, 1) := by decide +kernel
theorem dX12_modelOf_90 : decode cX12_modelOf 90 = .ok (.i2l, 1) := by decide +kernel
theorem dX12_modelOf_91 : decode cX12_modelOf 91 = .ok (.ladd, 1) := by decide +kernel
theorem dX12_modelOf_92 : decode cX12_modelOf 92 = .ok (.lstore 6, 2) := by decide +kernel
theorem dX12_modelOf_94 : decode cX12_modelOf 94 = .ok (.lload 8, 2) := by decide +kernel
theorem dX12_modelOf_96 : decode cX12_modelOf 96 = .ok (.iload 18, 2) := by decide +kernel
theorem dX12_modelOf_98 : decode cX12_modelOf 98 = .ok (.iload 19, 2) := by decide +kernel
theorem dX12_modelOf_100 : decode cX12_modelOf 100 = .ok (.imul, 1) := by decide +kernel
theorem dX12_modelOf_101 : decode cX12_modelOf 101 = .ok (.i2l, 1) := by decide +kernel
theorem dX12_modelOf_102 : decode cX12_modelOf 102 = .ok (.ladd, 1) := by decide +kernel
theorem dX12_modelOf_103 : decode cX12_modelOf 103 = .ok (.lstore 8, 2) := by decide +kernel
theorem dX12_modelOf_105 : decode cX12_modelOf 105 = .ok (.iload 18, 2) := by decide +kernel
theorem dX12_modelOf_107 : decode cX12_modelOf 107 = .ok (.iload 19, 2) := by decide +kernel
theorem dX12_modelOf_109 : decode cX12_modelOf 109 = .ok (.imul, 1) := by decide +kernel
theorem dX12_modelOf_110 : decode cX12_modelOf 110 = .ok (.i2l, 1) := by decide +kernel
theorem dX12_modelOf_111 : decode cX12_modelOf 111 = .ok (.lload 10, 2) := by decide +kernel
theorem dX12_modelOf_113 : decode cX12_modelOf 113 = .ok (.lcmp, 1) := by decide +kernel
theorem dX12_modelOf_114 : decode cX12_modelOf 114 = .ok (.ifCond .le 12, 3) := by decide +kernel
theorem dX12_modelOf_117 : decode cX12_modelOf 117 = .ok (.iload 18, 2) := by decide +kernel
theorem dX12_modelOf_119 : decode cX12_modelOf 119 = .ok (.iload 19, 2) := by decide +kernel
theorem dX12_modelOf_121 : decode cX12_modelOf 121 = .ok (.imul, 1) := by decide +kernel
theorem dX12_modelOf_122 : decode cX12_modelOf 122 = .ok (.i2l, 1) := by decide +kernel
theorem dX12_modelOf_123 : decode cX12_modelOf 123 = .ok (.goto 5, 3) := by decide +kernel
theorem dX12_modelOf_126 : decode cX12_modelOf 126 = .ok (.lload 10, 2) := by decide +kernel
theorem dX12_modelOf_128 : decode cX12_modelOf 128 = .ok (.lstore 10, 2) := by decide +kernel
theorem dX12_modelOf_130 : decode cX12_modelOf 130 = .ok (.iload 18, 2) := by decide +kernel
theorem dX12_modelOf_132 : decode cX12_modelOf 132 = .ok (.i2l, 1) := by decide +kernel
theorem dX12_modelOf_133 : decode cX12_modelOf 133 = .ok (.lload 12, 2) := by decide +kernel
theorem dX12_modelOf_135 : decode cX12_modelOf 135 = .ok (.lcmp, 1) := by decide +kernel
theorem dX12_modelOf_136 : decode cX12_modelOf 136 = .ok (.ifCond .le 9, 3) := by decide +kernel
theorem dX12_modelOf_139 : decode cX12_modelOf 139 = .ok (.iload 18, 2) := by decide +kernel
theorem dX12_modelOf_141 : decode cX12_modelOf 141 = .ok (.i2l, 1) := by decide +kernel
theorem dX12_modelOf_142 : decode cX12_modelOf 142 = .ok (.goto 5, 3) := by decide +kernel
theorem dX12_modelOf_145 : decode cX12_modelOf 145 = .ok (.lload 12, 2) := by decide +kernel
theorem dX12_modelOf_147 : decode cX12_modelOf 147 = .ok (.lstore 12, 2) := by decide +kernel
theorem dX12_modelOf_149 : decode cX12_modelOf 149 = .ok (.iload 19, 2) := by decide +kernel
theorem dX12_modelOf_151 : decode cX12_modelOf 151 = .ok (.i2l, 1) := by decide +kernel
theorem dX12_modelOf_152 : decode cX12_modelOf 152 = .ok (.lload 14, 2) := by decide +kernel
theorem dX12_modelOf_154 : decode cX12_modelOf 154 = .ok (.lcmp, 1) := by decide +kernel
theorem dX12_modelOf_155 : decode cX12_modelOf 155 = .ok (.ifCond .le 9, 3) := by decide +kernel
theorem dX12_modelOf_158 : decode cX12_modelOf 158 = .ok (.iload 19, 2) := by decide +kernel
theorem dX12_modelOf_160 : decode cX12_modelOf 160 = .ok (.i2l, 1) := by decide +kernel
theorem dX12_modelOf_161 : decode cX12_modelOf 161 = .ok (.goto 5, 3) := by decide +kernel
theorem dX12_modelOf_164 : decode cX12_modelOf 164 = .ok (.lload 14, 2) := by decide +kernel
theorem dX12_modelOf_166 : decode cX12_modelOf 166 = .ok (.lstore 14, 2) := by decide +kernel
theorem dX12_modelOf_168 : decode cX12_modelOf 168 = .ok (.iinc 17 1, 3) := by decide +kernel
theorem dX12_modelOf_171 : decode cX12_modelOf 171 = .ok (.goto (-119), 3) := by decide +kernel
theorem dX12_modelOf_174 : decode cX12_modelOf 174 = .ok (.iload_n 3, 1) := by decide +kernel
theorem dX12_modelOf_175 : decode cX12_modelOf 175 = .ok (.tableswitch 93 0 4 #[33, 36, 53, 73, 83], 33) := by decide +kernel
theorem dX12_modelOf_208 : decode cX12_modelOf 208 = .ok (.lload 4, 2) := by decide +kernel
theorem dX12_modelOf_210 : decode cX12_modelOf 210 = .ok (.lreturn, 1) := by decide +kernel
theorem dX12_modelOf_211 : decode cX12_modelOf 211 = .ok (.lload 4, 2) := by decide +kernel
theorem dX12_modelOf_213 : decode cX12_modelOf 213 = .ok (.lload 4, 2) := by decide +kernel
theorem dX12_modelOf_215 : decode cX12_modelOf 215 = .ok (.lmul, 1) := by decide +kernel
theorem dX12_modelOf_216 : decode cX12_modelOf 216 = .ok (.lload 6, 2) := by decide +kernel
theorem dX12_modelOf_218 : decode cX12_modelOf 218 = .ok (.lmul, 1) := by decide +kernel
theorem dX12_modelOf_219 : decode cX12_modelOf 219 = .ok (.ldc2_w 97, 3) := by decide +kernel
theorem dX12_modelOf_222 : decode cX12_modelOf 222 = .ok (.iload 16, 2) := by decide +kernel
theorem dX12_modelOf_224 : decode cX12_modelOf 224 = .ok (.i2l, 1) := by decide +kernel
theorem dX12_modelOf_225 : decode cX12_modelOf 225 = .ok (.lmul, 1) := by decide +kernel
theorem dX12_modelOf_226 : decode cX12_modelOf 226 = .ok (.ldiv, 1) := by decide +kernel
theorem dX12_modelOf_227 : decode cX12_modelOf 227 = .ok (.lreturn, 1) := by decide +kernel
theorem dX12_modelOf_228 : decode cX12_modelOf 228 = .ok (.lload 4, 2) := by decide +kernel
theorem dX12_modelOf_230 : decode cX12_modelOf 230 = .ok (.lload 4, 2) := by decide +kernel
theorem dX12_modelOf_232 : decode cX12_modelOf 232 = .ok (.lmul, 1) := by decide +kernel
theorem dX12_modelOf_233 : decode cX12_modelOf 233 = .ok (.lload 4, 2) := by decide +kernel
theorem dX12_modelOf_235 : decode cX12_modelOf 235 = .ok (.lmul, 1) := by decide +kernel
theorem dX12_modelOf_236 : decode cX12_modelOf 236 = .ok (.lload 8, 2) := by decide +kernel
theorem dX12_modelOf_238 : decode cX12_modelOf 238 = .ok (.lmul, 1) := by decide +kernel
theorem dX12_modelOf_239 : decode cX12_modelOf 239 = .ok (.ldc2_w 99, 3) := by decide +kernel
theorem dX12_modelOf_242 : decode cX12_modelOf 242 = .ok (.iload 16, 2) := by decide +kernel
theorem dX12_modelOf_244 : decode cX12_modelOf 244 = .ok (.i2l, 1) := by decide +kernel
theorem dX12_modelOf_245 : decode cX12_modelOf 245 = .ok (.lmul, 1) := by decide +kernel
theorem dX12_modelOf_246 : decode cX12_modelOf 246 = .ok (.ldiv, 1) := by decide +kernel
theorem dX12_modelOf_247 : decode cX12_modelOf 247 = .ok (.lreturn, 1) := by decide +kernel
theorem dX12_modelOf_248 : decode cX12_modelOf 248 = .ok (.lload 12, 2) := by decide +kernel
theorem dX12_modelOf_250 : decode cX12_modelOf 250 = .ok (.lload 4, 2) := by decide +kernel
theorem dX12_modelOf_252 : decode cX12_modelOf 252 = .ok (.lmul, 1) := by decide +kernel
theorem dX12_modelOf_253 : decode cX12_modelOf 253 = .ok (.ldc2_w 97, 3) := by decide +kernel
theorem dX12_modelOf_256 : decode cX12_modelOf 256 = .ok (.ldiv, 1) := by decide +kernel
theorem dX12_modelOf_257 : decode cX12_modelOf 257 = .ok (.lreturn, 1) := by decide +kernel
theorem dX12_modelOf_258 : decode cX12_modelOf 258 = .ok (.lload 14, 2) := by decide +kernel
theorem dX12_modelOf_260 : decode cX12_modelOf 260 = .ok (.lload 4, 2) := by decide +kernel
theorem dX12_modelOf_262 : decode cX12_modelOf 262 = .ok (.lmul, 1) := by decide +kernel
theorem dX12_modelOf_263 : decode cX12_modelOf 263 = .ok (.ldc2_w 97, 3) := by decide +kernel
theorem dX12_modelOf_266 : decode cX12_modelOf 266 = .ok (.ldiv, 1) := by decide +kernel
theorem dX12_modelOf_267 : decode cX12_modelOf 267 = .ok (.lreturn, 1) := by decide +kernel
theorem dX12_modelOf_268 : decode cX12_modelOf 268 = .ok (.lload 10, 2) := by decide +kernel
theorem dX12_modelOf_270 : decode cX12_modelOf 270 = .ok (.lload 4, 2) := by decide +kernel
theorem dX12_modelOf_272 : decode cX12_modelOf 272 = .ok (.lmul, 1) := by decide +kernel
theorem dX12_modelOf_273 : decode cX12_modelOf 273 = .ok (.lload 4, 2) := by decide +kernel
theorem dX12_modelOf_275 : decode cX12_modelOf 275 = .ok (.lmul, 1) := by decide +kernel
theorem dX12_modelOf_276 : decode cX12_modelOf 276 = .ok (.ldc2_w 99, 3) := by decide +kernel
theorem dX12_modelOf_279 : decode cX12_modelOf 279 = .ok (.ldiv, 1) := by decide +kernel
theorem dX12_modelOf_280 : decode cX12_modelOf 280 = .ok (.lreturn, 1) := by decide +kernel
theorem dX12_model_0 : decode cX12_model 0 = .ok (.aload_n 0, 1) := by decide +kernel
theorem dX12_model_1 : decode cX12_model 1 = .ok (.iconst 0, 1) := by decide +kernel
theorem dX12_model_2 : decode cX12_model 2 = .ok (.putfield 79, 3) := by decide +kernel
theorem dX12_model_5 : decode cX12_model 5 = .ok (.aload_n 0, 1) := by decide +kernel
theorem dX12_model_6 : decode cX12_model 6 = .ok (.aload_n 0, 1) := by decide +kernel
theorem dX12_model_7 : decode cX12_model 7 = .ok (.iload_n 1, 1) := by decide +kernel
theorem dX12_model_8 : decode cX12_model 8 = .ok (.invokevirtual 93, 3) := by decide +kernel
theorem dX12_model_11 : decode cX12_model 11 = .ok (.ifCond .ne 7, 3) := by decide +kernel
theorem dX12_model_14 : decode cX12_model 14 = .ok (.iconst 1, 1) := by decide +kernel
theorem dX12_model_15 : decode cX12_model 15 = .ok (.goto 4, 3) := by decide +kernel
theorem dX12_model_18 : decode cX12_model 18 = .ok (.iconst 0, 1) := by decide +kernel
theorem dX12_model_19 : decode cX12_model 19 = .ok (.iconst 1, 1) := by decide +kernel
theorem dX12_model_20 : decode cX12_model 20 = .ok (.invokevirtual 86, 3) := by decide +kernel
theorem dX12_model_23 : decode cX12_model 23 = .ok (.ifCond .ne 35, 3) := by decide +kernel
theorem dX12_model_26 : decode cX12_model 26 = .ok (.aload_n 0, 1) := by decide +kernel
theorem dX12_model_27 : decode cX12_model 27 = .ok (.iload_n 2, 1) := by decide +kernel
theorem dX12_model_28 : decode cX12_model 28 = .ok (.iconst 1, 1) := by decide +kernel
theorem dX12_model_29 : decode cX12_model 29 = .ok (.bipush 40, 2) := by decide +kernel
theorem dX12_model_31 : decode cX12_model 31 = .ok (.invokestatic 82, 3) := by decide +kernel
theorem dX12_model_34 : decode cX12_model 34 = .ok (.ifCond .eq 12, 3) := by decide +kernel
theorem dX12_model_37 : decode cX12_model 37 = .ok (.iload_n 3, 1) := by decide +kernel
theorem dX12_model_38 : decode cX12_model 38 = .ok (.iconst 0, 1) := by decide +kernel
theorem dX12_model_39 : decode cX12_model 39 = .ok (.iconst 5, 1) := by decide +kernel
theorem dX12_model_40 : decode cX12_model 40 = .ok (.invokestatic 82, 3) := by decide +kernel
theorem dX12_model_43 : decode cX12_model 43 = .ok (.ifCond .ne 7, 3) := by decide +kernel
theorem dX12_model_46 : decode cX12_model 46 = .ok (.iconst 1, 1) := by decide +kernel
theorem dX12_model_47 : decode cX12_model 47 = .ok (.goto 4, 3) := by decide +kernel
theorem dX12_model_50 : decode cX12_model 50 = .ok (.iconst 0, 1) := by decide +kernel
theorem dX12_model_51 : decode cX12_model 51 = .ok (.iconst 2, 1) := by decide +kernel
theorem dX12_model_52 : decode cX12_model 52 = .ok (.invokevirtual 86, 3) := by decide +kernel
theorem dX12_model_55 : decode cX12_model 55 = .ok (.ifCond .eq 5, 3) := by decide +kernel
theorem dX12_model_58 : decode cX12_model 58 = .ok (.iconst 0, 1) := by decide +kernel
theorem dX12_model_59 : decode cX12_model 59 = .ok (.ireturn, 1) := by decide +kernel
theorem dX12_model_60 : decode cX12_model 60 = .ok (.aload_n 0, 1) := by decide +kernel
theorem dX12_model_61 : decode cX12_model 61 = .ok (.iload_n 1, 1) := by decide +kernel
theorem dX12_model_62 : decode cX12_model 62 = .ok (.iload_n 2, 1) := by decide +kernel
theorem dX12_model_63 : decode cX12_model 63 = .ok (.iload_n 3, 1) := by decide +kernel
theorem dX12_model_64 : decode cX12_model 64 = .ok (.invokevirtual 101, 3) := by decide +kernel
theorem dX12_model_67 : decode cX12_model 67 = .ok (.l2i, 1) := by decide +kernel
theorem dX12_model_68 : decode cX12_model 68 = .ok (.ireturn, 1) := by decide +kernel
theorem dX12_tank_0 : decode cX12_tank 0 = .ok (.aload_n 0, 1) := by decide +kernel
theorem dX12_tank_1 : decode cX12_tank 1 = .ok (.iconst 0, 1) := by decide +kernel
theorem dX12_tank_2 : decode cX12_tank 2 = .ok (.putfield 79, 3) := by decide +kernel
theorem dX12_tank_5 : decode cX12_tank 5 = .ok (.aload_n 0, 1) := by decide +kernel
theorem dX12_tank_6 : decode cX12_tank 6 = .ok (.iload_n 1, 1) := by decide +kernel
theorem dX12_tank_7 : decode cX12_tank 7 = .ok (.iconst 1, 1) := by decide +kernel
theorem dX12_tank_8 : decode cX12_tank 8 = .ok (.sipush 200, 3) := by decide +kernel
theorem dX12_tank_11 : decode cX12_tank 11 = .ok (.invokestatic 82, 3) := by decide +kernel
theorem dX12_tank_14 : decode cX12_tank 14 = .ok (.ifCond .eq 14, 3) := by decide +kernel
theorem dX12_tank_17 : decode cX12_tank 17 = .ok (.iload_n 2, 1) := by decide +kernel
theorem dX12_tank_18 : decode cX12_tank 18 = .ok (.iconst 1, 1) := by decide +kernel
theorem dX12_tank_19 : decode cX12_tank 19 = .ok (.sipush 200, 3) := by decide +kernel
theorem dX12_tank_22 : decode cX12_tank 22 = .ok (.invokestatic 82, 3) := by decide +kernel
theorem dX12_tank_25 : decode cX12_tank 25 = .ok (.ifCond .ne 7, 3) := by decide +kernel
theorem dX12_tank_28 : decode cX12_tank 28 = .ok (.iconst 1, 1) := by decide +kernel
theorem dX12_tank_29 : decode cX12_tank 29 = .ok (.goto 4, 3) := by decide +kernel
theorem dX12_tank_32 : decode cX12_tank 32 = .ok (.iconst 0, 1) := by decide +kernel
theorem dX12_tank_33 : decode cX12_tank 33 = .ok (.iconst 1, 1) := by decide +kernel
theorem dX12_tank_34 : decode cX12_tank 34 = .ok (.invokevirtual 86, 3) := by decide +kernel
theorem dX12_tank_37 : decode cX12_tank 37 = .ok (.ifCond .eq 5, 3) := by decide +kernel
theorem dX12_tank_40 : decode cX12_tank 40 = .ok (.iconst 0, 1) := by decide +kernel
theorem dX12_tank_41 : decode cX12_tank 41 = .ok (.ireturn, 1) := by decide +kernel
theorem dX12_tank_42 : decode cX12_tank 42 = .ok (.aload_n 0, 1) := by decide +kernel
theorem dX12_tank_43 : decode cX12_tank 43 = .ok (.getfield 105, 3) := by decide +kernel
theorem dX12_tank_46 : decode cX12_tank 46 = .ok (.iconst 4, 1) := by decide +kernel
theorem dX12_tank_47 : decode cX12_tank 47 = .ok (.if_icmp .ne 5, 3) := by decide +kernel
theorem dX12_tank_50 : decode cX12_tank 50 = .ok (.iconst (-1), 1) := by decide +kernel
theorem dX12_tank_51 : decode cX12_tank 51 = .ok (.ireturn, 1) := by decide +kernel
theorem dX12_tank_52 : decode cX12_tank 52 = .ok (.aload_n 0, 1) := by decide +kernel
theorem dX12_tank_53 : decode cX12_tank 53 = .ok (.getfield 46, 3) := by decide +kernel
theorem dX12_tank_56 : decode cX12_tank 56 = .ok (.aload_n 0, 1) := by decide +kernel
theorem dX12_tank_57 : decode cX12_tank 57 = .ok (.getfield 105, 3) := by decide +kernel
theorem dX12_tank_60 : decode cX12_tank 60 = .ok (.iload_n 1, 1) := by decide +kernel
theorem dX12_tank_61 : decode cX12_tank 61 = .ok (.iastore, 1) := by decide +kernel
theorem dX12_tank_62 : decode cX12_tank 62 = .ok (.aload_n 0, 1) := by decide +kernel
theorem dX12_tank_63 : decode cX12_tank 63 = .ok (.getfield 49, 3) := by decide +kernel
theorem dX12_tank_66 : decode cX12_tank 66 = .ok (.aload_n 0, 1) := by decide +kernel
theorem dX12_tank_67 : decode cX12_tank 67 = .ok (.getfield 105, 3) := by decide +kernel
theorem dX12_tank_70 : decode cX12_tank 70 = .ok (.iload_n 2, 1) := by decide +kernel
theorem dX12_tank_71 : decode cX12_tank 71 = .ok (.iastore, 1) := by decide +kernel
theorem dX12_tank_72 : decode cX12_tank 72 = .ok (.aload_n 0, 1) := by decide +kernel
theorem dX12_tank_73 : decode cX12_tank 73 = .ok (.dup, 1) := by decide +kernel
theorem dX12_tank_74 : decode cX12_tank 74 = .ok (.getfield 105, 3) := by decide +kernel
theorem dX12_tank_77 : decode cX12_tank 77 = .ok (.iconst 1, 1) := by decide +kernel
theorem dX12_tank_78 : decode cX12_tank 78 = .ok (.iadd, 1) := by decide +kernel
theorem dX12_tank_79 : decode cX12_tank 79 = .ok (.putfield 105, 3) := by decide +kernel
theorem dX12_tank_82 : decode cX12_tank 82 = .ok (.aload_n 0, 1) := by decide +kernel
theorem dX12_tank_83 : decode cX12_tank 83 = .ok (.getfield 105, 3) := by decide +kernel
theorem dX12_tank_86 : decode cX12_tank 86 = .ok (.iconst 1, 1) := by decide +kernel
theorem dX12_tank_87 : decode cX12_tank 87 = .ok (.isub, 1) := by decide +kernel
theorem dX12_tank_88 : decode cX12_tank 88 = .ok (.ireturn, 1) := by decide +kernel
theorem dX12_feed_0 : decode cX12_feed 0 = .ok (.aload_n 0, 1) := by decide +kernel
theorem dX12_feed_1 : decode cX12_feed 1 = .ok (.iconst 0, 1) := by decide +kernel
theorem dX12_feed_2 : decode cX12_feed 2 = .ok (.putfield 79, 3) := by decide +kernel
theorem dX12_feed_5 : decode cX12_feed 5 = .ok (.aload_n 0, 1) := by decide +kernel
theorem dX12_feed_6 : decode cX12_feed 6 = .ok (.getfield 108, 3) := by decide +kernel
theorem dX12_feed_9 : decode cX12_feed 9 = .ok (.bipush 20, 2) := by decide +kernel
theorem dX12_feed_11 : decode cX12_feed 11 = .ok (.iadd, 1) := by decide +kernel
theorem dX12_feed_12 : decode cX12_feed 12 = .ok (.sipush 400, 3) := by decide +kernel
theorem dX12_feed_15 : decode cX12_feed 15 = .ok (.if_icmp .le 5, 3) := by decide +kernel
theorem dX12_feed_18 : decode cX12_feed 18 = .ok (.iconst (-1), 1) := by decide +kernel
theorem dX12_feed_19 : decode cX12_feed 19 = .ok (.ireturn, 1) := by decide +kernel
theorem dX12_feed_20 : decode cX12_feed 20 = .ok (.iconst 0, 1) := by decide +kernel
theorem dX12_feed_21 : decode cX12_feed 21 = .ok (.istore 6, 2) := by decide +kernel
theorem dX12_feed_23 : decode cX12_feed 23 = .ok (.iload 6, 2) := by decide +kernel
theorem dX12_feed_25 : decode cX12_feed 25 = .ok (.bipush 20, 2) := by decide +kernel
theorem dX12_feed_27 : decode cX12_feed 27 = .ok (.if_icmp .ge 93, 3) := by decide +kernel
theorem dX12_feed_30 : decode cX12_feed 30 = .ok (.iload 6, 2) := by decide +kernel
theorem dX12_feed_32 : decode cX12_feed 32 = .ok (.iconst 4, 1) := by decide +kernel
theorem dX12_feed_33 : decode cX12_feed 33 = .ok (.if_icmp .ge 7, 3) := by decide +kernel
theorem dX12_feed_36 : decode cX12_feed 36 = .ok (.iload_n 1, 1) := by decide +kernel
theorem dX12_feed_37 : decode cX12_feed 37 = .ok (.goto 39, 3) := by decide +kernel
theorem dX12_feed_40 : decode cX12_feed 40 = .ok (.iload 6, 2) := by decide +kernel
theorem dX12_feed_42 : decode cX12_feed 42 = .ok (.bipush 8, 2) := by decide +kernel
theorem dX12_feed_44 : decode cX12_feed 44 = .ok (.if_icmp .ge 7, 3) := by decide +kernel
theorem dX12_feed_47 : decode cX12_feed 47 = .ok (.iload_n 2, 1) := by decide +kernel
theorem dX12_feed_48 : decode cX12_feed 48 = .ok (.goto 28, 3) := by decide +kernel
theorem dX12_feed_51 : decode cX12_feed 51 = .ok (.iload 6, 2) := by decide +kernel
theorem dX12_feed_53 : decode cX12_feed 53 = .ok (.bipush 12, 2) := by decide +kernel
theorem dX12_feed_55 : decode cX12_feed 55 = .ok (.if_icmp .ge 7, 3) := by decide +kernel
theorem dX12_feed_58 : decode cX12_feed 58 = .ok (.iload_n 3, 1) := by decide +kernel
theorem dX12_feed_59 : decode cX12_feed 59 = .ok (.goto 17, 3) := by decide +kernel
theorem dX12_feed_62 : decode cX12_feed 62 = .ok (.iload 6, 2) := by decide +kernel
theorem dX12_feed_64 : decode cX12_feed 64 = .ok (.bipush 16, 2) := by decide +kernel
theorem dX12_feed_66 : decode cX12_feed 66 = .ok (.if_icmp .ge 8, 3) := by decide +kernel
theorem dX12_feed_69 : decode cX12_feed 69 = .ok (.iload 4, 2) := by decide +kernel
theorem dX12_feed_71 : decode cX12_feed 71 = .ok (.goto 5, 3) := by decide +kernel
theorem dX12_feed_74 : decode cX12_feed 74 = .ok (.iload 5, 2) := by decide +kernel
theorem dX12_feed_76 : decode cX12_feed 76 = .ok (.istore 7, 2) := by decide +kernel
theorem dX12_feed_78 : decode cX12_feed 78 = .ok (.aload_n 0, 1) := by decide +kernel
theorem dX12_feed_79 : decode cX12_feed 79 = .ok (.getfield 15, 3) := by decide +kernel
theorem dX12_feed_82 : decode cX12_feed 82 = .ok (.aload_n 0, 1) := by decide +kernel
theorem dX12_feed_83 : decode cX12_feed 83 = .ok (.getfield 108, 3) := by decide +kernel
theorem dX12_feed_86 : decode cX12_feed 86 = .ok (.iload 7, 2) := by decide +kernel
theorem dX12_feed_88 : decode cX12_feed 88 = .ok (.bipush 24, 2) := by decide +kernel
theorem dX12_feed_90 : decode cX12_feed 90 = .ok (.bipush 8, 2) := by decide +kernel
theorem dX12_feed_92 : decode cX12_feed 92 = .ok (.iload 6, 2) := by decide +kernel
theorem dX12_feed_94 : decode cX12_feed 94 = .ok (.iconst 4, 1) := by decide +kernel
theorem dX12_feed_95 : decode cX12_feed 95 = .ok (.irem, 1) := by decide +kernel
theorem dX12_feed_96 : decode cX12_feed 96 = .ok (.imul, 1) := by decide +kernel
theorem dX12_feed_97 : decode cX12_feed 97 = .ok (.isub, 1) := by decide +kernel
theorem dX12_feed_98 : decode cX12_feed 98 = .ok (.ishr, 1) := by decide +kernel
theorem dX12_feed_99 : decode cX12_feed 99 = .ok (.sipush 255, 3) := by decide +kernel
theorem dX12_feed_102 : decode cX12_feed 102 = .ok (.iand, 1) := by decide +kernel
theorem dX12_feed_103 : decode cX12_feed 103 = .ok (.iastore, 1) := by decide +kernel
theorem dX12_feed_104 : decode cX12_feed 104 = .ok (.aload_n 0, 1) := by decide +kernel
theorem dX12_feed_105 : decode cX12_feed 105 = .ok (.dup, 1) := by decide +kernel
theorem dX12_feed_106 : decode cX12_feed 106 = .ok (.getfield 108, 3) := by decide +kernel
theorem dX12_feed_109 : decode cX12_feed 109 = .ok (.iconst 1, 1) := by decide +kernel
theorem dX12_feed_110 : decode cX12_feed 110 = .ok (.iadd, 1) := by decide +kernel
theorem dX12_feed_111 : decode cX12_feed 111 = .ok (.putfield 108, 3) := by decide +kernel
theorem dX12_feed_114 : decode cX12_feed 114 = .ok (.iinc 6 1, 3) := by decide +kernel
theorem dX12_feed_117 : decode cX12_feed 117 = .ok (.goto (-94), 3) := by decide +kernel
theorem dX12_feed_120 : decode cX12_feed 120 = .ok (.aload_n 0, 1) := by decide +kernel
theorem dX12_feed_121 : decode cX12_feed 121 = .ok (.getfield 108, 3) := by decide +kernel
theorem dX12_feed_124 : decode cX12_feed 124 = .ok (.ireturn, 1) := by decide +kernel
theorem dX12_byteAt_0 : decode cX12_byteAt 0 = .ok (.iload_n 1, 1) := by decide +kernel
theorem dX12_byteAt_1 : decode cX12_byteAt 1 = .ok (.aload_n 0, 1) := by decide +kernel
theorem dX12_byteAt_2 : decode cX12_byteAt 2 = .ok (.getfield 111, 3) := by decide +kernel
theorem dX12_byteAt_5 : decode cX12_byteAt 5 = .ok (.if_icmp .lt 7, 3) := by decide +kernel
theorem dX12_byteAt_8 : decode cX12_byteAt 8 = .ok (.iconst (-1), 1) := by decide +kernel
theorem dX12_byteAt_9 : decode cX12_byteAt 9 = .ok (.goto 31, 3) := by decide +kernel
theorem dX12_byteAt_12 : decode cX12_byteAt 12 = .ok (.aload_n 0, 1) := by decide +kernel
theorem dX12_byteAt_13 : decode cX12_byteAt 13 = .ok (.getfield 114, 3) := by decide +kernel
theorem dX12_byteAt_16 : decode cX12_byteAt 16 = .ok (.iconst (-1), 1) := by decide +kernel
theorem dX12_byteAt_17 : decode cX12_byteAt 17 = .ok (.if_icmp .ne 12, 3) := by decide +kernel
theorem dX12_byteAt_20 : decode cX12_byteAt 20 = .ok (.aload_n 0, 1) := by decide +kernel
theorem dX12_byteAt_21 : decode cX12_byteAt 21 = .ok (.getfield 15, 3) := by decide +kernel
theorem dX12_byteAt_24 : decode cX12_byteAt 24 = .ok (.iload_n 1, 1) := by decide +kernel
theorem dX12_byteAt_25 : decode cX12_byteAt 25 = .ok (.iaload, 1) := by decide +kernel
theorem dX12_byteAt_26 : decode cX12_byteAt 26 = .ok (.goto 14, 3) := by decide +kernel
theorem dX12_byteAt_29 : decode cX12_byteAt 29 = .ok (.aload_n 0, 1) := by decide +kernel
theorem dX12_byteAt_30 : decode cX12_byteAt 30 = .ok (.getfield 21, 3) := by decide +kernel
theorem dX12_byteAt_33 : decode cX12_byteAt 33 = .ok (.aload_n 0, 1) := by decide +kernel
theorem dX12_byteAt_34 : decode cX12_byteAt 34 = .ok (.getfield 114, 3) := by decide +kernel
theorem dX12_byteAt_37 : decode cX12_byteAt 37 = .ok (.aaload, 1) := by decide +kernel
theorem dX12_byteAt_38 : decode cX12_byteAt 38 = .ok (.iload_n 1, 1) := by decide +kernel
theorem dX12_byteAt_39 : decode cX12_byteAt 39 = .ok (.iaload, 1) := by decide +kernel
theorem dX12_byteAt_40 : decode cX12_byteAt 40 = .ok (.ireturn, 1) := by decide +kernel
theorem dX12_blanks_0 : decode cX12_blanks 0 = .ok (.aload_n 0, 1) := by decide +kernel
theorem dX12_blanks_1 : decode cX12_blanks 1 = .ok (.aload_n 0, 1) := by decide +kernel
theorem dX12_blanks_2 : decode cX12_blanks 2 = .ok (.getfield 117, 3) := by decide +kernel
theorem dX12_blanks_5 : decode cX12_blanks 5 = .ok (.invokevirtual 120, 3) := by decide +kernel
theorem dX12_blanks_8 : decode cX12_blanks 8 = .ok (.bipush 32, 2) := by decide +kernel
theorem dX12_blanks_10 : decode cX12_blanks 10 = .ok (.if_icmp .ne 16, 3) := by decide +kernel
theorem dX12_blanks_13 : decode cX12_blanks 13 = .ok (.aload_n 0, 1) := by decide +kernel
theorem dX12_blanks_14 : decode cX12_blanks 14 = .ok (.dup, 1) := by decide +kernel
theorem dX12_blanks_15 : decode cX12_blanks 15 = .ok (.getfield 117, 3) := by decide +kernel
theorem dX12_blanks_18 : decode cX12_blanks 18 = .ok (.iconst 1, 1) := by decide +kernel
theorem dX12_blanks_19 : decode cX12_blanks 19 = .ok (.iadd, 1) := by decide +kernel
theorem dX12_blanks_20 : decode cX12_blanks 20 = .ok (.putfield 117, 3) := by decide +kernel
theorem dX12_blanks_23 : decode cX12_blanks 23 = .ok (.goto (-23), 3) := by decide +kernel
theorem dX12_blanks_26 : decode cX12_blanks 26 = .ok (.return_, 1) := by decide +kernel
theorem dX12_wrong_0 : decode cX12_wrong 0 = .ok (.aload_n 0, 1) := by decide +kernel
theorem dX12_wrong_1 : decode cX12_wrong 1 = .ok (.getfield 124, 3) := by decide +kernel
theorem dX12_wrong_4 : decode cX12_wrong 4 = .ok (.ifCond .ne 13, 3) := by decide +kernel
theorem dX12_wrong_7 : decode cX12_wrong 7 = .ok (.aload_n 0, 1) := by decide +kernel
theorem dX12_wrong_8 : decode cX12_wrong 8 = .ok (.iload_n 1, 1) := by decide +kernel
theorem dX12_wrong_9 : decode cX12_wrong 9 = .ok (.putfield 124, 3) := by decide +kernel
theorem dX12_wrong_12 : decode cX12_wrong 12 = .ok (.aload_n 0, 1) := by decide +kernel
theorem dX12_wrong_13 : decode cX12_wrong 13 = .ok (.iload_n 2, 1) := by decide +kernel
theorem dX12_wrong_14 : decode cX12_wrong 14 = .ok (.putfield 127, 3) := by decide +kernel
theorem dX12_wrong_17 : decode cX12_wrong 17 = .ok (.return_, 1) := by decide +kernel
theorem dX12_isDigit_0 : decode cX12_isDigit 0 = .ok (.iload_n 0, 1) := by decide +kernel
theorem dX12_isDigit_1 : decode cX12_isDigit 1 = .ok (.bipush 48, 2) := by decide +kernel
theorem dX12_isDigit_3 : decode cX12_isDigit 3 = .ok (.if_icmp .lt 13, 3) := by decide +kernel
theorem dX12_isDigit_6 : decode cX12_isDigit 6 = .ok (.iload_n 0, 1) := by decide +kernel
theorem dX12_isDigit_7 : decode cX12_isDigit 7 = .ok (.bipush 57, 2) := by decide +kernel
theorem dX12_isDigit_9 : decode cX12_isDigit 9 = .ok (.if_icmp .gt 7, 3) := by decide +kernel
theorem dX12_isDigit_12 : decode cX12_isDigit 12 = .ok (.iconst 1, 1) := by decide +kernel
theorem dX12_isDigit_13 : decode cX12_isDigit 13 = .ok (.goto 4, 3) := by decide +kernel
theorem dX12_isDigit_16 : decode cX12_isDigit 16 = .ok (.iconst 0, 1) := by decide +kernel
theorem dX12_isDigit_17 : decode cX12_isDigit 17 = .ok (.ireturn, 1) := by decide +kernel
theorem dX12_number_0 : decode cX12_number 0 = .ok (.aload_n 0, 1) := by decide +kernel
theorem dX12_number_1 : decode cX12_number 1 = .ok (.getfield 117, 3) := by decide +kernel
theorem dX12_number_4 : decode cX12_number 4 = .ok (.istore_n 1, 1) := by decide +kernel
theorem dX12_number_5 : decode cX12_number 5 = .ok (.lconst 0, 1) := by decide +kernel
theorem dX12_number_6 : decode cX12_number 6 = .ok (.lstore_n 2, 1) := by decide +kernel
theorem dX12_number_7 : decode cX12_number 7 = .ok (.aload_n 0, 1) := by decide +kernel
theorem dX12_number_8 : decode cX12_number 8 = .ok (.aload_n 0, 1) := by decide +kernel
theorem dX12_number_9 : decode cX12_number 9 = .ok (.getfield 117, 3) := by decide +kernel
theorem dX12_number_12 : decode cX12_number 12 = .ok (.invokevirtual 120, 3) := by decide +kernel
theorem dX12_number_15 : decode cX12_number 15 = .ok (.invokestatic 130, 3) := by decide +kernel
theorem dX12_number_18 : decode cX12_number 18 = .ok (.ifCond .eq 52, 3) := by decide +kernel
theorem dX12_number_21 : decode cX12_number 21 = .ok (.ldc2_w 133, 3) := by decide +kernel
theorem dX12_number_24 : decode cX12_number 24 = .ok (.lload_n 2, 1) := by decide +kernel
theorem dX12_number_25 : decode cX12_number 25 = .ok (.lmul, 1) := by decide +kernel
theorem dX12_number_26 : decode cX12_number 26 = .ok (.aload_n 0, 1) := by decide +kernel
theorem dX12_number_27 : decode cX12_number 27 = .ok (.aload_n 0, 1) := by decide +kernel
theorem dX12_number_28 : decode cX12_number 28 = .ok (.getfield 117, 3) := by decide +kernel
theorem dX12_number_31 : decode cX12_number 31 = .ok (.invokevirtual 120, 3) := by decide +kernel
theorem dX12_number_34 : decode cX12_number 34 = .ok (.i2l, 1) := by decide +kernel
theorem dX12_number_35 : decode cX12_number 35 = .ok (.ladd, 1) := by decide +kernel
theorem dX12_number_36 : decode cX12_number 36 = .ok (.ldc2_w 135, 3) := by decide +kernel
theorem dX12_number_39 : decode cX12_number 39 = .ok (.lsub, 1) := by decide +kernel
theorem dX12_number_40 : decode cX12_number 40 = .ok (.lstore_n 2, 1) := by decide +kernel
theorem dX12_number_41 : decode cX12_number 41 = .ok (.lload_n 2, 1) := by decide +kernel
theorem dX12_number_42 : decode cX12_number 42 = .ok (.ldc2_w 137, 3) := by decide +kernel
theorem dX12_number_45 : decode cX12_number 45 = .ok (.lcmp, 1) := by decide +kernel
theorem dX12_number_46 : decode cX12_number 46 = .ok (.ifCond .le 9, 3) := by decide +kernel
theorem dX12_number_49 : decode cX12_number 49 = .ok (.ldc2_w 137, 3) := by decide +kernel
theorem dX12_number_52 : decode cX12_number 52 = .ok (.goto 4, 3) := by decide +kernel
theorem dX12_number_55 : decode cX12_number 55 = .ok (.lload_n 2, 1) := by decide +kernel
theorem dX12_number_56 : decode cX12_number 56 = .ok (.lstore_n 2, 1) := by decide +kernel
theorem dX12_number_57 : decode cX12_number 57 = .ok (.aload_n 0, 1) := by decide +kernel
theorem dX12_number_58 : decode cX12_number 58 = .ok (.dup, 1) := by decide +kernel
theorem dX12_number_59 : decode cX12_number 59 = .ok (.getfield 117, 3) := by decide +kernel
theorem dX12_number_62 : decode cX12_number 62 = .ok (.iconst 1, 1) := by decide +kernel
theorem dX12_number_63 : decode cX12_number 63 = .ok (.iadd, 1) := by decide +kernel
theorem dX12_number_64 : decode cX12_number 64 = .ok (.putfield 117, 3) := by decide +kernel
theorem dX12_number_67 : decode cX12_number 67 = .ok (.goto (-60), 3) := by decide +kernel
theorem dX12_number_70 : decode cX12_number 70 = .ok (.lload_n 2, 1) := by decide +kernel
theorem dX12_number_71 : decode cX12_number 71 = .ok (.ldc2_w 139, 3) := by decide +kernel
theorem dX12_number_74 : decode cX12_number 74 = .ok (.lcmp, 1) := by decide +kernel
theorem dX12_number_75 : decode cX12_number 75 = .ok (.ifCond .le 9, 3) := by decide +kernel
theorem dX12_number_78 : decode cX12_number 78 = .ok (.aload_n 0, 1) := by decide +kernel
theorem dX12_number_79 : decode cX12_number 79 = .ok (.iconst 2, 1) := by decide +kernel
theorem dX12_number_80 : decode cX12_number 80 = .ok (.iload_n 1, 1) := by decide +kernel
theorem dX12_number_81 : decode cX12_number 81 = .ok (.invokevirtual 141, 3) := by decide +kernel
theorem dX12_number_84 : decode cX12_number 84 = .ok (.lload_n 2, 1) := by decide +kernel
theorem dX12_number_85 : decode cX12_number 85 = .ok (.lreturn, 1) := by decide +kernel
theorem dX12_wordHere_0 : decode cX12_wordHere 0 = .ok (.aload_n 0, 1) := by decide +kernel
theorem dX12_wordHere_1 : decode cX12_wordHere 1 = .ok (.invokevirtual 145, 3) := by decide +kernel
theorem dX12_wordHere_4 : decode cX12_wordHere 4 = .ok (.iconst 0, 1) := by decide +kernel
theorem dX12_wordHere_5 : decode cX12_wordHere 5 = .ok (.istore_n 1, 1) := by decide +kernel
theorem dX12_wordHere_6 : decode cX12_wordHere 6 = .ok (.iconst 0, 1) := by decide +kernel
theorem dX12_wordHere_7 : decode cX12_wordHere 7 = .ok (.istore_n 2, 1) := by decide +kernel
theorem dX12_wordHere_8 : decode cX12_wordHere 8 = .ok (.aload_n 0, 1) := by decide +kernel
theorem dX12_wordHere_9 : decode cX12_wordHere 9 = .ok (.aload_n 0, 1) := by decide +kernel
theorem dX12_wordHere_10 : decode cX12_wordHere 10 = .ok (.getfield 117, 3) := by decide +kernel
theorem dX12_wordHere_13 : decode cX12_wordHere 13 = .ok (.iload_n 2, 1) := by decide +kernel
theorem dX12_wordHere_14 : decode cX12_wordHere 14 = .ok (.iadd, 1) := by decide +kernel
theorem dX12_wordHere_15 : decode cX12_wordHere 15 = .ok (.invokevirtual 120, 3) := by decide +kernel
theorem dX12_wordHere_18 : decode cX12_wordHere 18 = .ok (.bipush 97, 2) := by decide +kernel
theorem dX12_wordHere_20 : decode cX12_wordHere 20 = .ok (.if_icmp .lt 55, 3) := by decide +kernel
theorem dX12_wordHere_23 : decode cX12_wordHere 23 = .ok (.aload_n 0, 1) := by decide +kernel
theorem dX12_wordHere_24 : decode cX12_wordHere 24 = .ok (.aload_n 0, 1) := by decide +kernel
theorem dX12_wordHere_25 : decode cX12_wordHere 25 = .ok (.getfield 117, 3) := by decide +kernel
theorem dX12_wordHere_28 : decode cX12_wordHere 28 = .ok (.iload_n 2, 1) := by decide +kernel
theorem dX12_wordHere_29 : decode cX12_wordHere 29 = .ok (.iadd, 1) := by decide +kernel
theorem dX12_wordHere_30 : decode cX12_wordHere 30 = .ok (.invokevirtual 120, 3) := by decide +kernel
theorem dX12_wordHere_33 : decode cX12_wordHere 33 = .ok (.bipush 122, 2) := by decide +kernel
theorem dX12_wordHere_35 : decode cX12_wordHere 35 = .ok (.if_icmp .gt 40, 3) := by decide +kernel
theorem dX12_wordHere_38 : decode cX12_wordHere 38 = .ok (.iload_n 2, 1) := by decide +kernel
theorem dX12_wordHere_39 : decode cX12_wordHere 39 = .ok (.bipush 6, 2) := by decide +kernel
theorem dX12_wordHere_41 : decode cX12_wordHere 41 = .ok (.if_icmp .ge 26, 3) := by decide +kernel
theorem dX12_wordHere_44 : decode cX12_wordHere 44 = .ok (.bipush 27, 2) := by decide +kernel
theorem dX12_wordHere_46 : decode cX12_wordHere 46 = .ok (.iload_n 1, 1) := by decide +kernel
theorem dX12_wordHere_47 : decode cX12_wordHere 47 = .ok (.imul, 1) := by decide +kernel
theorem dX12_wordHere_48 : decode cX12_wordHere 48 = .ok (.aload_n 0, 1) := by decide +kernel
theorem dX12_wordHere_49 : decode cX12_wordHere 49 = .ok (.aload_n 0, 1) := by decide +kernel
theorem dX12_wordHere_50 : decode cX12_wordHere 50 = .ok (.getfield 117, 3) := by decide +kernel
theorem dX12_wordHere_53 : decode cX12_wordHere 53 = .ok (.iload_n 2, 1) := by decide +kernel
theorem dX12_wordHere_54 : decode cX12_wordHere 54 = .ok (.iadd, 1) := by decide +kernel
theorem dX12_wordHere_55 : decode cX12_wordHere 55 = .ok (.invokevirtual 120, 3) := by decide +kernel
theorem dX12_wordHere_58 : decode cX12_wordHere 58 = .ok (.iadd, 1) := by decide +kernel
theorem dX12_wordHere_59 : decode cX12_wordHere 59 = .ok (.bipush 97, 2) := by decide +kernel
theorem dX12_wordHere_61 : decode cX12_wordHere 61 = .ok (.isub, 1) := by decide +kernel
theorem dX12_wordHere_62 : decode cX12_wordHere 62 = .ok (.iconst 1, 1) := by decide +kernel
theorem dX12_wordHere_63 : decode cX12_wordHere 63 = .ok (.iadd, 1) := by decide +kernel
theorem dX12_wordHere_64 : decode cX12_wordHere 64 = .ok (.goto 4, 3) := by decide +kernel
theorem dX12_wordHere_67 : decode cX12_wordHere 67 = .ok (.iload_n 1, 1) := by decide +kernel
theorem dX12_wordHere_68 : decode cX12_wordHere 68 = .ok (.istore_n 1, 1) := by decide +kernel
theorem dX12_wordHere_69 : decode cX12_wordHere 69 = .ok (.iinc 2 1, 3) := by decide +kernel
theorem dX12_wordHere_72 : decode cX12_wordHere 72 = .ok (.goto (-64), 3) := by decide +kernel
theorem dX12_wordHere_75 : decode cX12_wordHere 75 = .ok (.iload_n 2, 1) := by decide +kernel
theorem dX12_wordHere_76 : decode cX12_wordHere 76 = .ok (.bipush 6, 2) := by decide +kernel
theorem dX12_wordHere_78 : decode cX12_wordHere 78 = .ok (.if_icmp .le 7, 3) := by decide +kernel
theorem dX12_wordHere_81 : decode cX12_wordHere 81 = .ok (.iconst (-1), 1) := by decide +kernel
theorem dX12_wordHere_82 : decode cX12_wordHere 82 = .ok (.goto 4, 3) := by decide +kernel
theorem dX12_wordHere_85 : decode cX12_wordHere 85 = .ok (.iload_n 1, 1) := by decide +kernel
theorem dX12_wordHere_86 : decode cX12_wordHere 86 = .ok (.ireturn, 1) := by decide +kernel
theorem dX12_word_0 : decode cX12_word 0 = .ok (.bipush 27, 2) := by decide +kernel
theorem dX12_word_2 : decode cX12_word 2 = .ok (.iload_n 0, 1) := by decide +kernel
theorem dX12_word_3 : decode cX12_word 3 = .ok (.imul, 1) := by decide +kernel
theorem dX12_word_4 : decode cX12_word 4 = .ok (.iload_n 1, 1) := by decide +kernel
theorem dX12_word_5 : decode cX12_word 5 = .ok (.iadd, 1) := by decide +kernel
theorem dX12_word_6 : decode cX12_word 6 = .ok (.istore 6, 2) := by decide +kernel
theorem dX12_word_8 : decode cX12_word 8 = .ok (.iload_n 2, 1) := by decide +kernel
theorem dX12_word_9 : decode cX12_word 9 = .ok (.ifCond .ne 8, 3) := by decide +kernel
theorem dX12_word_12 : decode cX12_word 12 = .ok (.iload 6, 2) := by decide +kernel
theorem dX12_word_14 : decode cX12_word 14 = .ok (.goto 10, 3) := by decide +kernel
theorem dX12_word_17 : decode cX12_word 17 = .ok (.bipush 27, 2) := by decide +kernel
theorem dX12_word_19 : decode cX12_word 19 = .ok (.iload 6, 2) := by decide +kernel
theorem dX12_word_21 : decode cX12_word 21 = .ok (.imul, 1) := by decide +kernel
theorem dX12_word_22 : decode cX12_word 22 = .ok (.iload_n 2, 1) := by decide +kernel
theorem dX12_word_23 : decode cX12_word 23 = .ok (.iadd, 1) := by decide +kernel
theorem dX12_word_24 : decode cX12_word 24 = .ok (.istore 6, 2) := by decide +kernel
theorem dX12_word_26 : decode cX12_word 26 = .ok (.iload_n 3, 1) := by decide +kernel
theorem dX12_word_27 : decode cX12_word 27 = .ok (.ifCond .ne 8, 3) := by decide +kernel
theorem dX12_word_30 : decode cX12_word 30 = .ok (.iload 6, 2) := by decide +kernel
theorem dX12_word_32 : decode cX12_word 32 = .ok (.goto 10, 3) := by decide +kernel
theorem dX12_word_35 : decode cX12_word 35 = .ok (.bipush 27, 2) := by decide +kernel
theorem dX12_word_37 : decode cX12_word 37 = .ok (.iload 6, 2) := by decide +kernel
theorem dX12_word_39 : decode cX12_word 39 = .ok (.imul, 1) := by decide +kernel
theorem dX12_word_40 : decode cX12_word 40 = .ok (.iload_n 3, 1) := by decide +kernel
theorem dX12_word_41 : decode cX12_word 41 = .ok (.iadd, 1) := by decide +kernel
theorem dX12_word_42 : decode cX12_word 42 = .ok (.istore 6, 2) := by decide +kernel
theorem dX12_word_44 : decode cX12_word 44 = .ok (.iload 4, 2) := by decide +kernel
theorem dX12_word_46 : decode cX12_word 46 = .ok (.ifCond .ne 8, 3) := by decide +kernel
theorem dX12_word_49 : decode cX12_word 49 = .ok (.iload 6, 2) := by decide +kernel
theorem dX12_word_51 : decode cX12_word 51 = .ok (.goto 11, 3) := by decide +kernel
theorem dX12_word_54 : decode cX12_word 54 = .ok (.bipush 27, 2) := by decide +kernel
theorem dX12_word_56 : decode cX12_word 56 = .ok (.iload 6, 2) := by decide +kernel
theorem dX12_word_58 : decode cX12_word 58 = .ok (.imul, 1) := by decide +kernel
theorem dX12_word_59 : decode cX12_word 59 = .ok (.iload 4, 2) := by decide +kernel
theorem dX12_word_61 : decode cX12_word 61 = .ok (.iadd, 1) := by decide +kernel
theorem dX12_word_62 : decode cX12_word 62 = .ok (.istore 6, 2) := by decide +kernel
theorem dX12_word_64 : decode cX12_word 64 = .ok (.iload 5, 2) := by decide +kernel
theorem dX12_word_66 : decode cX12_word 66 = .ok (.ifCond .ne 8, 3) := by decide +kernel
theorem dX12_word_69 : decode cX12_word 69 = .ok (.iload 6, 2) := by decide +kernel
theorem dX12_word_71 : decode cX12_word 71 = .ok (.goto 11, 3) := by decide +kernel
theorem dX12_word_74 : decode cX12_word 74 = .ok (.bipush 27, 2) := by decide +kernel
theorem dX12_word_76 : decode cX12_word 76 = .ok (.iload 6, 2) := by decide +kernel
theorem dX12_word_78 : decode cX12_word 78 = .ok (.imul, 1) := by decide +kernel
theorem dX12_word_79 : decode cX12_word 79 = .ok (.iload 5, 2) := by decide +kernel
theorem dX12_word_81 : decode cX12_word 81 = .ok (.iadd, 1) := by decide +kernel
theorem dX12_word_82 : decode cX12_word 82 = .ok (.ireturn, 1) := by decide +kernel
theorem dX12_isWord_0 : decode cX12_isWord 0 = .ok (.aload_n 0, 1) := by decide +kernel
theorem dX12_isWord_1 : decode cX12_isWord 1 = .ok (.invokevirtual 148, 3) := by decide +kernel
theorem dX12_isWord_4 : decode cX12_isWord 4 = .ok (.iload_n 1, 1) := by decide +kernel
theorem dX12_isWord_5 : decode cX12_isWord 5 = .ok (.iload_n 2, 1) := by decide +kernel
theorem dX12_isWord_6 : decode cX12_isWord 6 = .ok (.iload_n 3, 1) := by decide +kernel
theorem dX12_isWord_7 : decode cX12_isWord 7 = .ok (.iload 4, 2) := by decide +kernel
theorem dX12_isWord_9 : decode cX12_isWord 9 = .ok (.iload 5, 2) := by decide +kernel
theorem dX12_isWord_11 : decode cX12_isWord 11 = .ok (.iload 6, 2) := by decide +kernel
theorem dX12_isWord_13 : decode cX12_isWord 13 = .ok (.invokestatic 152, 3) := by decide +kernel
theorem dX12_isWord_16 : decode cX12_isWord 16 = .ok (.if_icmp .ne 7, 3) := by decide +kernel
theorem dX12_isWord_19 : decode cX12_isWord 19 = .ok (.iconst 1, 1) := by decide +kernel
theorem dX12_isWord_20 : decode cX12_isWord 20 = .ok (.goto 4, 3) := by decide +kernel
theorem dX12_isWord_23 : decode cX12_isWord 23 = .ok (.iconst 0, 1) := by decide +kernel
theorem dX12_isWord_24 : decode cX12_isWord 24 = .ok (.ireturn, 1) := by decide +kernel
theorem dX12_skipWord_0 : decode cX12_skipWord 0 = .ok (.aload_n 0, 1) := by decide +kernel
theorem dX12_skipWord_1 : decode cX12_skipWord 1 = .ok (.aload_n 0, 1) := by decide +kernel
theorem dX12_skipWord_2 : decode cX12_skipWord 2 = .ok (.getfield 117, 3) := by decide +kernel
theorem dX12_skipWord_5 : decode cX12_skipWord 5 = .ok (.invokevirtual 120, 3) := by decide +kernel
theorem dX12_skipWord_8 : decode cX12_skipWord 8 = .ok (.bipush 97, 2) := by decide +kernel
theorem dX12_skipWord_10 : decode cX12_skipWord 10 = .ok (.if_icmp .lt 29, 3) := by decide +kernel
theorem dX12_skipWord_13 : decode cX12_skipWord 13 = .ok (.aload_n 0, 1) := by decide +kernel
theorem dX12_skipWord_14 : decode cX12_skipWord 14 = .ok (.aload_n 0, 1) := by decide +kernel
theorem dX12_skipWord_15 : decode cX12_skipWord 15 = .ok (.getfield 117, 3) := by decide +kernel
theorem dX12_skipWord_18 : decode cX12_skipWord 18 = .ok (.invokevirtual 120, 3) := by decide +kernel
theorem dX12_skipWord_21 : decode cX12_skipWord 21 = .ok (.bipush 122, 2) := by decide +kernel
theorem dX12_skipWord_23 : decode cX12_skipWord 23 = .ok (.if_icmp .gt 16, 3) := by decide +kernel
theorem dX12_skipWord_26 : decode cX12_skipWord 26 = .ok (.aload_n 0, 1) := by decide +kernel
theorem dX12_skipWord_27 : decode cX12_skipWord 27 = .ok (.dup, 1) := by decide +kernel
theorem dX12_skipWord_28 : decode cX12_skipWord 28 = .ok (.getfield 117, 3) := by decide +kernel
theorem dX12_skipWord_31 : decode cX12_skipWord 31 = .ok (.iconst 1, 1) := by decide +kernel
theorem dX12_skipWord_32 : decode cX12_skipWord 32 = .ok (.iadd, 1) := by decide +kernel
theorem dX12_skipWord_33 : decode cX12_skipWord 33 = .ok (.putfield 117, 3) := by decide +kernel
theorem dX12_skipWord_36 : decode cX12_skipWord 36 = .ok (.goto (-36), 3) := by decide +kernel
theorem dX12_skipWord_39 : decode cX12_skipWord 39 = .ok (.return_, 1) := by decide +kernel
theorem dX12_sign_0 : decode cX12_sign 0 = .ok (.aload_n 0, 1) := by decide +kernel
theorem dX12_sign_1 : decode cX12_sign 1 = .ok (.invokevirtual 145, 3) := by decide +kernel
theorem dX12_sign_4 : decode cX12_sign 4 = .ok (.aload_n 0, 1) := by decide +kernel
theorem dX12_sign_5 : decode cX12_sign 5 = .ok (.aload_n 0, 1) := by decide +kernel
theorem dX12_sign_6 : decode cX12_sign 6 = .ok (.getfield 117, 3) := by decide +kernel
theorem dX12_sign_9 : decode cX12_sign 9 = .ok (.invokevirtual 120, 3) := by decide +kernel
theorem dX12_sign_12 : decode cX12_sign 12 = .ok (.iload_n 1, 1) := by decide +kernel
theorem dX12_sign_13 : decode cX12_sign 13 = .ok (.if_icmp .ne 16, 3) := by decide +kernel
theorem dX12_sign_16 : decode cX12_sign 16 = .ok (.aload_n 0, 1) := by decide +kernel
theorem dX12_sign_17 : decode cX12_sign 17 = .ok (.dup, 1) := by decide +kernel
theorem dX12_sign_18 : decode cX12_sign 18 = .ok (.getfield 117, 3) := by decide +kernel
theorem dX12_sign_21 : decode cX12_sign 21 = .ok (.iconst 1, 1) := by decide +kernel
theorem dX12_sign_22 : decode cX12_sign 22 = .ok (.iadd, 1) := by decide +kernel
theorem dX12_sign_23 : decode cX12_sign 23 = .ok (.putfield 117, 3) := by decide +kernel
theorem dX12_sign_26 : decode cX12_sign 26 = .ok (.goto 12, 3) := by decide +kernel
theorem dX12_sign_29 : decode cX12_sign 29 = .ok (.aload_n 0, 1) := by decide +kernel
theorem dX12_sign_30 : decode cX12_sign 30 = .ok (.iconst 1, 1) := by decide +kernel
theorem dX12_sign_31 : decode cX12_sign 31 = .ok (.aload_n 0, 1) := by decide +kernel
theorem dX12_sign_32 : decode cX12_sign 32 = .ok (.getfield 117, 3) := by decide +kernel
theorem dX12_sign_35 : decode cX12_sign 35 = .ok (.invokevirtual 141, 3) := by decide +kernel
theorem dX12_sign_38 : decode cX12_sign 38 = .ok (.return_, 1) := by decide +kernel
theorem dX12_opens_0 : decode cX12_opens 0 = .ok (.aload_n 0, 1) := by decide +kernel
theorem dX12_opens_1 : decode cX12_opens 1 = .ok (.getfield 156, 3) := by decide +kernel
theorem dX12_opens_4 : decode cX12_opens 4 = .ok (.bipush 6, 2) := by decide +kernel
theorem dX12_opens_6 : decode cX12_opens 6 = .ok (.if_icmp .ne 12, 3) := by decide +kernel
theorem dX12_opens_9 : decode cX12_opens 9 = .ok (.aload_n 0, 1) := by decide +kernel
theorem dX12_opens_10 : decode cX12_opens 10 = .ok (.iconst 3, 1) := by decide +kernel
theorem dX12_opens_11 : decode cX12_opens 11 = .ok (.aload_n 0, 1) := by decide +kernel
theorem dX12_opens_12 : decode cX12_opens 12 = .ok (.getfield 117, 3) := by decide +kernel
theorem dX12_opens_15 : decode cX12_opens 15 = .ok (.invokevirtual 141, 3) := by decide +kernel
theorem dX12_opens_18 : decode cX12_opens 18 = .ok (.aload_n 0, 1) := by decide +kernel
theorem dX12_opens_19 : decode cX12_opens 19 = .ok (.dup, 1) := by decide +kernel
theorem dX12_opens_20 : decode cX12_opens 20 = .ok (.getfield 156, 3) := by decide +kernel
theorem dX12_opens_23 : decode cX12_opens 23 = .ok (.iconst 1, 1) := by decide +kernel
theorem dX12_opens_24 : decode cX12_opens 24 = .ok (.iadd, 1) := by decide +kernel
theorem dX12_opens_25 : decode cX12_opens 25 = .ok (.putfield 156, 3) := by decide +kernel
theorem dX12_opens_28 : decode cX12_opens 28 = .ok (.aload_n 0, 1) := by decide +kernel
theorem dX12_opens_29 : decode cX12_opens 29 = .ok (.dup, 1) := by decide +kernel
theorem dX12_opens_30 : decode cX12_opens 30 = .ok (.getfield 117, 3) := by decide +kernel
theorem dX12_opens_33 : decode cX12_opens 33 = .ok (.iload_n 1, 1) := by decide +kernel
theorem dX12_opens_34 : decode cX12_opens 34 = .ok (.iadd, 1) := by decide +kernel
theorem dX12_opens_35 : decode cX12_opens 35 = .ok (.putfield 117, 3) := by decide +kernel
theorem dX12_opens_38 : decode cX12_opens 38 = .ok (.return_, 1) := by decide +kernel
theorem dX12_nameHere_0 : decode cX12_nameHere 0 = .ok (.aload_n 0, 1) := by decide +kernel
theorem dX12_nameHere_1 : decode cX12_nameHere 1 = .ok (.bipush 12, 2) := by decide +kernel
theorem dX12_nameHere_3 : decode cX12_nameHere 3 = .ok (.iconst 5, 1) := by decide +kernel
theorem dX12_nameHere_4 : decode cX12_nameHere 4 = .ok (.bipush 14, 2) := by decide +kernel
theorem dX12_nameHere_6 : decode cX12_nameHere 6 = .ok (.bipush 7, 2) := by decide +kernel
theorem dX12_nameHere_8 : decode cX12_nameHere 8 = .ok (.bipush 20, 2) := by decide +kernel
theorem dX12_nameHere_10 : decode cX12_nameHere 10 = .ok (.bipush 8, 2) := by decide +kernel
theorem dX12_nameHere_12 : decode cX12_nameHere 12 = .ok (.invokevirtual 159, 3) := by decide +kernel
theorem dX12_nameHere_15 : decode cX12_nameHere 15 = .ok (.ifCond .eq 5, 3) := by decide +kernel
theorem dX12_nameHere_18 : decode cX12_nameHere 18 = .ok (.iconst 0, 1) := by decide +kernel
theorem dX12_nameHere_19 : decode cX12_nameHere 19 = .ok (.ireturn, 1) := by decide +kernel
theorem dX12_nameHere_20 : decode cX12_nameHere 20 = .ok (.aload_n 0, 1) := by decide +kernel
theorem dX12_nameHere_21 : decode cX12_nameHere 21 = .ok (.bipush 19, 2) := by decide +kernel
theorem dX12_nameHere_23 : decode cX12_nameHere 23 = .ok (.bipush 16, 2) := by decide +kernel
theorem dX12_nameHere_25 : decode cX12_nameHere 25 = .ok (.iconst 5, 1) := by decide +kernel
theorem dX12_nameHere_26 : decode cX12_nameHere 26 = .ok (.iconst 5, 1) := by decide +kernel
theorem dX12_nameHere_27 : decode cX12_nameHere 27 = .ok (.iconst 4, 1) := by decide +kernel
theorem dX12_nameHere_28 : decode cX12_nameHere 28 = .ok (.iconst 0, 1) := by decide +kernel
theorem dX12_nameHere_29 : decode cX12_nameHere 29 = .ok (.invokevirtual 159, 3) := by decide +kernel
theorem dX12_nameHere_32 : decode cX12_nameHere 32 = .ok (.ifCond .eq 5, 3) := by decide +kernel
theorem dX12_nameHere_35 : decode cX12_nameHere 35 = .ok (.iconst 1, 1) := by decide +kernel
theorem dX12_nameHere_36 : decode cX12_nameHere 36 = .ok (.ireturn, 1) := by decide +kernel
theorem dX12_nameHere_37 : decode cX12_nameHere 37 = .ok (.aload_n 0, 1) := by decide +kernel
theorem dX12_nameHere_38 : decode cX12_nameHere 38 = .ok (.bipush 23, 2) := by decide +kernel
theorem dX12_nameHere_40 : decode cX12_nameHere 40 = .ok (.iconst 5, 1) := by decide +kernel
theorem dX12_nameHere_41 : decode cX12_nameHere 41 = .ok (.bipush 20, 2) := by decide +kernel
theorem dX12_nameHere_43 : decode cX12_nameHere 43 = .ok (.iconst 0, 1) := by decide +kernel
theorem dX12_nameHere_44 : decode cX12_nameHere 44 = .ok (.iconst 0, 1) := by decide +kernel
theorem dX12_nameHere_45 : decode cX12_nameHere 45 = .ok (.iconst 0, 1) := by decide +kernel
theorem dX12_nameHere_46 : decode cX12_nameHere 46 = .ok (.invokevirtual 159, 3) := by decide +kernel
theorem dX12_nameHere_49 : decode cX12_nameHere 49 = .ok (.ifCond .eq 5, 3) := by decide +kernel
theorem dX12_nameHere_52 : decode cX12_nameHere 52 = .ok (.iconst 2, 1) := by decide +kernel
theorem dX12_nameHere_53 : decode cX12_nameHere 53 = .ok (.ireturn, 1) := by decide +kernel
theorem dX12_nameHere_54 : decode cX12_nameHere 54 = .ok (.aload_n 0, 1) := by decide +kernel
theorem dX12_nameHere_55 : decode cX12_nameHere 55 = .ok (.bipush 22, 2) := by decide +kernel
theorem dX12_nameHere_57 : decode cX12_nameHere 57 = .ok (.bipush 15, 2) := by decide +kernel
theorem dX12_nameHere_59 : decode cX12_nameHere 59 = .ok (.bipush 12, 2) := by decide +kernel
theorem dX12_nameHere_61 : decode cX12_nameHere 61 = .ok (.bipush 21, 2) := by decide +kernel
theorem dX12_nameHere_63 : decode cX12_nameHere 63 = .ok (.bipush 13, 2) := by decide +kernel
theorem dX12_nameHere_65 : decode cX12_nameHere 65 = .ok (.iconst 5, 1) := by decide +kernel
theorem dX12_nameHere_66 : decode cX12_nameHere 66 = .ok (.invokevirtual 159, 3) := by decide +kernel
theorem dX12_nameHere_69 : decode cX12_nameHere 69 = .ok (.ifCond .eq 5, 3) := by decide +kernel
theorem dX12_nameHere_72 : decode cX12_nameHere 72 = .ok (.iconst 3, 1) := by decide +kernel
theorem dX12_nameHere_73 : decode cX12_nameHere 73 = .ok (.ireturn, 1) := by decide +kernel
theorem dX12_nameHere_74 : decode cX12_nameHere 74 = .ok (.aload_n 0, 1) := by decide +kernel
theorem dX12_nameHere_75 : decode cX12_nameHere 75 = .ok (.iconst 2, 1) := by decide +kernel
theorem dX12_nameHere_76 : decode cX12_nameHere 76 = .ok (.iconst 5, 1) := by decide +kernel
theorem dX12_nameHere_77 : decode cX12_nameHere 77 = .ok (.iconst 1, 1) := by decide +kernel
theorem dX12_nameHere_78 : decode cX12_nameHere 78 = .ok (.bipush 13, 2) := by decide +kernel
theorem dX12_nameHere_80 : decode cX12_nameHere 80 = .ok (.iconst 0, 1) := by decide +kernel
theorem dX12_nameHere_81 : decode cX12_nameHere 81 = .ok (.iconst 0, 1) := by decide +kernel
theorem dX12_nameHere_82 : decode cX12_nameHere 82 = .ok (.invokevirtual 159, 3) := by decide +kernel
theorem dX12_nameHere_85 : decode cX12_nameHere 85 = .ok (.ifCond .eq 5, 3) := by decide +kernel
theorem dX12_nameHere_88 : decode cX12_nameHere 88 = .ok (.iconst 4, 1) := by decide +kernel
theorem dX12_nameHere_89 : decode cX12_nameHere 89 = .ok (.ireturn, 1) := by decide +kernel
theorem dX12_nameHere_90 : decode cX12_nameHere 90 = .ok (.aload_n 0, 1) := by decide +kernel
theorem dX12_nameHere_91 : decode cX12_nameHere 91 = .ok (.iconst 4, 1) := by decide +kernel
theorem dX12_nameHere_92 : decode cX12_nameHere 92 = .ok (.bipush 18, 2) := by decide +kernel
theorem dX12_nameHere_94 : decode cX12_nameHere 94 = .ok (.iconst 1, 1) := by decide +kernel
theorem dX12_nameHere_95 : decode cX12_nameHere 95 = .ok (.bipush 6, 2) := by decide +kernel
theorem dX12_nameHere_97 : decode cX12_nameHere 97 = .ok (.bipush 20, 2) := by decide +kernel
theorem dX12_nameHere_99 : decode cX12_nameHere 99 = .ok (.iconst 0, 1) := by decide +kernel
theorem dX12_nameHere_100 : decode cX12_nameHere 100 = .ok (.invokevirtual 159, 3) := by decide +kernel
theorem dX12_nameHere_103 : decode cX12_nameHere 103 = .ok (.ifCond .eq 5, 3) := by decide +kernel
theorem dX12_nameHere_106 : decode cX12_nameHere 106 = .ok (.iconst 5, 1) := by decide +kernel
theorem dX12_nameHere_107 : decode cX12_nameHere 107 = .ok (.ireturn, 1) := by decide +kernel
theorem dX12_nameHere_108 : decode cX12_nameHere 108 = .ok (.aload_n 0, 1) := by decide +kernel
theorem dX12_nameHere_109 : decode cX12_nameHere 109 = .ok (.bipush 6, 2) := by decide +kernel
theorem dX12_nameHere_111 : decode cX12_nameHere 111 = .ok (.bipush 14, 2) := by decide +kernel
theorem dX12_nameHere_113 : decode cX12_nameHere 113 = .ok (.iconst 0, 1) := by decide +kernel
theorem dX12_nameHere_114 : decode cX12_nameHere 114 = .ok (.iconst 0, 1) := by decide +kernel
theorem dX12_nameHere_115 : decode cX12_nameHere 115 = .ok (.iconst 0, 1) := by decide +kernel
theorem dX12_nameHere_116 : decode cX12_nameHere 116 = .ok (.iconst 0, 1) := by decide +kernel
theorem dX12_nameHere_117 : decode cX12_nameHere 117 = .ok (.invokevirtual 159, 3) := by decide +kernel
theorem dX12_nameHere_120 : decode cX12_nameHere 120 = .ok (.ifCond .eq 6, 3) := by decide +kernel
theorem dX12_nameHere_123 : decode cX12_nameHere 123 = .ok (.bipush 6, 2) := by decide +kernel
theorem dX12_nameHere_125 : decode cX12_nameHere 125 = .ok (.ireturn, 1) := by decide +kernel
theorem dX12_nameHere_126 : decode cX12_nameHere 126 = .ok (.aload_n 0, 1) := by decide +kernel
theorem dX12_nameHere_127 : decode cX12_nameHere 127 = .ok (.bipush 23, 2) := by decide +kernel
theorem dX12_nameHere_129 : decode cX12_nameHere 129 = .ok (.bipush 9, 2) := by decide +kernel
theorem dX12_nameHere_131 : decode cX12_nameHere 131 = .ok (.bipush 18, 2) := by decide +kernel
theorem dX12_nameHere_133 : decode cX12_nameHere 133 = .ok (.iconst 5, 1) := by decide +kernel
theorem dX12_nameHere_134 : decode cX12_nameHere 134 = .ok (.iconst 0, 1) := by decide +kernel
theorem dX12_nameHere_135 : decode cX12_nameHere 135 = .ok (.iconst 0, 1) := by decide +kernel
theorem dX12_nameHere_136 : decode cX12_nameHere 136 = .ok (.invokevirtual 159, 3) := by decide +kernel
theorem dX12_nameHere_139 : decode cX12_nameHere 139 = .ok (.ifCond .eq 6, 3) := by decide +kernel
theorem dX12_nameHere_142 : decode cX12_nameHere 142 = .ok (.bipush 7, 2) := by decide +kernel
theorem dX12_nameHere_144 : decode cX12_nameHere 144 = .ok (.ireturn, 1) := by decide +kernel
theorem dX12_nameHere_145 : decode cX12_nameHere 145 = .ok (.aload_n 0, 1) := by decide +kernel
theorem dX12_nameHere_146 : decode cX12_nameHere 146 = .ok (.bipush 19, 2) := by decide +kernel
theorem dX12_nameHere_148 : decode cX12_nameHere 148 = .ok (.bipush 9, 2) := by decide +kernel
theorem dX12_nameHere_150 : decode cX12_nameHere 150 = .ok (.iconst 4, 1) := by decide +kernel
theorem dX12_nameHere_151 : decode cX12_nameHere 151 = .ok (.iconst 5, 1) := by decide +kernel
theorem dX12_nameHere_152 : decode cX12_nameHere 152 = .ok (.iconst 0, 1) := by decide +kernel
theorem dX12_nameHere_153 : decode cX12_nameHere 153 = .ok (.iconst 0, 1) := by decide +kernel
theorem dX12_nameHere_154 : decode cX12_nameHere 154 = .ok (.invokevirtual 159, 3) := by decide +kernel
theorem dX12_nameHere_157 : decode cX12_nameHere 157 = .ok (.ifCond .eq 6, 3) := by decide +kernel
theorem dX12_nameHere_160 : decode cX12_nameHere 160 = .ok (.bipush 8, 2) := by decide +kernel
theorem dX12_nameHere_162 : decode cX12_nameHere 162 = .ok (.ireturn, 1) := by decide +kernel
theorem dX12_nameHere_163 : decode cX12_nameHere 163 = .ok (.aload_n 0, 1) := by decide +kernel
theorem dX12_nameHere_164 : decode cX12_nameHere 164 = .ok (.bipush 13, 2) := by decide +kernel
theorem dX12_nameHere_166 : decode cX12_nameHere 166 = .ok (.bipush 15, 2) := by decide +kernel
theorem dX12_nameHere_168 : decode cX12_nameHere 168 = .ok (.bipush 14, 2) := by decide +kernel
theorem dX12_nameHere_170 : decode cX12_nameHere 170 = .ok (.bipush 20, 2) := by decide +kernel
theorem dX12_nameHere_172 : decode cX12_nameHere 172 = .ok (.bipush 8, 2) := by decide +kernel
theorem dX12_nameHere_174 : decode cX12_nameHere 174 = .ok (.bipush 19, 2) := by decide +kernel
theorem dX12_nameHere_176 : decode cX12_nameHere 176 = .ok (.invokevirtual 159, 3) := by decide +kernel
theorem dX12_nameHere_179 : decode cX12_nameHere 179 = .ok (.ifCond .eq 8, 3) := by decide +kernel
theorem dX12_nameHere_182 : decode cX12_nameHere 182 = .ok (.bipush 9, 2) := by decide +kernel
theorem dX12_nameHere_184 : decode cX12_nameHere 184 = .ok (.goto 4, 3) := by decide +kernel
theorem dX12_nameHere_187 : decode cX12_nameHere 187 = .ok (.iconst (-1), 1) := by decide +kernel
theorem dX12_nameHere_188 : decode cX12_nameHere 188 = .ok (.ireturn, 1) := by decide +kernel
theorem dX12_root_0 : decode cX12_root 0 = .ok (.lload_n 0, 1) := by decide +kernel
theorem dX12_root_1 : decode cX12_root 1 = .ok (.lconst 1, 1) := by decide +kernel
theorem dX12_root_2 : decode cX12_root 2 = .ok (.lcmp, 1) := by decide +kernel
theorem dX12_root_3 : decode cX12_root 3 = .ok (.ifCond .ge 5, 3) := by decide +kernel
theorem dX12_root_6 : decode cX12_root 6 = .ok (.lconst 0, 1) := by decide +kernel
theorem dX12_root_7 : decode cX12_root 7 = .ok (.lreturn, 1) := by decide +kernel
theorem dX12_root_8 : decode cX12_root 8 = .ok (.lconst 1, 1) := by decide +kernel
theorem dX12_root_9 : decode cX12_root 9 = .ok (.lstore_n 2, 1) := by decide +kernel
theorem dX12_root_10 : decode cX12_root 10 = .ok (.ldc2_w 163, 3) := by decide +kernel
theorem dX12_root_13 : decode cX12_root 13 = .ok (.lstore 4, 2) := by decide +kernel
theorem dX12_root_15 : decode cX12_root 15 = .ok (.lload_n 2, 1) := by decide +kernel
theorem dX12_root_16 : decode cX12_root 16 = .ok (.lload 4, 2) := by decide +kernel
theorem dX12_root_18 : decode cX12_root 18 = .ok (.lcmp, 1) := by decide +kernel
theorem dX12_root_19 : decode cX12_root 19 = .ok (.ifCond .ge 40, 3) := by decide +kernel
theorem dX12_root_22 : decode cX12_root 22 = .ok (.lload_n 2, 1) := by decide +kernel
theorem dX12_root_23 : decode cX12_root 23 = .ok (.lload 4, 2) := by decide +kernel
theorem dX12_root_25 : decode cX12_root 25 = .ok (.ladd, 1) := by decide +kernel
theorem dX12_root_26 : decode cX12_root 26 = .ok (.lconst 1, 1) := by decide +kernel
theorem dX12_root_27 : decode cX12_root 27 = .ok (.ladd, 1) := by decide +kernel
theorem dX12_root_28 : decode cX12_root 28 = .ok (.ldc2_w 165, 3) := by decide +kernel
theorem dX12_root_31 : decode cX12_root 31 = .ok (.ldiv, 1) := by decide +kernel
theorem dX12_root_32 : decode cX12_root 32 = .ok (.lstore 6, 2) := by decide +kernel
theorem dX12_root_34 : decode cX12_root 34 = .ok (.lload 6, 2) := by decide +kernel
theorem dX12_root_36 : decode cX12_root 36 = .ok (.lload 6, 2) := by decide +kernel
theorem dX12_root_38 : decode cX12_root 38 = .ok (.lmul, 1) := by decide +kernel
theorem dX12_root_39 : decode cX12_root 39 = .ok (.lload_n 0, 1) := by decide +kernel
theorem dX12_root_40 : decode cX12_root 40 = .ok (.lcmp, 1) := by decide +kernel
theorem dX12_root_41 : decode cX12_root 41 = .ok (.ifCond .gt 9, 3) := by decide +kernel
theorem dX12_root_44 : decode cX12_root 44 = .ok (.lload 6, 2) := by decide +kernel
theorem dX12_root_46 : decode cX12_root 46 = .ok (.lstore_n 2, 1) := by decide +kernel
theorem dX12_root_47 : decode cX12_root 47 = .ok (.goto 9, 3) := by decide +kernel
theorem dX12_root_50 : decode cX12_root 50 = .ok (.lload 6, 2) := by decide +kernel
theorem dX12_root_52 : decode cX12_root 52 = .ok (.lconst 1, 1) := by decide +kernel
theorem dX12_root_53 : decode cX12_root 53 = .ok (.lsub, 1) := by decide +kernel
theorem dX12_root_54 : decode cX12_root 54 = .ok (.lstore 4, 2) := by decide +kernel
theorem dX12_root_56 : decode cX12_root 56 = .ok (.goto (-41), 3) := by decide +kernel
theorem dX12_root_59 : decode cX12_root 59 = .ok (.lload_n 2, 1) := by decide +kernel
theorem dX12_root_60 : decode cX12_root 60 = .ok (.lreturn, 1) := by decide +kernel
theorem dX12_unit_0 : decode cX12_unit 0 = .ok (.aload_n 0, 1) := by decide +kernel
theorem dX12_unit_1 : decode cX12_unit 1 = .ok (.getfield 124, 3) := by decide +kernel
theorem dX12_unit_4 : decode cX12_unit 4 = .ok (.ifCond .eq 5, 3) := by decide +kernel
theorem dX12_unit_7 : decode cX12_unit 7 = .ok (.lconst 0, 1) := by decide +kernel
theorem dX12_unit_8 : decode cX12_unit 8 = .ok (.lreturn, 1) := by decide +kernel
theorem dX12_unit_9 : decode cX12_unit 9 = .ok (.aload_n 0, 1) := by decide +kernel
theorem dX12_unit_10 : decode cX12_unit 10 = .ok (.invokevirtual 145, 3) := by decide +kernel
theorem dX12_unit_13 : decode cX12_unit 13 = .ok (.aload_n 0, 1) := by decide +kernel
theorem dX12_unit_14 : decode cX12_unit 14 = .ok (.aload_n 0, 1) := by decide +kernel
theorem dX12_unit_15 : decode cX12_unit 15 = .ok (.getfield 117, 3) := by decide +kernel
theorem dX12_unit_18 : decode cX12_unit 18 = .ok (.invokevirtual 120, 3) := by decide +kernel
theorem dX12_unit_21 : decode cX12_unit 21 = .ok (.invokestatic 130, 3) := by decide +kernel
theorem dX12_unit_24 : decode cX12_unit 24 = .ok (.ifCond .eq 8, 3) := by decide +kernel
theorem dX12_unit_27 : decode cX12_unit 27 = .ok (.aload_n 0, 1) := by decide +kernel
theorem dX12_unit_28 : decode cX12_unit 28 = .ok (.invokevirtual 167, 3) := by decide +kernel
theorem dX12_unit_31 : decode cX12_unit 31 = .ok (.lreturn, 1) := by decide +kernel
theorem dX12_unit_32 : decode cX12_unit 32 = .ok (.aload_n 0, 1) := by decide +kernel
theorem dX12_unit_33 : decode cX12_unit 33 = .ok (.invokevirtual 171, 3) := by decide +kernel
theorem dX12_unit_36 : decode cX12_unit 36 = .ok (.istore_n 1, 1) := by decide +kernel
theorem dX12_unit_37 : decode cX12_unit 37 = .ok (.iload_n 1, 1) := by decide +kernel
theorem dX12_unit_38 : decode cX12_unit 38 = .ok (.iconst (-1), 1) := by decide +kernel
theorem dX12_unit_39 : decode cX12_unit 39 = .ok (.if_icmp .eq 14, 3) := by decide +kernel
theorem dX12_unit_42 : decode cX12_unit 42 = .ok (.aload_n 0, 1) := by decide +kernel
theorem dX12_unit_43 : decode cX12_unit 43 = .ok (.invokevirtual 174, 3) := by decide +kernel
theorem dX12_unit_46 : decode cX12_unit 46 = .ok (.aload_n 0, 1) := by decide +kernel
theorem dX12_unit_47 : decode cX12_unit 47 = .ok (.getfield 27, 3) := by decide +kernel
theorem dX12_unit_50 : decode cX12_unit 50 = .ok (.iload_n 1, 1) := by decide +kernel
theorem dX12_unit_51 : decode cX12_unit 51 = .ok (.laload, 1) := by decide +kernel
theorem dX12_unit_52 : decode cX12_unit 52 = .ok (.lreturn, 1) := by decide +kernel
theorem dX12_unit_53 : decode cX12_unit 53 = .ok (.aload_n 0, 1) := by decide +kernel
theorem dX12_unit_54 : decode cX12_unit 54 = .ok (.bipush 12, 2) := by decide +kernel
theorem dX12_unit_56 : decode cX12_unit 56 = .ok (.iconst 5, 1) := by decide +kernel
theorem dX12_unit_57 : decode cX12_unit 57 = .ok (.iconst 1, 1) := by decide +kernel
theorem dX12_unit_58 : decode cX12_unit 58 = .ok (.bipush 19, 2) := by decide +kernel
theorem dX12_unit_60 : decode cX12_unit 60 = .ok (.bipush 20, 2) := by decide +kernel
theorem dX12_unit_62 : decode cX12_unit 62 = .ok (.iconst 0, 1) := by decide +kernel
theorem dX12_unit_63 : decode cX12_unit 63 = .ok (.invokevirtual 159, 3) := by decide +kernel
theorem dX12_unit_66 : decode cX12_unit 66 = .ok (.istore_n 2, 1) := by decide +kernel
theorem dX12_unit_67 : decode cX12_unit 67 = .ok (.aload_n 0, 1) := by decide +kernel
theorem dX12_unit_68 : decode cX12_unit 68 = .ok (.bipush 13, 2) := by decide +kernel
theorem dX12_unit_70 : decode cX12_unit 70 = .ok (.bipush 15, 2) := by decide +kernel
theorem dX12_unit_72 : decode cX12_unit 72 = .ok (.bipush 19, 2) := by decide +kernel
theorem dX12_unit_74 : decode cX12_unit 74 = .ok (.bipush 20, 2) := by decide +kernel
theorem dX12_unit_76 : decode cX12_unit 76 = .ok (.iconst 0, 1) := by decide +kernel
theorem dX12_unit_77 : decode cX12_unit 77 = .ok (.iconst 0, 1) := by decide +kernel
theorem dX12_unit_78 : decode cX12_unit 78 = .ok (.invokevirtual 159, 3) := by decide +kernel
theorem dX12_unit_81 : decode cX12_unit 81 = .ok (.istore_n 3, 1) := by decide +kernel
theorem dX12_unit_82 : decode cX12_unit 82 = .ok (.aload_n 0, 1) := by decide +kernel
theorem dX12_unit_83 : decode cX12_unit 83 = .ok (.bipush 18, 2) := by decide +kernel
theorem dX12_unit_85 : decode cX12_unit 85 = .ok (.bipush 15, 2) := by decide +kernel
theorem dX12_unit_87 : decode cX12_unit 87 = .ok (.bipush 15, 2) := by decide +kernel
theorem dX12_unit_89 : decode cX12_unit 89 = .ok (.bipush 20, 2) := by decide +kernel
theorem dX12_unit_91 : decode cX12_unit 91 = .ok (.iconst 0, 1) := by decide +kernel
theorem dX12_unit_92 : decode cX12_unit 92 = .ok (.iconst 0, 1) := by decide +kernel
theorem dX12_unit_93 : decode cX12_unit 93 = .ok (.invokevirtual 159, 3) := by decide +kernel
theorem dX12_unit_96 : decode cX12_unit 96 = .ok (.istore 4, 2) := by decide +kernel
theorem dX12_unit_98 : decode cX12_unit 98 = .ok (.iload_n 2, 1) := by decide +kernel
theorem dX12_unit_99 : decode cX12_unit 99 = .ok (.ifCond .ne 12, 3) := by decide +kernel
theorem dX12_unit_102 : decode cX12_unit 102 = .ok (.iload_n 3, 1) := by decide +kernel
theorem dX12_unit_103 : decode cX12_unit 103 = .ok (.ifCond .ne 8, 3) := by decide +kernel
theorem dX12_unit_106 : decode cX12_unit 106 = .ok (.iload 4, 2) := by decide +kernel
theorem dX12_unit_108 : decode cX12_unit 108 = .ok (.ifCond .eq 7, 3) := by decide +kernel
theorem dX12_unit_111 : decode cX12_unit 111 = .ok (.aload_n 0, 1) := by decide +kernel
theorem dX12_unit_112 : decode cX12_unit 112 = .ok (.invokevirtual 174, 3) := by decide +kernel
theorem dX12_unit_115 : decode cX12_unit 115 = .ok (.aload_n 0, 1) := by decide +kernel
theorem dX12_unit_116 : decode cX12_unit 116 = .ok (.invokevirtual 145, 3) := by decide +kernel
theorem dX12_unit_119 : decode cX12_unit 119 = .ok (.aload_n 0, 1) := by decide +kernel
theorem dX12_unit_120 : decode cX12_unit 120 = .ok (.aload_n 0, 1) := by decide +kernel
theorem dX12_unit_121 : decode cX12_unit 121 = .ok (.getfield 117, 3) := by decide +kernel
theorem dX12_unit_124 : decode cX12_unit 124 = .ok (.invokevirtual 120, 3) := by decide +kernel
theorem dX12_unit_127 : decode cX12_unit 127 = .ok (.bipush 40, 2) := by decide +kernel
theorem dX12_unit_129 : decode cX12_unit 129 = .ok (.if_icmp .eq 14, 3) := by decide +kernel
theorem dX12_unit_132 : decode cX12_unit 132 = .ok (.aload_n 0, 1) := by decide +kernel
theorem dX12_unit_133 : decode cX12_unit 133 = .ok (.iconst 1, 1) := by decide +kernel
theorem dX12_unit_134 : decode cX12_unit 134 = .ok (.aload_n 0, 1) := by decide +kernel
theorem dX12_unit_135 : decode cX12_unit 135 = .ok (.getfield 117, 3) := by decide +kernel
theorem dX12_unit_138 : decode cX12_unit 138 = .ok (.invokevirtual 141, 3) := by decide +kernel
theorem dX12_unit_141 : decode cX12_unit 141 = .ok (.lconst 0, 1) := by decide +kernel
theorem dX12_unit_142 : decode cX12_unit 142 = .ok (.lreturn, 1) := by decide +kernel
theorem dX12_unit_143 : decode cX12_unit 143 = .ok (.aload_n 0, 1) := by decide +kernel
theorem dX12_unit_144 : decode cX12_unit 144 = .ok (.iconst 1, 1) := by decide +kernel
theorem dX12_unit_145 : decode cX12_unit 145 = .ok (.invokevirtual 177, 3) := by decide +kernel
theorem dX12_unit_148 : decode cX12_unit 148 = .ok (.aload_n 0, 1) := by decide +kernel
theorem dX12_unit_149 : decode cX12_unit 149 = .ok (.invokevirtual 181, 3) := by decide +kernel
theorem dX12_unit_152 : decode cX12_unit 152 = .ok (.lstore 5, 2) := by decide +kernel
theorem dX12_unit_154 : decode cX12_unit 154 = .ok (.iload_n 2, 1) := by decide +kernel
theorem dX12_unit_155 : decode cX12_unit 155 = .ok (.ifCond .ne 7, 3) := by decide +kernel
theorem dX12_unit_158 : decode cX12_unit 158 = .ok (.iload_n 3, 1) := by decide +kernel
theorem dX12_unit_159 : decode cX12_unit 159 = .ok (.ifCond .eq 41, 3) := by decide +kernel
theorem dX12_unit_162 : decode cX12_unit 162 = .ok (.aload_n 0, 1) := by decide +kernel
theorem dX12_unit_163 : decode cX12_unit 163 = .ok (.bipush 44, 2) := by decide +kernel
theorem dX12_unit_165 : decode cX12_unit 165 = .ok (.invokevirtual 184, 3) := by decide +kernel
theorem dX12_unit_168 : decode cX12_unit 168 = .ok (.aload_n 0, 1) := by decide +kernel
theorem dX12_unit_169 : decode cX12_unit 169 = .ok (.invokevirtual 181, 3) := by decide +kernel
theorem dX12_unit_172 : decode cX12_unit 172 = .ok (.lstore 7, 2) := by decide +kernel
theorem dX12_unit_174 : decode cX12_unit 174 = .ok (.iload_n 2, 1) := by decide +kernel
theorem dX12_unit_175 : decode cX12_unit 175 = .ok (.lload 7, 2) := by decide +kernel
theorem dX12_unit_177 : decode cX12_unit 177 = .ok (.lload 5, 2) := by decide +kernel
theorem dX12_unit_179 : decode cX12_unit 179 = .ok (.lcmp, 1) := by decide +kernel
theorem dX12_unit_180 : decode cX12_unit 180 = .ok (.ifCond .ge 7, 3) := by decide +kernel
theorem dX12_unit_183 : decode cX12_unit 183 = .ok (.iconst 1, 1) := by decide +kernel
theorem dX12_unit_184 : decode cX12_unit 184 = .ok (.goto 4, 3) := by decide +kernel
theorem dX12_unit_187 : decode cX12_unit 187 = .ok (.iconst 0, 1) := by decide +kernel
theorem dX12_unit_188 : decode cX12_unit 188 = .ok (.if_icmp .ne 8, 3) := by decide +kernel
theorem dX12_unit_191 : decode cX12_unit 191 = .ok (.lload 7, 2) := by decide +kernel
theorem dX12_unit_193 : decode cX12_unit 193 = .ok (.goto 5, 3) := by decide +kernel
theorem dX12_unit_196 : decode cX12_unit 196 = .ok (.lload 5, 2) := by decide +kernel
theorem dX12_unit_198 : decode cX12_unit 198 = .ok (.lstore 5, 2) := by decide +kernel
theorem dX12_unit_200 : decode cX12_unit 200 = .ok (.aload_n 0, 1) := by decide +kernel
theorem dX12_unit_201 : decode cX12_unit 201 = .ok (.bipush 41, 2) := by decide +kernel
theorem dX12_unit_203 : decode cX12_unit 203 = .ok (.invokevirtual 184, 3) := by decide +kernel
theorem dX12_unit_206 : decode cX12_unit 206 = .ok (.aload_n 0, 1) := by decide +kernel
theorem dX12_unit_207 : decode cX12_unit 207 = .ok (.dup, 1) := by decide +kernel
theorem dX12_unit_208 : decode cX12_unit 208 = .ok (.getfield 156, 3) := by decide +kernel
theorem dX12_unit_211 : decode cX12_unit 211 = .ok (.iconst 1, 1) := by decide +kernel
theorem dX12_unit_212 : decode cX12_unit 212 = .ok (.isub, 1) := by decide +kernel
theorem dX12_unit_213 : decode cX12_unit 213 = .ok (.putfield 156, 3) := by decide +kernel
theorem dX12_unit_216 : decode cX12_unit 216 = .ok (.iload 4, 2) := by decide +kernel
theorem dX12_unit_218 : decode cX12_unit 218 = .ok (.ifCond .eq 11, 3) := by decide +kernel
theorem dX12_unit_221 : decode cX12_unit 221 = .ok (.lload 5, 2) := by decide +kernel
theorem dX12_unit_223 : decode cX12_unit 223 = .ok (.invokestatic 187, 3) := by decide +kernel
theorem dX12_unit_226 : decode cX12_unit 226 = .ok (.goto 5, 3) := by decide +kernel
theorem dX12_unit_229 : decode cX12_unit 229 = .ok (.lload 5, 2) := by decide +kernel
theorem dX12_unit_231 : decode cX12_unit 231 = .ok (.lreturn, 1) := by decide +kernel
theorem dX12_product_0 : decode cX12_product 0 = .ok (.aload_n 0, 1) := by decide +kernel
theorem dX12_product_1 : decode cX12_product 1 = .ok (.invokevirtual 191, 3) := by decide +kernel
theorem dX12_product_4 : decode cX12_product 4 = .ok (.lstore_n 1, 1) := by decide +kernel
theorem dX12_product_5 : decode cX12_product 5 = .ok (.aload_n 0, 1) := by decide +kernel
theorem dX12_product_6 : decode cX12_product 6 = .ok (.invokevirtual 145, 3) := by decide +kernel
theorem dX12_product_9 : decode cX12_product 9 = .ok (.aload_n 0, 1) := by decide +kernel
theorem dX12_product_10 : decode cX12_product 10 = .ok (.getfield 124, 3) := by decide +kernel
theorem dX12_product_13 : decode cX12_product 13 = .ok (.ifCond .ne 90, 3) := by decide +kernel
theorem dX12_product_16 : decode cX12_product 16 = .ok (.aload_n 0, 1) := by decide +kernel
theorem dX12_product_17 : decode cX12_product 17 = .ok (.aload_n 0, 1) := by decide +kernel
theorem dX12_product_18 : decode cX12_product 18 = .ok (.getfield 117, 3) := by decide +kernel
theorem dX12_product_21 : decode cX12_product 21 = .ok (.invokevirtual 120, 3) := by decide +kernel
theorem dX12_product_24 : decode cX12_product 24 = .ok (.bipush 42, 2) := by decide +kernel
theorem dX12_product_26 : decode cX12_product 26 = .ok (.if_icmp .eq 16, 3) := by decide +kernel
theorem dX12_product_29 : decode cX12_product 29 = .ok (.aload_n 0, 1) := by decide +kernel
theorem dX12_product_30 : decode cX12_product 30 = .ok (.aload_n 0, 1) := by decide +kernel
theorem dX12_product_31 : decode cX12_product 31 = .ok (.getfield 117, 3) := by decide +kernel
theorem dX12_product_34 : decode cX12_product 34 = .ok (.invokevirtual 120, 3) := by decide +kernel
theorem dX12_product_37 : decode cX12_product 37 = .ok (.bipush 47, 2) := by decide +kernel
theorem dX12_product_39 : decode cX12_product 39 = .ok (.if_icmp .ne 64, 3) := by decide +kernel
theorem dX12_product_42 : decode cX12_product 42 = .ok (.aload_n 0, 1) := by decide +kernel
theorem dX12_product_43 : decode cX12_product 43 = .ok (.aload_n 0, 1) := by decide +kernel
theorem dX12_product_44 : decode cX12_product 44 = .ok (.getfield 117, 3) := by decide +kernel
theorem dX12_product_47 : decode cX12_product 47 = .ok (.invokevirtual 120, 3) := by decide +kernel
theorem dX12_product_50 : decode cX12_product 50 = .ok (.istore_n 3, 1) := by decide +kernel
theorem dX12_product_51 : decode cX12_product 51 = .ok (.aload_n 0, 1) := by decide +kernel
theorem dX12_product_52 : decode cX12_product 52 = .ok (.dup, 1) := by decide +kernel
theorem dX12_product_53 : decode cX12_product 53 = .ok (.getfield 117, 3) := by decide +kernel
theorem dX12_product_56 : decode cX12_product 56 = .ok (.iconst 1, 1) := by decide +kernel
theorem dX12_product_57 : decode cX12_product 57 = .ok (.iadd, 1) := by decide +kernel
theorem dX12_product_58 : decode cX12_product 58 = .ok (.putfield 117, 3) := by decide +kernel
theorem dX12_product_61 : decode cX12_product 61 = .ok (.aload_n 0, 1) := by decide +kernel
theorem dX12_product_62 : decode cX12_product 62 = .ok (.invokevirtual 191, 3) := by decide +kernel
theorem dX12_product_65 : decode cX12_product 65 = .ok (.lstore 4, 2) := by decide +kernel
theorem dX12_product_67 : decode cX12_product 67 = .ok (.iload_n 3, 1) := by decide +kernel
theorem dX12_product_68 : decode cX12_product 68 = .ok (.bipush 42, 2) := by decide +kernel
theorem dX12_product_70 : decode cX12_product 70 = .ok (.if_icmp .ne 10, 3) := by decide +kernel
theorem dX12_product_73 : decode cX12_product 73 = .ok (.lload_n 1, 1) := by decide +kernel
theorem dX12_product_74 : decode cX12_product 74 = .ok (.lload 4, 2) := by decide +kernel
theorem dX12_product_76 : decode cX12_product 76 = .ok (.lmul, 1) := by decide +kernel
theorem dX12_product_77 : decode cX12_product 77 = .ok (.goto 18, 3) := by decide +kernel
theorem dX12_product_80 : decode cX12_product 80 = .ok (.lload 4, 2) := by decide +kernel
theorem dX12_product_82 : decode cX12_product 82 = .ok (.lconst 0, 1) := by decide +kernel
theorem dX12_product_83 : decode cX12_product 83 = .ok (.lcmp, 1) := by decide +kernel
theorem dX12_product_84 : decode cX12_product 84 = .ok (.ifCond .ne 7, 3) := by decide +kernel
theorem dX12_product_87 : decode cX12_product 87 = .ok (.lconst 0, 1) := by decide +kernel
theorem dX12_product_88 : decode cX12_product 88 = .ok (.goto 7, 3) := by decide +kernel
theorem dX12_product_91 : decode cX12_product 91 = .ok (.lload_n 1, 1) := by decide +kernel
theorem dX12_product_92 : decode cX12_product 92 = .ok (.lload 4, 2) := by decide +kernel
theorem dX12_product_94 : decode cX12_product 94 = .ok (.ldiv, 1) := by decide +kernel
theorem dX12_product_95 : decode cX12_product 95 = .ok (.lstore_n 1, 1) := by decide +kernel
theorem dX12_product_96 : decode cX12_product 96 = .ok (.aload_n 0, 1) := by decide +kernel
theorem dX12_product_97 : decode cX12_product 97 = .ok (.invokevirtual 145, 3) := by decide +kernel
theorem dX12_product_100 : decode cX12_product 100 = .ok (.goto (-91), 3) := by decide +kernel
theorem dX12_product_103 : decode cX12_product 103 = .ok (.lload_n 1, 1) := by decide +kernel
theorem dX12_product_104 : decode cX12_product 104 = .ok (.lreturn, 1) := by decide +kernel
theorem dX12_sum_0 : decode cX12_sum 0 = .ok (.aload_n 0, 1) := by decide +kernel
theorem dX12_sum_1 : decode cX12_sum 1 = .ok (.invokevirtual 194, 3) := by decide +kernel
theorem dX12_sum_4 : decode cX12_sum 4 = .ok (.lstore_n 1, 1) := by decide +kernel
theorem dX12_sum_5 : decode cX12_sum 5 = .ok (.aload_n 0, 1) := by decide +kernel
theorem dX12_sum_6 : decode cX12_sum 6 = .ok (.invokevirtual 145, 3) := by decide +kernel
theorem dX12_sum_9 : decode cX12_sum 9 = .ok (.aload_n 0, 1) := by decide +kernel
theorem dX12_sum_10 : decode cX12_sum 10 = .ok (.getfield 124, 3) := by decide +kernel
theorem dX12_sum_13 : decode cX12_sum 13 = .ok (.ifCond .ne 79, 3) := by decide +kernel
theorem dX12_sum_16 : decode cX12_sum 16 = .ok (.aload_n 0, 1) := by decide +kernel
theorem dX12_sum_17 : decode cX12_sum 17 = .ok (.aload_n 0, 1) := by decide +kernel
theorem dX12_sum_18 : decode cX12_sum 18 = .ok (.getfield 117, 3) := by decide +kernel
theorem dX12_sum_21 : decode cX12_sum 21 = .ok (.invokevirtual 120, 3) := by decide +kernel
theorem dX12_sum_24 : decode cX12_sum 24 = .ok (.bipush 43, 2) := by decide +kernel
theorem dX12_sum_26 : decode cX12_sum 26 = .ok (.if_icmp .eq 16, 3) := by decide +kernel
theorem dX12_sum_29 : decode cX12_sum 29 = .ok (.aload_n 0, 1) := by decide +kernel
theorem dX12_sum_30 : decode cX12_sum 30 = .ok (.aload_n 0, 1) := by decide +kernel
theorem dX12_sum_31 : decode cX12_sum 31 = .ok (.getfield 117, 3) := by decide +kernel
theorem dX12_sum_34 : decode cX12_sum 34 = .ok (.invokevirtual 120, 3) := by decide +kernel
theorem dX12_sum_37 : decode cX12_sum 37 = .ok (.bipush 45, 2) := by decide +kernel
theorem dX12_sum_39 : decode cX12_sum 39 = .ok (.if_icmp .ne 53, 3) := by decide +kernel
theorem dX12_sum_42 : decode cX12_sum 42 = .ok (.aload_n 0, 1) := by decide +kernel
theorem dX12_sum_43 : decode cX12_sum 43 = .ok (.aload_n 0, 1) := by decide +kernel
theorem dX12_sum_44 : decode cX12_sum 44 = .ok (.getfield 117, 3) := by decide +kernel
theorem dX12_sum_47 : decode cX12_sum 47 = .ok (.invokevirtual 120, 3) := by decide +kernel
theorem dX12_sum_50 : decode cX12_sum 50 = .ok (.istore_n 3, 1) := by decide +kernel
theorem dX12_sum_51 : decode cX12_sum 51 = .ok (.aload_n 0, 1) := by decide +kernel
theorem dX12_sum_52 : decode cX12_sum 52 = .ok (.dup, 1) := by decide +kernel
theorem dX12_sum_53 : decode cX12_sum 53 = .ok (.getfield 117, 3) := by decide +kernel
theorem dX12_sum_56 : decode cX12_sum 56 = .ok (.iconst 1, 1) := by decide +kernel
theorem dX12_sum_57 : decode cX12_sum 57 = .ok (.iadd, 1) := by decide +kernel
theorem dX12_sum_58 : decode cX12_sum 58 = .ok (.putfield 117, 3) := by decide +kernel
theorem dX12_sum_61 : decode cX12_sum 61 = .ok (.aload_n 0, 1) := by decide +kernel
theorem dX12_sum_62 : decode cX12_sum 62 = .ok (.invokevirtual 194, 3) := by decide +kernel
theorem dX12_sum_65 : decode cX12_sum 65 = .ok (.lstore 4, 2) := by decide +kernel
theorem dX12_sum_67 : decode cX12_sum 67 = .ok (.iload_n 3, 1) := by decide +kernel
theorem dX12_sum_68 : decode cX12_sum 68 = .ok (.bipush 43, 2) := by decide +kernel
theorem dX12_sum_70 : decode cX12_sum 70 = .ok (.if_icmp .ne 10, 3) := by decide +kernel
theorem dX12_sum_73 : decode cX12_sum 73 = .ok (.lload_n 1, 1) := by decide +kernel
theorem dX12_sum_74 : decode cX12_sum 74 = .ok (.lload 4, 2) := by decide +kernel
theorem dX12_sum_76 : decode cX12_sum 76 = .ok (.ladd, 1) := by decide +kernel
theorem dX12_sum_77 : decode cX12_sum 77 = .ok (.goto 7, 3) := by decide +kernel
theorem dX12_sum_80 : decode cX12_sum 80 = .ok (.lload_n 1, 1) := by decide +kernel
theorem dX12_sum_81 : decode cX12_sum 81 = .ok (.lload 4, 2) := by decide +kernel
theorem dX12_sum_83 : decode cX12_sum 83 = .ok (.lsub, 1) := by decide +kernel
theorem dX12_sum_84 : decode cX12_sum 84 = .ok (.lstore_n 1, 1) := by decide +kernel
theorem dX12_sum_85 : decode cX12_sum 85 = .ok (.aload_n 0, 1) := by decide +kernel
theorem dX12_sum_86 : decode cX12_sum 86 = .ok (.invokevirtual 145, 3) := by decide +kernel
theorem dX12_sum_89 : decode cX12_sum 89 = .ok (.goto (-80), 3) := by decide +kernel
theorem dX12_sum_92 : decode cX12_sum 92 = .ok (.lload_n 1, 1) := by decide +kernel
theorem dX12_sum_93 : decode cX12_sum 93 = .ok (.lreturn, 1) := by decide +kernel
theorem dX12_test_0 : decode cX12_test 0 = .ok (.aload_n 0, 1) := by decide +kernel
theorem dX12_test_1 : decode cX12_test 1 = .ok (.getfield 124, 3) := by decide +kernel
theorem dX12_test_4 : decode cX12_test 4 = .ok (.ifCond .eq 5, 3) := by decide +kernel
theorem dX12_test_7 : decode cX12_test 7 = .ok (.iconst 0, 1) := by decide +kernel
theorem dX12_test_8 : decode cX12_test 8 = .ok (.ireturn, 1) := by decide +kernel
theorem dX12_test_9 : decode cX12_test 9 = .ok (.aload_n 0, 1) := by decide +kernel
theorem dX12_test_10 : decode cX12_test 10 = .ok (.bipush 14, 2) := by decide +kernel
theorem dX12_test_12 : decode cX12_test 12 = .ok (.bipush 15, 2) := by decide +kernel
theorem dX12_test_14 : decode cX12_test 14 = .ok (.bipush 20, 2) := by decide +kernel
theorem dX12_test_16 : decode cX12_test 16 = .ok (.iconst 0, 1) := by decide +kernel
theorem dX12_test_17 : decode cX12_test 17 = .ok (.iconst 0, 1) := by decide +kernel
theorem dX12_test_18 : decode cX12_test 18 = .ok (.iconst 0, 1) := by decide +kernel
theorem dX12_test_19 : decode cX12_test 19 = .ok (.invokevirtual 159, 3) := by decide +kernel
theorem dX12_test_22 : decode cX12_test 22 = .ok (.ifCond .eq 33, 3) := by decide +kernel
