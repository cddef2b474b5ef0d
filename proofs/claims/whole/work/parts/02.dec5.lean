theorem dL_size_28 : decode cL_size 28 = .ok (.ireturn, 1) := by decide +kernel
theorem dL_size_29 : decode cL_size 29 = .ok (.iconst 0, 1) := by decide +kernel
theorem dL_size_30 : decode cL_size 30 = .ok (.ireturn, 1) := by decide +kernel
theorem dL_sides_0 : decode cL_sides 0 = .ok (.aload_n 2, 1) := by decide +kernel
theorem dL_sides_1 : decode cL_sides 1 = .ok (.iconst 0, 1) := by decide +kernel
theorem dL_sides_2 : decode cL_sides 2 = .ok (.aload_n 0, 1) := by decide +kernel
theorem dL_sides_3 : decode cL_sides 3 = .ok (.iload_n 1, 1) := by decide +kernel
theorem dL_sides_4 : decode cL_sides 4 = .ok (.invokevirtual 62, 3) := by decide +kernel
theorem dL_sides_7 : decode cL_sides 7 = .ok (.lastore, 1) := by decide +kernel
theorem dL_sides_8 : decode cL_sides 8 = .ok (.goto 9, 3) := by decide +kernel
theorem dL_sides_11 : decode cL_sides 11 = .ok (.astore_n 3, 1) := by decide +kernel
theorem dL_sides_12 : decode cL_sides 12 = .ok (.iconst 1, 1) := by decide +kernel
theorem dL_sides_13 : decode cL_sides 13 = .ok (.ireturn, 1) := by decide +kernel
theorem dL_sides_14 : decode cL_sides 14 = .ok (.astore_n 3, 1) := by decide +kernel
theorem dL_sides_15 : decode cL_sides 15 = .ok (.iconst 2, 1) := by decide +kernel
theorem dL_sides_16 : decode cL_sides 16 = .ok (.ireturn, 1) := by decide +kernel
theorem dL_sides_17 : decode cL_sides 17 = .ok (.iconst 0, 1) := by decide +kernel
theorem dL_sides_18 : decode cL_sides 18 = .ok (.ireturn, 1) := by decide +kernel
theorem dL_widest_0 : decode cL_widest 0 = .ok (.aload_n 3, 1) := by decide +kernel
theorem dL_widest_1 : decode cL_widest 1 = .ok (.iconst 0, 1) := by decide +kernel
theorem dL_widest_2 : decode cL_widest 2 = .ok (.aload_n 0, 1) := by decide +kernel
theorem dL_widest_3 : decode cL_widest 3 = .ok (.iload_n 1, 1) := by decide +kernel
theorem dL_widest_4 : decode cL_widest 4 = .ok (.iload_n 2, 1) := by decide +kernel
theorem dL_widest_5 : decode cL_widest 5 = .ok (.invokevirtual 66, 3) := by decide +kernel
theorem dL_widest_8 : decode cL_widest 8 = .ok (.i2l, 1) := by decide +kernel
theorem dL_widest_9 : decode cL_widest 9 = .ok (.lastore, 1) := by decide +kernel
theorem dL_widest_10 : decode cL_widest 10 = .ok (.goto 15, 3) := by decide +kernel
theorem dL_widest_13 : decode cL_widest 13 = .ok (.astore 4, 2) := by decide +kernel
theorem dL_widest_15 : decode cL_widest 15 = .ok (.iconst 1, 1) := by decide +kernel
theorem dL_widest_16 : decode cL_widest 16 = .ok (.ireturn, 1) := by decide +kernel
theorem dL_widest_17 : decode cL_widest 17 = .ok (.astore 4, 2) := by decide +kernel
theorem dL_widest_19 : decode cL_widest 19 = .ok (.iconst 2, 1) := by decide +kernel
theorem dL_widest_20 : decode cL_widest 20 = .ok (.ireturn, 1) := by decide +kernel
theorem dL_widest_21 : decode cL_widest 21 = .ok (.astore 4, 2) := by decide +kernel
theorem dL_widest_23 : decode cL_widest 23 = .ok (.iconst 3, 1) := by decide +kernel
theorem dL_widest_24 : decode cL_widest 24 = .ok (.ireturn, 1) := by decide +kernel
theorem dL_widest_25 : decode cL_widest 25 = .ok (.iconst 0, 1) := by decide +kernel
theorem dL_widest_26 : decode cL_widest 26 = .ok (.ireturn, 1) := by decide +kernel
theorem dL_run_0 : decode cL_run 0 = .ok (.aload_n 2, 1) := by decide +kernel
theorem dL_run_1 : decode cL_run 1 = .ok (.iconst 0, 1) := by decide +kernel
theorem dL_run_2 : decode cL_run 2 = .ok (.aload_n 0, 1) := by decide +kernel
theorem dL_run_3 : decode cL_run 3 = .ok (.iload_n 1, 1) := by decide +kernel
theorem dL_run_4 : decode cL_run 4 = .ok (.invokevirtual 69, 3) := by decide +kernel
theorem dL_run_7 : decode cL_run 7 = .ok (.i2l, 1) := by decide +kernel
theorem dL_run_8 : decode cL_run 8 = .ok (.lastore, 1) := by decide +kernel
theorem dL_run_9 : decode cL_run 9 = .ok (.goto 9, 3) := by decide +kernel
theorem dL_run_12 : decode cL_run 12 = .ok (.astore_n 3, 1) := by decide +kernel
theorem dL_run_13 : decode cL_run 13 = .ok (.iconst 1, 1) := by decide +kernel
theorem dL_run_14 : decode cL_run 14 = .ok (.ireturn, 1) := by decide +kernel
theorem dL_run_15 : decode cL_run 15 = .ok (.astore_n 3, 1) := by decide +kernel
theorem dL_run_16 : decode cL_run 16 = .ok (.iconst 2, 1) := by decide +kernel
theorem dL_run_17 : decode cL_run 17 = .ok (.ireturn, 1) := by decide +kernel
theorem dL_run_18 : decode cL_run 18 = .ok (.iconst 0, 1) := by decide +kernel
theorem dL_run_19 : decode cL_run 19 = .ok (.ireturn, 1) := by decide +kernel
theorem dL_tow_0 : decode cL_tow 0 = .ok (.aload_n 3, 1) := by decide +kernel
theorem dL_tow_1 : decode cL_tow 1 = .ok (.iconst 0, 1) := by decide +kernel
theorem dL_tow_2 : decode cL_tow 2 = .ok (.aload_n 0, 1) := by decide +kernel
theorem dL_tow_3 : decode cL_tow 3 = .ok (.iload_n 1, 1) := by decide +kernel
theorem dL_tow_4 : decode cL_tow 4 = .ok (.iload_n 2, 1) := by decide +kernel
theorem dL_tow_5 : decode cL_tow 5 = .ok (.invokevirtual 72, 3) := by decide +kernel
theorem dL_tow_8 : decode cL_tow 8 = .ok (.i2l, 1) := by decide +kernel
theorem dL_tow_9 : decode cL_tow 9 = .ok (.lastore, 1) := by decide +kernel
theorem dL_tow_10 : decode cL_tow 10 = .ok (.goto 15, 3) := by decide +kernel
theorem dL_tow_13 : decode cL_tow 13 = .ok (.astore 4, 2) := by decide +kernel
theorem dL_tow_15 : decode cL_tow 15 = .ok (.iconst 1, 1) := by decide +kernel
theorem dL_tow_16 : decode cL_tow 16 = .ok (.ireturn, 1) := by decide +kernel
theorem dL_tow_17 : decode cL_tow 17 = .ok (.astore 4, 2) := by decide +kernel
theorem dL_tow_19 : decode cL_tow 19 = .ok (.iconst 2, 1) := by decide +kernel
theorem dL_tow_20 : decode cL_tow 20 = .ok (.ireturn, 1) := by decide +kernel
theorem dL_tow_21 : decode cL_tow 21 = .ok (.astore 4, 2) := by decide +kernel
theorem dL_tow_23 : decode cL_tow 23 = .ok (.iconst 3, 1) := by decide +kernel
theorem dL_tow_24 : decode cL_tow 24 = .ok (.ireturn, 1) := by decide +kernel
theorem dL_tow_25 : decode cL_tow 25 = .ok (.iconst 0, 1) := by decide +kernel
theorem dL_tow_26 : decode cL_tow 26 = .ok (.ireturn, 1) := by decide +kernel
theorem dL_ran_0 : decode cL_ran 0 = .ok (.aload_n 3, 1) := by decide +kernel
theorem dL_ran_1 : decode cL_ran 1 = .ok (.iconst 0, 1) := by decide +kernel
theorem dL_ran_2 : decode cL_ran 2 = .ok (.aload_n 0, 1) := by decide +kernel
theorem dL_ran_3 : decode cL_ran 3 = .ok (.iload_n 1, 1) := by decide +kernel
theorem dL_ran_4 : decode cL_ran 4 = .ok (.iload_n 2, 1) := by decide +kernel
theorem dL_ran_5 : decode cL_ran 5 = .ok (.invokevirtual 75, 3) := by decide +kernel
theorem dL_ran_8 : decode cL_ran 8 = .ok (.i2l, 1) := by decide +kernel
theorem dL_ran_9 : decode cL_ran 9 = .ok (.lastore, 1) := by decide +kernel
theorem dL_ran_10 : decode cL_ran 10 = .ok (.goto 11, 3) := by decide +kernel
theorem dL_ran_13 : decode cL_ran 13 = .ok (.astore 4, 2) := by decide +kernel
theorem dL_ran_15 : decode cL_ran 15 = .ok (.iconst 1, 1) := by decide +kernel
theorem dL_ran_16 : decode cL_ran 16 = .ok (.ireturn, 1) := by decide +kernel
theorem dL_ran_17 : decode cL_ran 17 = .ok (.astore 4, 2) := by decide +kernel
theorem dL_ran_19 : decode cL_ran 19 = .ok (.iconst 2, 1) := by decide +kernel
theorem dL_ran_20 : decode cL_ran 20 = .ok (.ireturn, 1) := by decide +kernel
theorem dL_ran_21 : decode cL_ran 21 = .ok (.iconst 0, 1) := by decide +kernel
theorem dL_ran_22 : decode cL_ran 22 = .ok (.ireturn, 1) := by decide +kernel
theorem dL_wire_0 : decode cL_wire 0 = .ok (.aload_n 1, 1) := by decide +kernel
theorem dL_wire_1 : decode cL_wire 1 = .ok (.iconst 0, 1) := by decide +kernel
theorem dL_wire_2 : decode cL_wire 2 = .ok (.aload_n 0, 1) := by decide +kernel
theorem dL_wire_3 : decode cL_wire 3 = .ok (.invokevirtual 78, 3) := by decide +kernel
theorem dL_wire_6 : decode cL_wire 6 = .ok (.lastore, 1) := by decide +kernel
theorem dL_wire_7 : decode cL_wire 7 = .ok (.goto 6, 3) := by decide +kernel
theorem dL_wire_10 : decode cL_wire 10 = .ok (.astore_n 2, 1) := by decide +kernel
theorem dL_wire_11 : decode cL_wire 11 = .ok (.iconst 1, 1) := by decide +kernel
theorem dL_wire_12 : decode cL_wire 12 = .ok (.ireturn, 1) := by decide +kernel
theorem dL_wire_13 : decode cL_wire 13 = .ok (.iconst 0, 1) := by decide +kernel
theorem dL_wire_14 : decode cL_wire 14 = .ok (.ireturn, 1) := by decide +kernel
theorem dL_fits_0 : decode cL_fits 0 = .ok (.aload_n 2, 1) := by decide +kernel
theorem dL_fits_1 : decode cL_fits 1 = .ok (.iconst 0, 1) := by decide +kernel
theorem dL_fits_2 : decode cL_fits 2 = .ok (.aload_n 0, 1) := by decide +kernel
theorem dL_fits_3 : decode cL_fits 3 = .ok (.iload_n 1, 1) := by decide +kernel
theorem dL_fits_4 : decode cL_fits 4 = .ok (.invokevirtual 82, 3) := by decide +kernel
theorem dL_fits_7 : decode cL_fits 7 = .ok (.i2l, 1) := by decide +kernel
theorem dL_fits_8 : decode cL_fits 8 = .ok (.lastore, 1) := by decide +kernel
theorem dL_fits_9 : decode cL_fits 9 = .ok (.goto 6, 3) := by decide +kernel
theorem dL_fits_12 : decode cL_fits 12 = .ok (.astore_n 3, 1) := by decide +kernel
theorem dL_fits_13 : decode cL_fits 13 = .ok (.iconst 1, 1) := by decide +kernel
theorem dL_fits_14 : decode cL_fits 14 = .ok (.ireturn, 1) := by decide +kernel
theorem dL_fits_15 : decode cL_fits 15 = .ok (.iconst 0, 1) := by decide +kernel
theorem dL_fits_16 : decode cL_fits 16 = .ok (.ireturn, 1) := by decide +kernel
theorem dL_telling_0 : decode cL_telling 0 = .ok (.aload_n 2, 1) := by decide +kernel
theorem dL_telling_1 : decode cL_telling 1 = .ok (.iconst 0, 1) := by decide +kernel
theorem dL_telling_2 : decode cL_telling 2 = .ok (.aload_n 0, 1) := by decide +kernel
theorem dL_telling_3 : decode cL_telling 3 = .ok (.iload_n 1, 1) := by decide +kernel
theorem dL_telling_4 : decode cL_telling 4 = .ok (.invokevirtual 85, 3) := by decide +kernel
theorem dL_telling_7 : decode cL_telling 7 = .ok (.i2l, 1) := by decide +kernel
theorem dL_telling_8 : decode cL_telling 8 = .ok (.lastore, 1) := by decide +kernel
theorem dL_telling_9 : decode cL_telling 9 = .ok (.goto 9, 3) := by decide +kernel
theorem dL_telling_12 : decode cL_telling 12 = .ok (.astore_n 3, 1) := by decide +kernel
theorem dL_telling_13 : decode cL_telling 13 = .ok (.iconst 1, 1) := by decide +kernel
theorem dL_telling_14 : decode cL_telling 14 = .ok (.ireturn, 1) := by decide +kernel
theorem dL_telling_15 : decode cL_telling 15 = .ok (.astore_n 3, 1) := by decide +kernel
theorem dL_telling_16 : decode cL_telling 16 = .ok (.iconst 2, 1) := by decide +kernel
theorem dL_telling_17 : decode cL_telling 17 = .ok (.ireturn, 1) := by decide +kernel
theorem dL_telling_18 : decode cL_telling 18 = .ok (.iconst 0, 1) := by decide +kernel
theorem dL_telling_19 : decode cL_telling 19 = .ok (.ireturn, 1) := by decide +kernel
theorem dL_earlier_0 : decode cL_earlier 0 = .ok (.aload_n 3, 1) := by decide +kernel
theorem dL_earlier_1 : decode cL_earlier 1 = .ok (.iconst 0, 1) := by decide +kernel
theorem dL_earlier_2 : decode cL_earlier 2 = .ok (.aload_n 0, 1) := by decide +kernel
theorem dL_earlier_3 : decode cL_earlier 3 = .ok (.iload_n 1, 1) := by decide +kernel
theorem dL_earlier_4 : decode cL_earlier 4 = .ok (.iload_n 2, 1) := by decide +kernel
theorem dL_earlier_5 : decode cL_earlier 5 = .ok (.invokevirtual 88, 3) := by decide +kernel
theorem dL_earlier_8 : decode cL_earlier 8 = .ok (.i2l, 1) := by decide +kernel
theorem dL_earlier_9 : decode cL_earlier 9 = .ok (.lastore, 1) := by decide +kernel
theorem dL_earlier_10 : decode cL_earlier 10 = .ok (.goto 7, 3) := by decide +kernel
theorem dL_earlier_13 : decode cL_earlier 13 = .ok (.astore 4, 2) := by decide +kernel
theorem dL_earlier_15 : decode cL_earlier 15 = .ok (.iconst 1, 1) := by decide +kernel
theorem dL_earlier_16 : decode cL_earlier 16 = .ok (.ireturn, 1) := by decide +kernel
theorem dL_earlier_17 : decode cL_earlier 17 = .ok (.iconst 0, 1) := by decide +kernel
theorem dL_earlier_18 : decode cL_earlier 18 = .ok (.ireturn, 1) := by decide +kernel
theorem dL_ratio_0 : decode cL_ratio 0 = .ok (.aload_n 2, 1) := by decide +kernel
theorem dL_ratio_1 : decode cL_ratio 1 = .ok (.iconst 0, 1) := by decide +kernel
theorem dL_ratio_2 : decode cL_ratio 2 = .ok (.aload_n 0, 1) := by decide +kernel
theorem dL_ratio_3 : decode cL_ratio 3 = .ok (.iload_n 1, 1) := by decide +kernel
theorem dL_ratio_4 : decode cL_ratio 4 = .ok (.invokevirtual 91, 3) := by decide +kernel
theorem dL_ratio_7 : decode cL_ratio 7 = .ok (.i2l, 1) := by decide +kernel
theorem dL_ratio_8 : decode cL_ratio 8 = .ok (.lastore, 1) := by decide +kernel
theorem dL_ratio_9 : decode cL_ratio 9 = .ok (.goto 6, 3) := by decide +kernel
theorem dL_ratio_12 : decode cL_ratio 12 = .ok (.astore_n 3, 1) := by decide +kernel
theorem dL_ratio_13 : decode cL_ratio 13 = .ok (.iconst 1, 1) := by decide +kernel
theorem dL_ratio_14 : decode cL_ratio 14 = .ok (.ireturn, 1) := by decide +kernel
theorem dL_ratio_15 : decode cL_ratio 15 = .ok (.iconst 0, 1) := by decide +kernel
theorem dL_ratio_16 : decode cL_ratio 16 = .ok (.ireturn, 1) := by decide +kernel
theorem dL_strange_0 : decode cL_strange 0 = .ok (.aload_n 2, 1) := by decide +kernel
theorem dL_strange_1 : decode cL_strange 1 = .ok (.iconst 0, 1) := by decide +kernel
theorem dL_strange_2 : decode cL_strange 2 = .ok (.aload_n 0, 1) := by decide +kernel
theorem dL_strange_3 : decode cL_strange 3 = .ok (.iload_n 1, 1) := by decide +kernel
theorem dL_strange_4 : decode cL_strange 4 = .ok (.invokevirtual 94, 3) := by decide +kernel
theorem dL_strange_7 : decode cL_strange 7 = .ok (.i2l, 1) := by decide +kernel
theorem dL_strange_8 : decode cL_strange 8 = .ok (.lastore, 1) := by decide +kernel
theorem dL_strange_9 : decode cL_strange 9 = .ok (.goto 6, 3) := by decide +kernel
theorem dL_strange_12 : decode cL_strange 12 = .ok (.astore_n 3, 1) := by decide +kernel
theorem dL_strange_13 : decode cL_strange 13 = .ok (.iconst 1, 1) := by decide +kernel
theorem dL_strange_14 : decode cL_strange 14 = .ok (.ireturn, 1) := by decide +kernel
theorem dL_strange_15 : decode cL_strange 15 = .ok (.iconst 0, 1) := by decide +kernel
theorem dL_strange_16 : decode cL_strange 16 = .ok (.ireturn, 1) := by decide +kernel
theorem dL_span_0 : decode cL_span 0 = .ok (.aload_n 3, 1) := by decide +kernel
theorem dL_span_1 : decode cL_span 1 = .ok (.iconst 0, 1) := by decide +kernel
theorem dL_span_2 : decode cL_span 2 = .ok (.aload_n 0, 1) := by decide +kernel
theorem dL_span_3 : decode cL_span 3 = .ok (.iload_n 1, 1) := by decide +kernel
theorem dL_span_4 : decode cL_span 4 = .ok (.iload_n 2, 1) := by decide +kernel
theorem dL_span_5 : decode cL_span 5 = .ok (.invokevirtual 97, 3) := by decide +kernel
theorem dL_span_8 : decode cL_span 8 = .ok (.lastore, 1) := by decide +kernel
theorem dL_span_9 : decode cL_span 9 = .ok (.goto 7, 3) := by decide +kernel
theorem dL_span_12 : decode cL_span 12 = .ok (.astore 4, 2) := by decide +kernel
theorem dL_span_14 : decode cL_span 14 = .ok (.iconst 1, 1) := by decide +kernel
theorem dL_span_15 : decode cL_span 15 = .ok (.ireturn, 1) := by decide +kernel
theorem dL_span_16 : decode cL_span 16 = .ok (.iconst 0, 1) := by decide +kernel
theorem dL_span_17 : decode cL_span 17 = .ok (.ireturn, 1) := by decide +kernel
theorem dL_better_0 : decode cL_better 0 = .ok (.aload_n 3, 1) := by decide +kernel
theorem dL_better_1 : decode cL_better 1 = .ok (.iconst 0, 1) := by decide +kernel
theorem dL_better_2 : decode cL_better 2 = .ok (.aload_n 0, 1) := by decide +kernel
theorem dL_better_3 : decode cL_better 3 = .ok (.iload_n 1, 1) := by decide +kernel
theorem dL_better_4 : decode cL_better 4 = .ok (.iload_n 2, 1) := by decide +kernel
theorem dL_better_5 : decode cL_better 5 = .ok (.invokevirtual 101, 3) := by decide +kernel
theorem dL_better_8 : decode cL_better 8 = .ok (.lastore, 1) := by decide +kernel
theorem dL_better_9 : decode cL_better 9 = .ok (.goto 15, 3) := by decide +kernel
theorem dL_better_12 : decode cL_better 12 = .ok (.astore 4, 2) := by decide +kernel
theorem dL_better_14 : decode cL_better 14 = .ok (.iconst 1, 1) := by decide +kernel
theorem dL_better_15 : decode cL_better 15 = .ok (.ireturn, 1) := by decide +kernel
theorem dL_better_16 : decode cL_better 16 = .ok (.astore 4, 2) := by decide +kernel
theorem dL_better_18 : decode cL_better 18 = .ok (.iconst 2, 1) := by decide +kernel
theorem dL_better_19 : decode cL_better 19 = .ok (.ireturn, 1) := by decide +kernel
theorem dL_better_20 : decode cL_better 20 = .ok (.astore 4, 2) := by decide +kernel
theorem dL_better_22 : decode cL_better 22 = .ok (.iconst 3, 1) := by decide +kernel
theorem dL_better_23 : decode cL_better 23 = .ok (.ireturn, 1) := by decide +kernel
theorem dL_better_24 : decode cL_better 24 = .ok (.iconst 0, 1) := by decide +kernel
theorem dL_better_25 : decode cL_better 25 = .ok (.ireturn, 1) := by decide +kernel
theorem dL_lines_0 : decode cL_lines 0 = .ok (.aload_n 3, 1) := by decide +kernel
theorem dL_lines_1 : decode cL_lines 1 = .ok (.iconst 0, 1) := by decide +kernel
theorem dL_lines_2 : decode cL_lines 2 = .ok (.aload_n 0, 1) := by decide +kernel
theorem dL_lines_3 : decode cL_lines 3 = .ok (.iload_n 1, 1) := by decide +kernel
theorem dL_lines_4 : decode cL_lines 4 = .ok (.iload_n 2, 1) := by decide +kernel
theorem dL_lines_5 : decode cL_lines 5 = .ok (.invokevirtual 104, 3) := by decide +kernel
theorem dL_lines_8 : decode cL_lines 8 = .ok (.i2l, 1) := by decide +kernel
theorem dL_lines_9 : decode cL_lines 9 = .ok (.lastore, 1) := by decide +kernel
theorem dL_lines_10 : decode cL_lines 10 = .ok (.goto 15, 3) := by decide +kernel
theorem dL_lines_13 : decode cL_lines 13 = .ok (.astore 4, 2) := by decide +kernel
theorem dL_lines_15 : decode cL_lines 15 = .ok (.iconst 1, 1) := by decide +kernel
theorem dL_lines_16 : decode cL_lines 16 = .ok (.ireturn, 1) := by decide +kernel
theorem dL_lines_17 : decode cL_lines 17 = .ok (.astore 4, 2) := by decide +kernel
theorem dL_lines_19 : decode cL_lines 19 = .ok (.iconst 2, 1) := by decide +kernel
theorem dL_lines_20 : decode cL_lines 20 = .ok (.ireturn, 1) := by decide +kernel
theorem dL_lines_21 : decode cL_lines 21 = .ok (.astore 4, 2) := by decide +kernel
theorem dL_lines_23 : decode cL_lines 23 = .ok (.iconst 3, 1) := by decide +kernel
theorem dL_lines_24 : decode cL_lines 24 = .ok (.ireturn, 1) := by decide +kernel
theorem dL_lines_25 : decode cL_lines 25 = .ok (.iconst 0, 1) := by decide +kernel
theorem dL_lines_26 : decode cL_lines 26 = .ok (.ireturn, 1) := by decide +kernel
theorem dL_mile_0 : decode cL_mile 0 = .ok (.aload_n 3, 1) := by decide +kernel
theorem dL_mile_1 : decode cL_mile 1 = .ok (.iconst 0, 1) := by decide +kernel
theorem dL_mile_2 : decode cL_mile 2 = .ok (.aload_n 0, 1) := by decide +kernel
theorem dL_mile_3 : decode cL_mile 3 = .ok (.iload_n 1, 1) := by decide +kernel
theorem dL_mile_4 : decode cL_mile 4 = .ok (.iload_n 2, 1) := by decide +kernel
theorem dL_mile_5 : decode cL_mile 5 = .ok (.invokevirtual 107, 3) := by decide +kernel
theorem dL_mile_8 : decode cL_mile 8 = .ok (.i2l, 1) := by decide +kernel
theorem dL_mile_9 : decode cL_mile 9 = .ok (.lastore, 1) := by decide +kernel
theorem dL_mile_10 : decode cL_mile 10 = .ok (.goto 7, 3) := by decide +kernel
theorem dL_mile_13 : decode cL_mile 13 = .ok (.astore 4, 2) := by decide +kernel
theorem dL_mile_15 : decode cL_mile 15 = .ok (.iconst 1, 1) := by decide +kernel
theorem dL_mile_16 : decode cL_mile 16 = .ok (.ireturn, 1) := by decide +kernel
theorem dL_mile_17 : decode cL_mile 17 = .ok (.iconst 0, 1) := by decide +kernel
theorem dL_mile_18 : decode cL_mile 18 = .ok (.ireturn, 1) := by decide +kernel
theorem dL_odds_0 : decode cL_odds 0 = .ok (.aload_n 3, 1) := by decide +kernel
theorem dL_odds_1 : decode cL_odds 1 = .ok (.iconst 0, 1) := by decide +kernel
theorem dL_odds_2 : decode cL_odds 2 = .ok (.aload_n 0, 1) := by decide +kernel
theorem dL_odds_3 : decode cL_odds 3 = .ok (.iload_n 1, 1) := by decide +kernel
theorem dL_odds_4 : decode cL_odds 4 = .ok (.iload_n 2, 1) := by decide +kernel
theorem dL_odds_5 : decode cL_odds 5 = .ok (.invokevirtual 110, 3) := by decide +kernel
theorem dL_odds_8 : decode cL_odds 8 = .ok (.i2l, 1) := by decide +kernel
theorem dL_odds_9 : decode cL_odds 9 = .ok (.lastore, 1) := by decide +kernel
theorem dL_odds_10 : decode cL_odds 10 = .ok (.goto 7, 3) := by decide +kernel
theorem dL_odds_13 : decode cL_odds 13 = .ok (.astore 4, 2) := by decide +kernel
theorem dL_odds_15 : decode cL_odds 15 = .ok (.iconst 1, 1) := by decide +kernel
theorem dL_odds_16 : decode cL_odds 16 = .ok (.ireturn, 1) := by decide +kernel
theorem dL_odds_17 : decode cL_odds 17 = .ok (.iconst 0, 1) := by decide +kernel
theorem dL_odds_18 : decode cL_odds 18 = .ok (.ireturn, 1) := by decide +kernel
theorem dL_price_0 : decode cL_price 0 = .ok (.aload 5, 2) := by decide +kernel
theorem dL_price_2 : decode cL_price 2 = .ok (.iconst 0, 1) := by decide +kernel
theorem dL_price_3 : decode cL_price 3 = .ok (.aload_n 0, 1) := by decide +kernel
theorem dL_price_4 : decode cL_price 4 = .ok (.iload_n 1, 1) := by decide +kernel
theorem dL_price_5 : decode cL_price 5 = .ok (.iload_n 2, 1) := by decide +kernel
theorem dL_price_6 : decode cL_price 6 = .ok (.iload_n 3, 1) := by decide +kernel
theorem dL_price_7 : decode cL_price 7 = .ok (.iload 4, 2) := by decide +kernel
theorem dL_price_9 : decode cL_price 9 = .ok (.invokevirtual 113, 3) := by decide +kernel
theorem dL_price_12 : decode cL_price 12 = .ok (.i2l, 1) := by decide +kernel
theorem dL_price_13 : decode cL_price 13 = .ok (.lastore, 1) := by decide +kernel
theorem dL_price_14 : decode cL_price 14 = .ok (.goto 7, 3) := by decide +kernel
theorem dL_price_17 : decode cL_price 17 = .ok (.astore 6, 2) := by decide +kernel
theorem dL_price_19 : decode cL_price 19 = .ok (.iconst 1, 1) := by decide +kernel
theorem dL_price_20 : decode cL_price 20 = .ok (.ireturn, 1) := by decide +kernel
theorem dL_price_21 : decode cL_price 21 = .ok (.iconst 0, 1) := by decide +kernel
theorem dL_price_22 : decode cL_price 22 = .ok (.ireturn, 1) := by decide +kernel
theorem dL_foul_0 : decode cL_foul 0 = .ok (.aload_n 3, 1) := by decide +kernel
theorem dL_foul_1 : decode cL_foul 1 = .ok (.iconst 0, 1) := by decide +kernel
theorem dL_foul_2 : decode cL_foul 2 = .ok (.aload_n 0, 1) := by decide +kernel
theorem dL_foul_3 : decode cL_foul 3 = .ok (.iload_n 1, 1) := by decide +kernel
theorem dL_foul_4 : decode cL_foul 4 = .ok (.iload_n 2, 1) := by decide +kernel
theorem dL_foul_5 : decode cL_foul 5 = .ok (.invokevirtual 116, 3) := by decide +kernel
theorem dL_foul_8 : decode cL_foul 8 = .ok (.i2l, 1) := by decide +kernel
theorem dL_foul_9 : decode cL_foul 9 = .ok (.lastore, 1) := by decide +kernel
theorem dL_foul_10 : decode cL_foul 10 = .ok (.goto 7, 3) := by decide +kernel
theorem dL_foul_13 : decode cL_foul 13 = .ok (.astore 4, 2) := by decide +kernel
theorem dL_foul_15 : decode cL_foul 15 = .ok (.iconst 1, 1) := by decide +kernel
theorem dL_foul_16 : decode cL_foul 16 = .ok (.ireturn, 1) := by decide +kernel
theorem dL_foul_17 : decode cL_foul 17 = .ok (.iconst 0, 1) := by decide +kernel
theorem dL_foul_18 : decode cL_foul 18 = .ok (.ireturn, 1) := by decide +kernel
theorem dL_grown_0 : decode cL_grown 0 = .ok (.aload_n 2, 1) := by decide +kernel
theorem dL_grown_1 : decode cL_grown 1 = .ok (.iconst 0, 1) := by decide +kernel
theorem dL_grown_2 : decode cL_grown 2 = .ok (.aload_n 0, 1) := by decide +kernel
theorem dL_grown_3 : decode cL_grown 3 = .ok (.iload_n 1, 1) := by decide +kernel
theorem dL_grown_4 : decode cL_grown 4 = .ok (.invokevirtual 119, 3) := by decide +kernel
theorem dL_grown_7 : decode cL_grown 7 = .ok (.i2l, 1) := by decide +kernel
theorem dL_grown_8 : decode cL_grown 8 = .ok (.lastore, 1) := by decide +kernel
theorem dL_grown_9 : decode cL_grown 9 = .ok (.goto 6, 3) := by decide +kernel
theorem dL_grown_12 : decode cL_grown 12 = .ok (.astore_n 3, 1) := by decide +kernel
theorem dL_grown_13 : decode cL_grown 13 = .ok (.iconst 1, 1) := by decide +kernel
theorem dL_grown_14 : decode cL_grown 14 = .ok (.ireturn, 1) := by decide +kernel
theorem dL_grown_15 : decode cL_grown 15 = .ok (.iconst 0, 1) := by decide +kernel
theorem dL_grown_16 : decode cL_grown 16 = .ok (.ireturn, 1) := by decide +kernel
theorem dL_law__0 : decode cL_law_ 0 = .ok (.new 8, 3) := by decide +kernel
theorem dL_law__3 : decode cL_law_ 3 = .ok (.dup, 1) := by decide +kernel
theorem dL_law__4 : decode cL_law_ 4 = .ok (.invokespecial 122, 3) := by decide +kernel
theorem dL_law__7 : decode cL_law_ 7 = .ok (.astore_n 1, 1) := by decide +kernel
theorem dL_law__8 : decode cL_law_ 8 = .ok (.new 123, 3) := by decide +kernel
theorem dL_law__11 : decode cL_law_ 11 = .ok (.dup, 1) := by decide +kernel
theorem dL_law__12 : decode cL_law_ 12 = .ok (.invokespecial 125, 3) := by decide +kernel
theorem dL_law__15 : decode cL_law_ 15 = .ok (.astore_n 2, 1) := by decide +kernel
theorem dL_law__16 : decode cL_law_ 16 = .ok (.iconst 1, 1) := by decide +kernel
theorem dL_law__17 : decode cL_law_ 17 = .ok (.newarray .long, 2) := by decide +kernel
theorem dL_law__19 : decode cL_law_ 19 = .ok (.astore_n 3, 1) := by decide +kernel
theorem dL_law__20 : decode cL_law_ 20 = .ok (.iconst 0, 1) := by decide +kernel
theorem dL_law__21 : decode cL_law_ 21 = .ok (.istore 4, 2) := by decide +kernel
theorem dL_law__23 : decode cL_law_ 23 = .ok (.iload 4, 2) := by decide +kernel
theorem dL_law__25 : decode cL_law_ 25 = .ok (.aload_n 0, 1) := by decide +kernel
theorem dL_law__26 : decode cL_law_ 26 = .ok (.arraylength, 1) := by decide +kernel
theorem dL_law__27 : decode cL_law_ 27 = .ok (.bipush 6, 2) := by decide +kernel
theorem dL_law__29 : decode cL_law_ 29 = .ok (.isub, 1) := by decide +kernel
theorem dL_law__30 : decode cL_law_ 30 = .ok (.if_icmp .gt 2577, 3) := by decide +kernel
theorem dL_law__33 : decode cL_law_ 33 = .ok (.aload_n 0, 1) := by decide +kernel
theorem dL_law__34 : decode cL_law_ 34 = .ok (.iload 4, 2) := by decide +kernel
theorem dL_law__36 : decode cL_law_ 36 = .ok (.iaload, 1) := by decide +kernel
theorem dL_law__37 : decode cL_law_ 37 = .ok (.bipush 63, 2) := by decide +kernel
theorem dL_law__39 : decode cL_law_ 39 = .ok (.iand, 1) := by decide +kernel
theorem dL_law__40 : decode cL_law_ 40 = .ok (.tableswitch 2561 0 38 #[172, 240, 332, 412, 480, 553, 637, 650, 742, 826, 882, 949, 1028, 1119, 1211, 1266, 1334, 1390, 1458, 1526, 1551, 1594, 1650, 1706, 1774, 1830, 1886, 1969, 2036, 2104, 2172, 2213, 2226, 2294, 2386, 2454, 2510, 2523, 2536], 172) := by decide +kernel
theorem dL_law__212 : decode cL_law_ 212 = .ok (.aload_n 1, 1) := by decide +kernel
theorem dL_law__213 : decode cL_law_ 213 = .ok (.aload_n 0, 1) := by decide +kernel
theorem dL_law__214 : decode cL_law_ 214 = .ok (.iload 4, 2) := by decide +kernel
theorem dL_law__216 : decode cL_law_ 216 = .ok (.iconst 1, 1) := by decide +kernel
theorem dL_law__217 : decode cL_law_ 217 = .ok (.iadd, 1) := by decide +kernel
theorem dL_law__218 : decode cL_law_ 218 = .ok (.iaload, 1) := by decide +kernel
theorem dL_law__219 : decode cL_law_ 219 = .ok (.aload_n 0, 1) := by decide +kernel
theorem dL_law__220 : decode cL_law_ 220 = .ok (.iload 4, 2) := by decide +kernel
theorem dL_law__222 : decode cL_law_ 222 = .ok (.iconst 2, 1) := by decide +kernel
theorem dL_law__223 : decode cL_law_ 223 = .ok (.iadd, 1) := by decide +kernel
theorem dL_law__224 : decode cL_law_ 224 = .ok (.iaload, 1) := by decide +kernel
theorem dL_law__225 : decode cL_law_ 225 = .ok (.aload_n 3, 1) := by decide +kernel
theorem dL_law__226 : decode cL_law_ 226 = .ok (.invokestatic 126, 3) := by decide +kernel
theorem dL_law__229 : decode cL_law_ 229 = .ok (.istore 5, 2) := by decide +kernel
theorem dL_law__231 : decode cL_law_ 231 = .ok (.aload_n 2, 1) := by decide +kernel
theorem dL_law__232 : decode cL_law_ 232 = .ok (.aload_n 0, 1) := by decide +kernel
theorem dL_law__233 : decode cL_law_ 233 = .ok (.iload 4, 2) := by decide +kernel
theorem dL_law__235 : decode cL_law_ 235 = .ok (.iconst 1, 1) := by decide +kernel
theorem dL_law__236 : decode cL_law_ 236 = .ok (.iadd, 1) := by decide +kernel
theorem dL_law__237 : decode cL_law_ 237 = .ok (.iaload, 1) := by decide +kernel
theorem dL_law__238 : decode cL_law_ 238 = .ok (.aload_n 0, 1) := by decide +kernel
theorem dL_law__239 : decode cL_law_ 239 = .ok (.iload 4, 2) := by decide +kernel
theorem dL_law__241 : decode cL_law_ 241 = .ok (.iconst 2, 1) := by decide +kernel
theorem dL_law__242 : decode cL_law_ 242 = .ok (.iadd, 1) := by decide +kernel
theorem dL_law__243 : decode cL_law_ 243 = .ok (.iaload, 1) := by decide +kernel
theorem dL_law__244 : decode cL_law_ 244 = .ok (.invokevirtual 131, 3) := by decide +kernel
theorem dL_law__247 : decode cL_law_ 247 = .ok (.istore 6, 2) := by decide +kernel
theorem dL_law__249 : decode cL_law_ 249 = .ok (.aload_n 2, 1) := by decide +kernel
theorem dL_law__250 : decode cL_law_ 250 = .ok (.invokevirtual 132, 3) := by decide +kernel
theorem dL_law__253 : decode cL_law_ 253 = .ok (.iload 5, 2) := by decide +kernel
theorem dL_law__255 : decode cL_law_ 255 = .ok (.if_icmp .eq 5, 3) := by decide +kernel
theorem dL_law__258 : decode cL_law_ 258 = .ok (.iconst 0, 1) := by decide +kernel
theorem dL_law__259 : decode cL_law_ 259 = .ok (.ireturn, 1) := by decide +kernel
theorem dL_law__260 : decode cL_law_ 260 = .ok (.iload 5, 2) := by decide +kernel
theorem dL_law__262 : decode cL_law_ 262 = .ok (.ifCond .ne 15, 3) := by decide +kernel
theorem dL_law__265 : decode cL_law_ 265 = .ok (.aload_n 3, 1) := by decide +kernel
theorem dL_law__266 : decode cL_law_ 266 = .ok (.iconst 0, 1) := by decide +kernel
theorem dL_law__267 : decode cL_law_ 267 = .ok (.laload, 1) := by decide +kernel
theorem dL_law__268 : decode cL_law_ 268 = .ok (.iload 6, 2) := by decide +kernel
theorem dL_law__270 : decode cL_law_ 270 = .ok (.i2l, 1) := by decide +kernel
theorem dL_law__271 : decode cL_law_ 271 = .ok (.lcmp, 1) := by decide +kernel
theorem dL_law__272 : decode cL_law_ 272 = .ok (.ifCond .eq 5, 3) := by decide +kernel
theorem dL_law__275 : decode cL_law_ 275 = .ok (.iconst 0, 1) := by decide +kernel
theorem dL_law__276 : decode cL_law_ 276 = .ok (.ireturn, 1) := by decide +kernel
theorem dL_law__277 : decode cL_law_ 277 = .ok (.goto 2324, 3) := by decide +kernel
theorem dL_law__280 : decode cL_law_ 280 = .ok (.aload_n 1, 1) := by decide +kernel
theorem dL_law__281 : decode cL_law_ 281 = .ok (.aload_n 0, 1) := by decide +kernel
theorem dL_law__282 : decode cL_law_ 282 = .ok (.iload 4, 2) := by decide +kernel
theorem dL_law__284 : decode cL_law_ 284 = .ok (.iconst 1, 1) := by decide +kernel
theorem dL_law__285 : decode cL_law_ 285 = .ok (.iadd, 1) := by decide +kernel
theorem dL_law__286 : decode cL_law_ 286 = .ok (.iaload, 1) := by decide +kernel
theorem dL_law__287 : decode cL_law_ 287 = .ok (.aload_n 0, 1) := by decide +kernel
theorem dL_law__288 : decode cL_law_ 288 = .ok (.iload 4, 2) := by decide +kernel
theorem dL_law__290 : decode cL_law_ 290 = .ok (.iconst 2, 1) := by decide +kernel
theorem dL_law__291 : decode cL_law_ 291 = .ok (.iadd, 1) := by decide +kernel
theorem dL_law__292 : decode cL_law_ 292 = .ok (.iaload, 1) := by decide +kernel
theorem dL_law__293 : decode cL_law_ 293 = .ok (.aload_n 0, 1) := by decide +kernel
theorem dL_law__294 : decode cL_law_ 294 = .ok (.iload 4, 2) := by decide +kernel
theorem dL_law__296 : decode cL_law_ 296 = .ok (.iconst 3, 1) := by decide +kernel
theorem dL_law__297 : decode cL_law_ 297 = .ok (.iadd, 1) := by decide +kernel
theorem dL_law__298 : decode cL_law_ 298 = .ok (.iaload, 1) := by decide +kernel
theorem dL_law__299 : decode cL_law_ 299 = .ok (.aload_n 0, 1) := by decide +kernel
theorem dL_law__300 : decode cL_law_ 300 = .ok (.iload 4, 2) := by decide +kernel
theorem dL_law__302 : decode cL_law_ 302 = .ok (.iconst 4, 1) := by decide +kernel
theorem dL_law__303 : decode cL_law_ 303 = .ok (.iadd, 1) := by decide +kernel
theorem dL_law__304 : decode cL_law_ 304 = .ok (.iaload, 1) := by decide +kernel
theorem dL_law__305 : decode cL_law_ 305 = .ok (.aload_n 3, 1) := by decide +kernel
theorem dL_law__306 : decode cL_law_ 306 = .ok (.invokestatic 136, 3) := by decide +kernel
theorem dL_law__309 : decode cL_law_ 309 = .ok (.istore 5, 2) := by decide +kernel
theorem dL_law__311 : decode cL_law_ 311 = .ok (.aload_n 2, 1) := by decide +kernel
theorem dL_law__312 : decode cL_law_ 312 = .ok (.aload_n 0, 1) := by decide +kernel
theorem dL_law__313 : decode cL_law_ 313 = .ok (.iload 4, 2) := by decide +kernel
theorem dL_law__315 : decode cL_law_ 315 = .ok (.iconst 1, 1) := by decide +kernel
theorem dL_law__316 : decode cL_law_ 316 = .ok (.iadd, 1) := by decide +kernel
theorem dL_law__317 : decode cL_law_ 317 = .ok (.iaload, 1) := by decide +kernel
theorem dL_law__318 : decode cL_law_ 318 = .ok (.aload_n 0, 1) := by decide +kernel
theorem dL_law__319 : decode cL_law_ 319 = .ok (.iload 4, 2) := by decide +kernel
theorem dL_law__321 : decode cL_law_ 321 = .ok (.iconst 2, 1) := by decide +kernel
theorem dL_law__322 : decode cL_law_ 322 = .ok (.iadd, 1) := by decide +kernel
theorem dL_law__323 : decode cL_law_ 323 = .ok (.iaload, 1) := by decide +kernel
theorem dL_law__324 : decode cL_law_ 324 = .ok (.aload_n 0, 1) := by decide +kernel
theorem dL_law__325 : decode cL_law_ 325 = .ok (.iload 4, 2) := by decide +kernel
theorem dL_law__327 : decode cL_law_ 327 = .ok (.iconst 3, 1) := by decide +kernel
theorem dL_law__328 : decode cL_law_ 328 = .ok (.iadd, 1) := by decide +kernel
theorem dL_law__329 : decode cL_law_ 329 = .ok (.iaload, 1) := by decide +kernel
theorem dL_law__330 : decode cL_law_ 330 = .ok (.aload_n 0, 1) := by decide +kernel
theorem dL_law__331 : decode cL_law_ 331 = .ok (.iload 4, 2) := by decide +kernel
theorem dL_law__333 : decode cL_law_ 333 = .ok (.iconst 4, 1) := by decide +kernel
theorem dL_law__334 : decode cL_law_ 334 = .ok (.iadd, 1) := by decide +kernel
theorem dL_law__335 : decode cL_law_ 335 = .ok (.iaload, 1) := by decide +kernel
theorem dL_law__336 : decode cL_law_ 336 = .ok (.invokevirtual 139, 3) := by decide +kernel
theorem dL_law__339 : decode cL_law_ 339 = .ok (.istore 6, 2) := by decide +kernel
theorem dL_law__341 : decode cL_law_ 341 = .ok (.aload_n 2, 1) := by decide +kernel
theorem dL_law__342 : decode cL_law_ 342 = .ok (.invokevirtual 132, 3) := by decide +kernel
theorem dL_law__345 : decode cL_law_ 345 = .ok (.iload 5, 2) := by decide +kernel
theorem dL_law__347 : decode cL_law_ 347 = .ok (.if_icmp .eq 5, 3) := by decide +kernel
theorem dL_law__350 : decode cL_law_ 350 = .ok (.iconst 0, 1) := by decide +kernel
theorem dL_law__351 : decode cL_law_ 351 = .ok (.ireturn, 1) := by decide +kernel
theorem dL_law__352 : decode cL_law_ 352 = .ok (.iload 5, 2) := by decide +kernel
theorem dL_law__354 : decode cL_law_ 354 = .ok (.ifCond .ne 15, 3) := by decide +kernel
theorem dL_law__357 : decode cL_law_ 357 = .ok (.aload_n 3, 1) := by decide +kernel
theorem dL_law__358 : decode cL_law_ 358 = .ok (.iconst 0, 1) := by decide +kernel
theorem dL_law__359 : decode cL_law_ 359 = .ok (.laload, 1) := by decide +kernel
theorem dL_law__360 : decode cL_law_ 360 = .ok (.iload 6, 2) := by decide +kernel
theorem dL_law__362 : decode cL_law_ 362 = .ok (.i2l, 1) := by decide +kernel
theorem dL_law__363 : decode cL_law_ 363 = .ok (.lcmp, 1) := by decide +kernel
theorem dL_law__364 : decode cL_law_ 364 = .ok (.ifCond .eq 5, 3) := by decide +kernel
theorem dL_law__367 : decode cL_law_ 367 = .ok (.iconst 0, 1) := by decide +kernel
theorem dL_law__368 : decode cL_law_ 368 = .ok (.ireturn, 1) := by decide +kernel
theorem dL_law__369 : decode cL_law_ 369 = .ok (.goto 2232, 3) := by decide +kernel
theorem dL_law__372 : decode cL_law_ 372 = .ok (.aload_n 1, 1) := by decide +kernel
theorem dL_law__373 : decode cL_law_ 373 = .ok (.aload_n 0, 1) := by decide +kernel
theorem dL_law__374 : decode cL_law_ 374 = .ok (.iload 4, 2) := by decide +kernel
theorem dL_law__376 : decode cL_law_ 376 = .ok (.iconst 1, 1) := by decide +kernel
theorem dL_law__377 : decode cL_law_ 377 = .ok (.iadd, 1) := by decide +kernel
theorem dL_law__378 : decode cL_law_ 378 = .ok (.iaload, 1) := by decide +kernel
theorem dL_law__379 : decode cL_law_ 379 = .ok (.aload_n 0, 1) := by decide +kernel
theorem dL_law__380 : decode cL_law_ 380 = .ok (.iload 4, 2) := by decide +kernel
theorem dL_law__382 : decode cL_law_ 382 = .ok (.iconst 2, 1) := by decide +kernel
theorem dL_law__383 : decode cL_law_ 383 = .ok (.iadd, 1) := by decide +kernel
theorem dL_law__384 : decode cL_law_ 384 = .ok (.iaload, 1) := by decide +kernel
theorem dL_law__385 : decode cL_law_ 385 = .ok (.aload_n 0, 1) := by decide +kernel
theorem dL_law__386 : decode cL_law_ 386 = .ok (.iload 4, 2) := by decide +kernel
theorem dL_law__388 : decode cL_law_ 388 = .ok (.iconst 3, 1) := by decide +kernel
theorem dL_law__389 : decode cL_law_ 389 = .ok (.iadd, 1) := by decide +kernel
theorem dL_law__390 : decode cL_law_ 390 = .ok (.iaload, 1) := by decide +kernel
theorem dL_law__391 : decode cL_law_ 391 = .ok (.aload_n 3, 1) := by decide +kernel
theorem dL_law__392 : decode cL_law_ 392 = .ok (.invokestatic 140, 3) := by decide +kernel
theorem dL_law__395 : decode cL_law_ 395 = .ok (.istore 5, 2) := by decide +kernel
theorem dL_law__397 : decode cL_law_ 397 = .ok (.aload_n 2, 1) := by decide +kernel
theorem dL_law__398 : decode cL_law_ 398 = .ok (.aload_n 0, 1) := by decide +kernel
theorem dL_law__399 : decode cL_law_ 399 = .ok (.iload 4, 2) := by decide +kernel
theorem dL_law__401 : decode cL_law_ 401 = .ok (.iconst 1, 1) := by decide +kernel
theorem dL_law__402 : decode cL_law_ 402 = .ok (.iadd, 1) := by decide +kernel
theorem dL_law__403 : decode cL_law_ 403 = .ok (.iaload, 1) := by decide +kernel
theorem dL_law__404 : decode cL_law_ 404 = .ok (.aload_n 0, 1) := by decide +kernel
theorem dL_law__405 : decode cL_law_ 405 = .ok (.iload 4, 2) := by decide +kernel
theorem dL_law__407 : decode cL_law_ 407 = .ok (.iconst 2, 1) := by decide +kernel
theorem dL_law__408 : decode cL_law_ 408 = .ok (.iadd, 1) := by decide +kernel
theorem dL_law__409 : decode cL_law_ 409 = .ok (.iaload, 1) := by decide +kernel
theorem dL_law__410 : decode cL_law_ 410 = .ok (.aload_n 0, 1) := by decide +kernel
theorem dL_law__411 : decode cL_law_ 411 = .ok (.iload 4, 2) := by decide +kernel
theorem dL_law__413 : decode cL_law_ 413 = .ok (.iconst 3, 1) := by decide +kernel
theorem dL_law__414 : decode cL_law_ 414 = .ok (.iadd, 1) := by decide +kernel
theorem dL_law__415 : decode cL_law_ 415 = .ok (.iaload, 1) := by decide +kernel
theorem dL_law__416 : decode cL_law_ 416 = .ok (.invokevirtual 143, 3) := by decide +kernel
theorem dL_law__419 : decode cL_law_ 419 = .ok (.istore 6, 2) := by decide +kernel
theorem dL_law__421 : decode cL_law_ 421 = .ok (.aload_n 2, 1) := by decide +kernel
theorem dL_law__422 : decode cL_law_ 422 = .ok (.invokevirtual 132, 3) := by decide +kernel
theorem dL_law__425 : decode cL_law_ 425 = .ok (.iload 5, 2) := by decide +kernel
theorem dL_law__427 : decode cL_law_ 427 = .ok (.if_icmp .eq 5, 3) := by decide +kernel
theorem dL_law__430 : decode cL_law_ 430 = .ok (.iconst 0, 1) := by decide +kernel
theorem dL_law__431 : decode cL_law_ 431 = .ok (.ireturn, 1) := by decide +kernel
theorem dL_law__432 : decode cL_law_ 432 = .ok (.iload 5, 2) := by decide +kernel
theorem dL_law__434 : decode cL_law_ 434 = .ok (.ifCond .ne 15, 3) := by decide +kernel
theorem dL_law__437 : decode cL_law_ 437 = .ok (.aload_n 3, 1) := by decide +kernel
theorem dL_law__438 : decode cL_law_ 438 = .ok (.iconst 0, 1) := by decide +kernel
theorem dL_law__439 : decode cL_law_ 439 = .ok (.laload, 1) := by decide +kernel
theorem dL_law__440 : decode cL_law_ 440 = .ok (.iload 6, 2) := by decide +kernel
theorem dL_law__442 : decode cL_law_ 442 = .ok (.i2l, 1) := by decide +kernel
theorem dL_law__443 : decode cL_law_ 443 = .ok (.lcmp, 1) := by decide +kernel
theorem dL_law__444 : decode cL_law_ 444 = .ok (.ifCond .eq 5, 3) := by decide +kernel
theorem dL_law__447 : decode cL_law_ 447 = .ok (.iconst 0, 1) := by decide +kernel
theorem dL_law__448 : decode cL_law_ 448 = .ok (.ireturn, 1) := by decide +kernel
theorem dL_law__449 : decode cL_law_ 449 = .ok (.goto 2152, 3) := by decide +kernel
theorem dL_law__452 : decode cL_law_ 452 = .ok (.aload_n 1, 1) := by decide +kernel
theorem dL_law__453 : decode cL_law_ 453 = .ok (.aload_n 0, 1) := by decide +kernel
theorem dL_law__454 : decode cL_law_ 454 = .ok (.iload 4, 2) := by decide +kernel
theorem dL_law__456 : decode cL_law_ 456 = .ok (.iconst 1, 1) := by decide +kernel
theorem dL_law__457 : decode cL_law_ 457 = .ok (.iadd, 1) := by decide +kernel
theorem dL_law__458 : decode cL_law_ 458 = .ok (.iaload, 1) := by decide +kernel
theorem dL_law__459 : decode cL_law_ 459 = .ok (.aload_n 0, 1) := by decide +kernel
theorem dL_law__460 : decode cL_law_ 460 = .ok (.iload 4, 2) := by decide +kernel
theorem dL_law__462 : decode cL_law_ 462 = .ok (.iconst 2, 1) := by decide +kernel
theorem dL_law__463 : decode cL_law_ 463 = .ok (.iadd, 1) := by decide +kernel
theorem dL_law__464 : decode cL_law_ 464 = .ok (.iaload, 1) := by decide +kernel
theorem dL_law__465 : decode cL_law_ 465 = .ok (.aload_n 3, 1) := by decide +kernel
theorem dL_law__466 : decode cL_law_ 466 = .ok (.invokestatic 144, 3) := by decide +kernel
theorem dL_law__469 : decode cL_law_ 469 = .ok (.istore 5, 2) := by decide +kernel
theorem dL_law__471 : decode cL_law_ 471 = .ok (.aload_n 2, 1) := by decide +kernel
theorem dL_law__472 : decode cL_law_ 472 = .ok (.aload_n 0, 1) := by decide +kernel
theorem dL_law__473 : decode cL_law_ 473 = .ok (.iload 4, 2) := by decide +kernel
theorem dL_law__475 : decode cL_law_ 475 = .ok (.iconst 1, 1) := by decide +kernel
theorem dL_law__476 : decode cL_law_ 476 = .ok (.iadd, 1) := by decide +kernel
theorem dL_law__477 : decode cL_law_ 477 = .ok (.iaload, 1) := by decide +kernel
theorem dL_law__478 : decode cL_law_ 478 = .ok (.aload_n 0, 1) := by decide +kernel
theorem dL_law__479 : decode cL_law_ 479 = .ok (.iload 4, 2) := by decide +kernel
theorem dL_law__481 : decode cL_law_ 481 = .ok (.iconst 2, 1) := by decide +kernel
theorem dL_law__482 : decode cL_law_ 482 = .ok (.iadd, 1) := by decide +kernel
theorem dL_law__483 : decode cL_law_ 483 = .ok (.iaload, 1) := by decide +kernel
theorem dL_law__484 : decode cL_law_ 484 = .ok (.invokevirtual 146, 3) := by decide +kernel
theorem dL_law__487 : decode cL_law_ 487 = .ok (.istore 6, 2) := by decide +kernel
theorem dL_law__489 : decode cL_law_ 489 = .ok (.aload_n 2, 1) := by decide +kernel
theorem dL_law__490 : decode cL_law_ 490 = .ok (.invokevirtual 132, 3) := by decide +kernel
theorem dL_law__493 : decode cL_law_ 493 = .ok (.iload 5, 2) := by decide +kernel
theorem dL_law__495 : decode cL_law_ 495 = .ok (.if_icmp .eq 5, 3) := by decide +kernel
theorem dL_law__498 : decode cL_law_ 498 = .ok (.iconst 0, 1) := by decide +kernel
theorem dL_law__499 : decode cL_law_ 499 = .ok (.ireturn, 1) := by decide +kernel
theorem dL_law__500 : decode cL_law_ 500 = .ok (.iload 5, 2) := by decide +kernel
theorem dL_law__502 : decode cL_law_ 502 = .ok (.ifCond .ne 15, 3) := by decide +kernel
theorem dL_law__505 : decode cL_law_ 505 = .ok (.aload_n 3, 1) := by decide +kernel
theorem dL_law__506 : decode cL_law_ 506 = .ok (.iconst 0, 1) := by decide +kernel
theorem dL_law__507 : decode cL_law_ 507 = .ok (.laload, 1) := by decide +kernel
theorem dL_law__508 : decode cL_law_ 508 = .ok (.iload 6, 2) := by decide +kernel
theorem dL_law__510 : decode cL_law_ 510 = .ok (.i2l, 1) := by decide +kernel
theorem dL_law__511 : decode cL_law_ 511 = .ok (.lcmp, 1) := by decide +kernel
theorem dL_law__512 : decode cL_law_ 512 = .ok (.ifCond .eq 5, 3) := by decide +kernel
theorem dL_law__515 : decode cL_law_ 515 = .ok (.iconst 0, 1) := by decide +kernel
theorem dL_law__516 : decode cL_law_ 516 = .ok (.ireturn, 1) := by decide +kernel
theorem dL_law__517 : decode cL_law_ 517 = .ok (.goto 2084, 3) := by decide +kernel
theorem dL_law__520 : decode cL_law_ 520 = .ok (.aload_n 1, 1) := by decide +kernel
theorem dL_law__521 : decode cL_law_ 521 = .ok (.aload_n 0, 1) := by decide +kernel
theorem dL_law__522 : decode cL_law_ 522 = .ok (.iload 4, 2) := by decide +kernel
theorem dL_law__524 : decode cL_law_ 524 = .ok (.iconst 1, 1) := by decide +kernel
theorem dL_law__525 : decode cL_law_ 525 = .ok (.iadd, 1) := by decide +kernel
theorem dL_law__526 : decode cL_law_ 526 = .ok (.iaload, 1) := by decide +kernel
theorem dL_law__527 : decode cL_law_ 527 = .ok (.aload_n 0, 1) := by decide +kernel
theorem dL_law__528 : decode cL_law_ 528 = .ok (.iload 4, 2) := by decide +kernel
theorem dL_law__530 : decode cL_law_ 530 = .ok (.iconst 2, 1) := by decide +kernel
theorem dL_law__531 : decode cL_law_ 531 = .ok (.iadd, 1) := by decide +kernel
theorem dL_law__532 : decode cL_law_ 532 = .ok (.iaload, 1) := by decide +kernel
theorem dL_law__533 : decode cL_law_ 533 = .ok (.aload_n 0, 1) := by decide +kernel
theorem dL_law__534 : decode cL_law_ 534 = .ok (.iload 4, 2) := by decide +kernel
theorem dL_law__536 : decode cL_law_ 536 = .ok (.iconst 3, 1) := by decide +kernel
theorem dL_law__537 : decode cL_law_ 537 = .ok (.iadd, 1) := by decide +kernel
theorem dL_law__538 : decode cL_law_ 538 = .ok (.iaload, 1) := by decide +kernel
theorem dL_law__539 : decode cL_law_ 539 = .ok (.aload_n 0, 1) := by decide +kernel
theorem dL_law__540 : decode cL_law_ 540 = .ok (.iload 4, 2) := by decide +kernel
theorem dL_law__542 : decode cL_law_ 542 = .ok (.iconst 4, 1) := by decide +kernel
theorem dL_law__543 : decode cL_law_ 543 = .ok (.iadd, 1) := by decide +kernel
theorem dL_law__544 : decode cL_law_ 544 = .ok (.iaload, 1) := by decide +kernel
theorem dL_law__545 : decode cL_law_ 545 = .ok (.aload_n 0, 1) := by decide +kernel
theorem dL_law__546 : decode cL_law_ 546 = .ok (.iload 4, 2) := by decide +kernel
theorem dL_law__548 : decode cL_law_ 548 = .ok (.iconst 5, 1) := by decide +kernel
theorem dL_law__549 : decode cL_law_ 549 = .ok (.iadd, 1) := by decide +kernel
theorem dL_law__550 : decode cL_law_ 550 = .ok (.iaload, 1) := by decide +kernel
theorem dL_law__551 : decode cL_law_ 551 = .ok (.invokevirtual 147, 3) := by decide +kernel
theorem dL_law__554 : decode cL_law_ 554 = .ok (.aload_n 2, 1) := by decide +kernel
theorem dL_law__555 : decode cL_law_ 555 = .ok (.aload_n 0, 1) := by decide +kernel
theorem dL_law__556 : decode cL_law_ 556 = .ok (.iload 4, 2) := by decide +kernel
theorem dL_law__558 : decode cL_law_ 558 = .ok (.iconst 1, 1) := by decide +kernel
theorem dL_law__559 : decode cL_law_ 559 = .ok (.iadd, 1) := by decide +kernel
theorem dL_law__560 : decode cL_law_ 560 = .ok (.iaload, 1) := by decide +kernel
theorem dL_law__561 : decode cL_law_ 561 = .ok (.aload_n 0, 1) := by decide +kernel
theorem dL_law__562 : decode cL_law_ 562 = .ok (.iload 4, 2) := by decide +kernel
theorem dL_law__564 : decode cL_law_ 564 = .ok (.iconst 2, 1) := by decide +kernel
theorem dL_law__565 : decode cL_law_ 565 = .ok (.iadd, 1) := by decide +kernel
theorem dL_law__566 : decode cL_law_ 566 = .ok (.iaload, 1) := by decide +kernel
theorem dL_law__567 : decode cL_law_ 567 = .ok (.aload_n 0, 1) := by decide +kernel
theorem dL_law__568 : decode cL_law_ 568 = .ok (.iload 4, 2) := by decide +kernel
theorem dL_law__570 : decode cL_law_ 570 = .ok (.iconst 3, 1) := by decide +kernel
theorem dL_law__571 : decode cL_law_ 571 = .ok (.iadd, 1) := by decide +kernel
theorem dL_law__572 : decode cL_law_ 572 = .ok (.iaload, 1) := by decide +kernel
theorem dL_law__573 : decode cL_law_ 573 = .ok (.aload_n 0, 1) := by decide +kernel
theorem dL_law__574 : decode cL_law_ 574 = .ok (.iload 4, 2) := by decide +kernel
theorem dL_law__576 : decode cL_law_ 576 = .ok (.iconst 4, 1) := by decide +kernel
theorem dL_law__577 : decode cL_law_ 577 = .ok (.iadd, 1) := by decide +kernel
theorem dL_law__578 : decode cL_law_ 578 = .ok (.iaload, 1) := by decide +kernel
theorem dL_law__579 : decode cL_law_ 579 = .ok (.aload_n 0, 1) := by decide +kernel
theorem dL_law__580 : decode cL_law_ 580 = .ok (.iload 4, 2) := by decide +kernel
theorem dL_law__582 : decode cL_law_ 582 = .ok (.iconst 5, 1) := by decide +kernel
theorem dL_law__583 : decode cL_law_ 583 = .ok (.iadd, 1) := by decide +kernel
theorem dL_law__584 : decode cL_law_ 584 = .ok (.iaload, 1) := by decide +kernel
theorem dL_law__585 : decode cL_law_ 585 = .ok (.invokevirtual 151, 3) := by decide +kernel
theorem dL_law__588 : decode cL_law_ 588 = .ok (.if_icmp .eq 2013, 3) := by decide +kernel
theorem dL_law__591 : decode cL_law_ 591 = .ok (.iconst 0, 1) := by decide +kernel
theorem dL_law__592 : decode cL_law_ 592 = .ok (.ireturn, 1) := by decide +kernel
theorem dL_law__593 : decode cL_law_ 593 = .ok (.aload_n 1, 1) := by decide +kernel
theorem dL_law__594 : decode cL_law_ 594 = .ok (.aload_n 0, 1) := by decide +kernel
theorem dL_law__595 : decode cL_law_ 595 = .ok (.iload 4, 2) := by decide +kernel
theorem dL_law__597 : decode cL_law_ 597 = .ok (.iconst 1, 1) := by decide +kernel
theorem dL_law__598 : decode cL_law_ 598 = .ok (.iadd, 1) := by decide +kernel
theorem dL_law__599 : decode cL_law_ 599 = .ok (.iaload, 1) := by decide +kernel
theorem dL_law__600 : decode cL_law_ 600 = .ok (.aload_n 0, 1) := by decide +kernel
theorem dL_law__601 : decode cL_law_ 601 = .ok (.iload 4, 2) := by decide +kernel
theorem dL_law__603 : decode cL_law_ 603 = .ok (.iconst 2, 1) := by decide +kernel
theorem dL_law__604 : decode cL_law_ 604 = .ok (.iadd, 1) := by decide +kernel
theorem dL_law__605 : decode cL_law_ 605 = .ok (.iaload, 1) := by decide +kernel
theorem dL_law__606 : decode cL_law_ 606 = .ok (.ifCond .eq 7, 3) := by decide +kernel
theorem dL_law__609 : decode cL_law_ 609 = .ok (.iconst 1, 1) := by decide +kernel
theorem dL_law__610 : decode cL_law_ 610 = .ok (.goto 4, 3) := by decide +kernel
theorem dL_law__613 : decode cL_law_ 613 = .ok (.iconst 0, 1) := by decide +kernel
theorem dL_law__614 : decode cL_law_ 614 = .ok (.aload_n 3, 1) := by decide +kernel
theorem dL_law__615 : decode cL_law_ 615 = .ok (.invokestatic 152, 3) := by decide +kernel
theorem dL_law__618 : decode cL_law_ 618 = .ok (.istore 5, 2) := by decide +kernel
theorem dL_law__620 : decode cL_law_ 620 = .ok (.aload_n 2, 1) := by decide +kernel
theorem dL_law__621 : decode cL_law_ 621 = .ok (.aload_n 0, 1) := by decide +kernel
theorem dL_law__622 : decode cL_law_ 622 = .ok (.iload 4, 2) := by decide +kernel
theorem dL_law__624 : decode cL_law_ 624 = .ok (.iconst 1, 1) := by decide +kernel
theorem dL_law__625 : decode cL_law_ 625 = .ok (.iadd, 1) := by decide +kernel
theorem dL_law__626 : decode cL_law_ 626 = .ok (.iaload, 1) := by decide +kernel
theorem dL_law__627 : decode cL_law_ 627 = .ok (.aload_n 0, 1) := by decide +kernel
theorem dL_law__628 : decode cL_law_ 628 = .ok (.iload 4, 2) := by decide +kernel
theorem dL_law__630 : decode cL_law_ 630 = .ok (.iconst 2, 1) := by decide +kernel
theorem dL_law__631 : decode cL_law_ 631 = .ok (.iadd, 1) := by decide +kernel
theorem dL_law__632 : decode cL_law_ 632 = .ok (.iaload, 1) := by decide +kernel
theorem dL_law__633 : decode cL_law_ 633 = .ok (.ifCond .eq 7, 3) := by decide +kernel
theorem dL_law__636 : decode cL_law_ 636 = .ok (.iconst 1, 1) := by decide +kernel
theorem dL_law__637 : decode cL_law_ 637 = .ok (.goto 4, 3) := by decide +kernel
theorem dL_law__640 : decode cL_law_ 640 = .ok (.iconst 0, 1) := by decide +kernel
theorem dL_law__641 : decode cL_law_ 641 = .ok (.invokevirtual 155, 3) := by decide +kernel
theorem dL_law__644 : decode cL_law_ 644 = .ok (.istore 6, 2) := by decide +kernel
theorem dL_law__646 : decode cL_law_ 646 = .ok (.aload_n 2, 1) := by decide +kernel
theorem dL_law__647 : decode cL_law_ 647 = .ok (.invokevirtual 132, 3) := by decide +kernel
theorem dL_law__650 : decode cL_law_ 650 = .ok (.iload 5, 2) := by decide +kernel
theorem dL_law__652 : decode cL_law_ 652 = .ok (.if_icmp .eq 5, 3) := by decide +kernel
theorem dL_law__655 : decode cL_law_ 655 = .ok (.iconst 0, 1) := by decide +kernel
theorem dL_law__656 : decode cL_law_ 656 = .ok (.ireturn, 1) := by decide +kernel
theorem dL_law__657 : decode cL_law_ 657 = .ok (.iload 5, 2) := by decide +kernel
theorem dL_law__659 : decode cL_law_ 659 = .ok (.ifCond .ne 15, 3) := by decide +kernel
theorem dL_law__662 : decode cL_law_ 662 = .ok (.aload_n 3, 1) := by decide +kernel
theorem dL_law__663 : decode cL_law_ 663 = .ok (.iconst 0, 1) := by decide +kernel
theorem dL_law__664 : decode cL_law_ 664 = .ok (.laload, 1) := by decide +kernel
theorem dL_law__665 : decode cL_law_ 665 = .ok (.iload 6, 2) := by decide +kernel
theorem dL_law__667 : decode cL_law_ 667 = .ok (.i2l, 1) := by decide +kernel
theorem dL_law__668 : decode cL_law_ 668 = .ok (.lcmp, 1) := by decide +kernel
theorem dL_law__669 : decode cL_law_ 669 = .ok (.ifCond .eq 5, 3) := by decide +kernel
theorem dL_law__672 : decode cL_law_ 672 = .ok (.iconst 0, 1) := by decide +kernel
theorem dL_law__673 : decode cL_law_ 673 = .ok (.ireturn, 1) := by decide +kernel
theorem dL_law__674 : decode cL_law_ 674 = .ok (.goto 1927, 3) := by decide +kernel
theorem dL_law__677 : decode cL_law_ 677 = .ok (.aload_n 1, 1) := by decide +kernel
theorem dL_law__678 : decode cL_law_ 678 = .ok (.invokevirtual 156, 3) := by decide +kernel
theorem dL_law__681 : decode cL_law_ 681 = .ok (.aload_n 2, 1) := by decide +kernel
theorem dL_law__682 : decode cL_law_ 682 = .ok (.invokevirtual 159, 3) := by decide +kernel
theorem dL_law__685 : decode cL_law_ 685 = .ok (.if_icmp .eq 1916, 3) := by decide +kernel
theorem dL_law__688 : decode cL_law_ 688 = .ok (.iconst 0, 1) := by decide +kernel
theorem dL_law__689 : decode cL_law_ 689 = .ok (.ireturn, 1) := by decide +kernel
theorem dL_law__690 : decode cL_law_ 690 = .ok (.aload_n 1, 1) := by decide +kernel
theorem dL_law__691 : decode cL_law_ 691 = .ok (.aload_n 0, 1) := by decide +kernel
theorem dL_law__692 : decode cL_law_ 692 = .ok (.iload 4, 2) := by decide +kernel
theorem dL_law__694 : decode cL_law_ 694 = .ok (.iconst 1, 1) := by decide +kernel
theorem dL_law__695 : decode cL_law_ 695 = .ok (.iadd, 1) := by decide +kernel
theorem dL_law__696 : decode cL_law_ 696 = .ok (.iaload, 1) := by decide +kernel
theorem dL_law__697 : decode cL_law_ 697 = .ok (.aload_n 0, 1) := by decide +kernel
theorem dL_law__698 : decode cL_law_ 698 = .ok (.iload 4, 2) := by decide +kernel
theorem dL_law__700 : decode cL_law_ 700 = .ok (.iconst 2, 1) := by decide +kernel
theorem dL_law__701 : decode cL_law_ 701 = .ok (.iadd, 1) := by decide +kernel
theorem dL_law__702 : decode cL_law_ 702 = .ok (.iaload, 1) := by decide +kernel
theorem dL_law__703 : decode cL_law_ 703 = .ok (.aload_n 0, 1) := by decide +kernel
theorem dL_law__704 : decode cL_law_ 704 = .ok (.iload 4, 2) := by decide +kernel
theorem dL_law__706 : decode cL_law_ 706 = .ok (.iconst 3, 1) := by decide +kernel
theorem dL_law__707 : decode cL_law_ 707 = .ok (.iadd, 1) := by decide +kernel
theorem dL_law__708 : decode cL_law_ 708 = .ok (.iaload, 1) := by decide +kernel
theorem dL_law__709 : decode cL_law_ 709 = .ok (.aload_n 0, 1) := by decide +kernel
theorem dL_law__710 : decode cL_law_ 710 = .ok (.iload 4, 2) := by decide +kernel
theorem dL_law__712 : decode cL_law_ 712 = .ok (.iconst 4, 1) := by decide +kernel
theorem dL_law__713 : decode cL_law_ 713 = .ok (.iadd, 1) := by decide +kernel
theorem dL_law__714 : decode cL_law_ 714 = .ok (.iaload, 1) := by decide +kernel
theorem dL_law__715 : decode cL_law_ 715 = .ok (.aload_n 3, 1) := by decide +kernel
theorem dL_law__716 : decode cL_law_ 716 = .ok (.invokestatic 160, 3) := by decide +kernel
theorem dL_law__719 : decode cL_law_ 719 = .ok (.istore 5, 2) := by decide +kernel
theorem dL_law__721 : decode cL_law_ 721 = .ok (.aload_n 2, 1) := by decide +kernel
theorem dL_law__722 : decode cL_law_ 722 = .ok (.aload_n 0, 1) := by decide +kernel
theorem dL_law__723 : decode cL_law_ 723 = .ok (.iload 4, 2) := by decide +kernel
theorem dL_law__725 : decode cL_law_ 725 = .ok (.iconst 1, 1) := by decide +kernel
theorem dL_law__726 : decode cL_law_ 726 = .ok (.iadd, 1) := by decide +kernel
theorem dL_law__727 : decode cL_law_ 727 = .ok (.iaload, 1) := by decide +kernel
theorem dL_law__728 : decode cL_law_ 728 = .ok (.aload_n 0, 1) := by decide +kernel
theorem dL_law__729 : decode cL_law_ 729 = .ok (.iload 4, 2) := by decide +kernel
theorem dL_law__731 : decode cL_law_ 731 = .ok (.iconst 2, 1) := by decide +kernel
theorem dL_law__732 : decode cL_law_ 732 = .ok (.iadd, 1) := by decide +kernel
theorem dL_law__733 : decode cL_law_ 733 = .ok (.iaload, 1) := by decide +kernel
theorem dL_law__734 : decode cL_law_ 734 = .ok (.aload_n 0, 1) := by decide +kernel
theorem dL_law__735 : decode cL_law_ 735 = .ok (.iload 4, 2) := by decide +kernel
theorem dL_law__737 : decode cL_law_ 737 = .ok (.iconst 3, 1) := by decide +kernel
theorem dL_law__738 : decode cL_law_ 738 = .ok (.iadd, 1) := by decide +kernel
theorem dL_law__739 : decode cL_law_ 739 = .ok (.iaload, 1) := by decide +kernel
theorem dL_law__740 : decode cL_law_ 740 = .ok (.aload_n 0, 1) := by decide +kernel
theorem dL_law__741 : decode cL_law_ 741 = .ok (.iload 4, 2) := by decide +kernel
theorem dL_law__743 : decode cL_law_ 743 = .ok (.iconst 4, 1) := by decide +kernel
theorem dL_law__744 : decode cL_law_ 744 = .ok (.iadd, 1) := by decide +kernel
theorem dL_law__745 : decode cL_law_ 745 = .ok (.iaload, 1) := by decide +kernel
theorem dL_law__746 : decode cL_law_ 746 = .ok (.invokevirtual 162, 3) := by decide +kernel
theorem dL_law__749 : decode cL_law_ 749 = .ok (.istore 6, 2) := by decide +kernel
theorem dL_law__751 : decode cL_law_ 751 = .ok (.aload_n 2, 1) := by decide +kernel
theorem dL_law__752 : decode cL_law_ 752 = .ok (.invokevirtual 132, 3) := by decide +kernel
theorem dL_law__755 : decode cL_law_ 755 = .ok (.iload 5, 2) := by decide +kernel
theorem dL_law__757 : decode cL_law_ 757 = .ok (.if_icmp .eq 5, 3) := by decide +kernel
theorem dL_law__760 : decode cL_law_ 760 = .ok (.iconst 0, 1) := by decide +kernel
theorem dL_law__761 : decode cL_law_ 761 = .ok (.ireturn, 1) := by decide +kernel
theorem dL_law__762 : decode cL_law_ 762 = .ok (.iload 5, 2) := by decide +kernel
theorem dL_law__764 : decode cL_law_ 764 = .ok (.ifCond .ne 15, 3) := by decide +kernel
theorem dL_law__767 : decode cL_law_ 767 = .ok (.aload_n 3, 1) := by decide +kernel
theorem dL_law__768 : decode cL_law_ 768 = .ok (.iconst 0, 1) := by decide +kernel
theorem dL_law__769 : decode cL_law_ 769 = .ok (.laload, 1) := by decide +kernel
theorem dL_law__770 : decode cL_law_ 770 = .ok (.iload 6, 2) := by decide +kernel
theorem dL_law__772 : decode cL_law_ 772 = .ok (.i2l, 1) := by decide +kernel
theorem dL_law__773 : decode cL_law_ 773 = .ok (.lcmp, 1) := by decide +kernel
theorem dL_law__774 : decode cL_law_ 774 = .ok (.ifCond .eq 5, 3) := by decide +kernel
theorem dL_law__777 : decode cL_law_ 777 = .ok (.iconst 0, 1) := by decide +kernel
theorem dL_law__778 : decode cL_law_ 778 = .ok (.ireturn, 1) := by decide +kernel
theorem dL_law__779 : decode cL_law_ 779 = .ok (.goto 1822, 3) := by decide +kernel
theorem dL_law__782 : decode cL_law_ 782 = .ok (.aload_n 1, 1) := by decide +kernel
theorem dL_law__783 : decode cL_law_ 783 = .ok (.aload_n 0, 1) := by decide +kernel
theorem dL_law__784 : decode cL_law_ 784 = .ok (.iload 4, 2) := by decide +kernel
theorem dL_law__786 : decode cL_law_ 786 = .ok (.iconst 1, 1) := by decide +kernel
theorem dL_law__787 : decode cL_law_ 787 = .ok (.iadd, 1) := by decide +kernel
theorem dL_law__788 : decode cL_law_ 788 = .ok (.iaload, 1) := by decide +kernel
theorem dL_law__789 : decode cL_law_ 789 = .ok (.ifCond .eq 7, 3) := by decide +kernel
theorem dL_law__792 : decode cL_law_ 792 = .ok (.iconst 1, 1) := by decide +kernel
theorem dL_law__793 : decode cL_law_ 793 = .ok (.goto 4, 3) := by decide +kernel
theorem dL_law__796 : decode cL_law_ 796 = .ok (.iconst 0, 1) := by decide +kernel
theorem dL_law__797 : decode cL_law_ 797 = .ok (.aload_n 0, 1) := by decide +kernel
theorem dL_law__798 : decode cL_law_ 798 = .ok (.iload 4, 2) := by decide +kernel
theorem dL_law__800 : decode cL_law_ 800 = .ok (.iconst 2, 1) := by decide +kernel
theorem dL_law__801 : decode cL_law_ 801 = .ok (.iadd, 1) := by decide +kernel
theorem dL_law__802 : decode cL_law_ 802 = .ok (.iaload, 1) := by decide +kernel
theorem dL_law__803 : decode cL_law_ 803 = .ok (.aload_n 3, 1) := by decide +kernel
theorem dL_law__804 : decode cL_law_ 804 = .ok (.invokestatic 163, 3) := by decide +kernel
theorem dL_law__807 : decode cL_law_ 807 = .ok (.istore 5, 2) := by decide +kernel
theorem dL_law__809 : decode cL_law_ 809 = .ok (.aload_n 2, 1) := by decide +kernel
theorem dL_law__810 : decode cL_law_ 810 = .ok (.aload_n 0, 1) := by decide +kernel
theorem dL_law__811 : decode cL_law_ 811 = .ok (.iload 4, 2) := by decide +kernel
theorem dL_law__813 : decode cL_law_ 813 = .ok (.iconst 1, 1) := by decide +kernel
theorem dL_law__814 : decode cL_law_ 814 = .ok (.iadd, 1) := by decide +kernel
theorem dL_law__815 : decode cL_law_ 815 = .ok (.iaload, 1) := by decide +kernel
theorem dL_law__816 : decode cL_law_ 816 = .ok (.ifCond .eq 7, 3) := by decide +kernel
theorem dL_law__819 : decode cL_law_ 819 = .ok (.iconst 1, 1) := by decide +kernel
theorem dL_law__820 : decode cL_law_ 820 = .ok (.goto 4, 3) := by decide +kernel
theorem dL_law__823 : decode cL_law_ 823 = .ok (.iconst 0, 1) := by decide +kernel
theorem dL_law__824 : decode cL_law_ 824 = .ok (.aload_n 0, 1) := by decide +kernel
theorem dL_law__825 : decode cL_law_ 825 = .ok (.iload 4, 2) := by decide +kernel
theorem dL_law__827 : decode cL_law_ 827 = .ok (.iconst 2, 1) := by decide +kernel
theorem dL_law__828 : decode cL_law_ 828 = .ok (.iadd, 1) := by decide +kernel
theorem dL_law__829 : decode cL_law_ 829 = .ok (.iaload, 1) := by decide +kernel
theorem dL_law__830 : decode cL_law_ 830 = .ok (.invokevirtual 166, 3) := by decide +kernel
theorem dL_law__833 : decode cL_law_ 833 = .ok (.istore 6, 2) := by decide +kernel
theorem dL_law__835 : decode cL_law_ 835 = .ok (.aload_n 2, 1) := by decide +kernel
theorem dL_law__836 : decode cL_law_ 836 = .ok (.invokevirtual 132, 3) := by decide +kernel
theorem dL_law__839 : decode cL_law_ 839 = .ok (.iload 5, 2) := by decide +kernel
theorem dL_law__841 : decode cL_law_ 841 = .ok (.if_icmp .eq 5, 3) := by decide +kernel
theorem dL_law__844 : decode cL_law_ 844 = .ok (.iconst 0, 1) := by decide +kernel
theorem dL_law__845 : decode cL_law_ 845 = .ok (.ireturn, 1) := by decide +kernel
theorem dL_law__846 : decode cL_law_ 846 = .ok (.iload 5, 2) := by decide +kernel
theorem dL_law__848 : decode cL_law_ 848 = .ok (.ifCond .ne 15, 3) := by decide +kernel
theorem dL_law__851 : decode cL_law_ 851 = .ok (.aload_n 3, 1) := by decide +kernel
theorem dL_law__852 : decode cL_law_ 852 = .ok (.iconst 0, 1) := by decide +kernel
theorem dL_law__853 : decode cL_law_ 853 = .ok (.laload, 1) := by decide +kernel
theorem dL_law__854 : decode cL_law_ 854 = .ok (.iload 6, 2) := by decide +kernel
theorem dL_law__856 : decode cL_law_ 856 = .ok (.i2l, 1) := by decide +kernel
theorem dL_law__857 : decode cL_law_ 857 = .ok (.lcmp, 1) := by decide +kernel
theorem dL_law__858 : decode cL_law_ 858 = .ok (.ifCond .eq 5, 3) := by decide +kernel
theorem dL_law__861 : decode cL_law_ 861 = .ok (.iconst 0, 1) := by decide +kernel
theorem dL_law__862 : decode cL_law_ 862 = .ok (.ireturn, 1) := by decide +kernel
theorem dL_law__863 : decode cL_law_ 863 = .ok (.goto 1738, 3) := by decide +kernel
theorem dL_law__866 : decode cL_law_ 866 = .ok (.aload_n 1, 1) := by decide +kernel
theorem dL_law__867 : decode cL_law_ 867 = .ok (.aload_n 0, 1) := by decide +kernel
theorem dL_law__868 : decode cL_law_ 868 = .ok (.iload 4, 2) := by decide +kernel
theorem dL_law__870 : decode cL_law_ 870 = .ok (.iconst 1, 1) := by decide +kernel
theorem dL_law__871 : decode cL_law_ 871 = .ok (.iadd, 1) := by decide +kernel
theorem dL_law__872 : decode cL_law_ 872 = .ok (.iaload, 1) := by decide +kernel
theorem dL_law__873 : decode cL_law_ 873 = .ok (.aload_n 3, 1) := by decide +kernel
theorem dL_law__874 : decode cL_law_ 874 = .ok (.invokestatic 167, 3) := by decide +kernel
theorem dL_law__877 : decode cL_law_ 877 = .ok (.istore 5, 2) := by decide +kernel
theorem dL_law__879 : decode cL_law_ 879 = .ok (.aload_n 2, 1) := by decide +kernel
theorem dL_law__880 : decode cL_law_ 880 = .ok (.aload_n 0, 1) := by decide +kernel
theorem dL_law__881 : decode cL_law_ 881 = .ok (.iload 4, 2) := by decide +kernel
theorem dL_law__883 : decode cL_law_ 883 = .ok (.iconst 1, 1) := by decide +kernel
theorem dL_law__884 : decode cL_law_ 884 = .ok (.iadd, 1) := by decide +kernel
theorem dL_law__885 : decode cL_law_ 885 = .ok (.iaload, 1) := by decide +kernel
theorem dL_law__886 : decode cL_law_ 886 = .ok (.invokevirtual 170, 3) := by decide +kernel
theorem dL_law__889 : decode cL_law_ 889 = .ok (.istore 6, 2) := by decide +kernel
theorem dL_law__891 : decode cL_law_ 891 = .ok (.aload_n 2, 1) := by decide +kernel
theorem dL_law__892 : decode cL_law_ 892 = .ok (.invokevirtual 132, 3) := by decide +kernel
theorem dL_law__895 : decode cL_law_ 895 = .ok (.iload 5, 2) := by decide +kernel
theorem dL_law__897 : decode cL_law_ 897 = .ok (.if_icmp .eq 5, 3) := by decide +kernel
theorem dL_law__900 : decode cL_law_ 900 = .ok (.iconst 0, 1) := by decide +kernel
theorem dL_law__901 : decode cL_law_ 901 = .ok (.ireturn, 1) := by decide +kernel
theorem dL_law__902 : decode cL_law_ 902 = .ok (.iload 5, 2) := by decide +kernel
theorem dL_law__904 : decode cL_law_ 904 = .ok (.ifCond .ne 15, 3) := by decide +kernel
theorem dL_law__907 : decode cL_law_ 907 = .ok (.aload_n 3, 1) := by decide +kernel
theorem dL_law__908 : decode cL_law_ 908 = .ok (.iconst 0, 1) := by decide +kernel
theorem dL_law__909 : decode cL_law_ 909 = .ok (.laload, 1) := by decide +kernel
theorem dL_law__910 : decode cL_law_ 910 = .ok (.iload 6, 2) := by decide +kernel
theorem dL_law__912 : decode cL_law_ 912 = .ok (.i2l, 1) := by decide +kernel
theorem dL_law__913 : decode cL_law_ 913 = .ok (.lcmp, 1) := by decide +kernel
theorem dL_law__914 : decode cL_law_ 914 = .ok (.ifCond .eq 5, 3) := by decide +kernel
theorem dL_law__917 : decode cL_law_ 917 = .ok (.iconst 0, 1) := by decide +kernel
theorem dL_law__918 : decode cL_law_ 918 = .ok (.ireturn, 1) := by decide +kernel
theorem dL_law__919 : decode cL_law_ 919 = .ok (.goto 1682, 3) := by decide +kernel
theorem dL_law__922 : decode cL_law_ 922 = .ok (.aload_n 1, 1) := by decide +kernel
theorem dL_law__923 : decode cL_law_ 923 = .ok (.aload_n 0, 1) := by decide +kernel
theorem dL_law__924 : decode cL_law_ 924 = .ok (.iload 4, 2) := by decide +kernel
theorem dL_law__926 : decode cL_law_ 926 = .ok (.iconst 1, 1) := by decide +kernel
theorem dL_law__927 : decode cL_law_ 927 = .ok (.iadd, 1) := by decide +kernel
theorem dL_law__928 : decode cL_law_ 928 = .ok (.iaload, 1) := by decide +kernel
theorem dL_law__929 : decode cL_law_ 929 = .ok (.aload_n 0, 1) := by decide +kernel
theorem dL_law__930 : decode cL_law_ 930 = .ok (.iload 4, 2) := by decide +kernel
theorem dL_law__932 : decode cL_law_ 932 = .ok (.iconst 2, 1) := by decide +kernel
theorem dL_law__933 : decode cL_law_ 933 = .ok (.iadd, 1) := by decide +kernel
theorem dL_law__934 : decode cL_law_ 934 = .ok (.iaload, 1) := by decide +kernel
theorem dL_law__935 : decode cL_law_ 935 = .ok (.aload_n 3, 1) := by decide +kernel
theorem dL_law__936 : decode cL_law_ 936 = .ok (.invokestatic 171, 3) := by decide +kernel
theorem dL_law__939 : decode cL_law_ 939 = .ok (.istore 5, 2) := by decide +kernel
theorem dL_law__941 : decode cL_law_ 941 = .ok (.aload_n 2, 1) := by decide +kernel
theorem dL_law__942 : decode cL_law_ 942 = .ok (.aload_n 0, 1) := by decide +kernel
theorem dL_law__943 : decode cL_law_ 943 = .ok (.iload 4, 2) := by decide +kernel
theorem dL_law__945 : decode cL_law_ 945 = .ok (.iconst 1, 1) := by decide +kernel
theorem dL_law__946 : decode cL_law_ 946 = .ok (.iadd, 1) := by decide +kernel
theorem dL_law__947 : decode cL_law_ 947 = .ok (.iaload, 1) := by decide +kernel
theorem dL_law__948 : decode cL_law_ 948 = .ok (.aload_n 0, 1) := by decide +kernel
theorem dL_law__949 : decode cL_law_ 949 = .ok (.iload 4, 2) := by decide +kernel
theorem dL_law__951 : decode cL_law_ 951 = .ok (.iconst 2, 1) := by decide +kernel
theorem dL_law__952 : decode cL_law_ 952 = .ok (.iadd, 1) := by decide +kernel
theorem dL_law__953 : decode cL_law_ 953 = .ok (.iaload, 1) := by decide +kernel
theorem dL_law__954 : decode cL_law_ 954 = .ok (.invokevirtual 173, 3) := by decide +kernel
theorem dL_law__957 : decode cL_law_ 957 = .ok (.lstore 6, 2) := by decide +kernel
theorem dL_law__959 : decode cL_law_ 959 = .ok (.aload_n 2, 1) := by decide +kernel
theorem dL_law__960 : decode cL_law_ 960 = .ok (.invokevirtual 132, 3) := by decide +kernel
theorem dL_law__963 : decode cL_law_ 963 = .ok (.iload 5, 2) := by decide +kernel
theorem dL_law__965 : decode cL_law_ 965 = .ok (.if_icmp .eq 5, 3) := by decide +kernel
theorem dL_law__968 : decode cL_law_ 968 = .ok (.iconst 0, 1) := by decide +kernel
theorem dL_law__969 : decode cL_law_ 969 = .ok (.ireturn, 1) := by decide +kernel
theorem dL_law__970 : decode cL_law_ 970 = .ok (.iload 5, 2) := by decide +kernel
theorem dL_law__972 : decode cL_law_ 972 = .ok (.ifCond .ne 14, 3) := by decide +kernel
theorem dL_law__975 : decode cL_law_ 975 = .ok (.aload_n 3, 1) := by decide +kernel
theorem dL_law__976 : decode cL_law_ 976 = .ok (.iconst 0, 1) := by decide +kernel
theorem dL_law__977 : decode cL_law_ 977 = .ok (.laload, 1) := by decide +kernel
theorem dL_law__978 : decode cL_law_ 978 = .ok (.lload 6, 2) := by decide +kernel
theorem dL_law__980 : decode cL_law_ 980 = .ok (.lcmp, 1) := by decide +kernel
theorem dL_law__981 : decode cL_law_ 981 = .ok (.ifCond .eq 5, 3) := by decide +kernel
theorem dL_law__984 : decode cL_law_ 984 = .ok (.iconst 0, 1) := by decide +kernel
theorem dL_law__985 : decode cL_law_ 985 = .ok (.ireturn, 1) := by decide +kernel
theorem dL_law__986 : decode cL_law_ 986 = .ok (.goto 1615, 3) := by decide +kernel
theorem dL_law__989 : decode cL_law_ 989 = .ok (.aload_n 1, 1) := by decide +kernel
theorem dL_law__990 : decode cL_law_ 990 = .ok (.aload_n 0, 1) := by decide +kernel
theorem dL_law__991 : decode cL_law_ 991 = .ok (.iload 4, 2) := by decide +kernel
theorem dL_law__993 : decode cL_law_ 993 = .ok (.iconst 1, 1) := by decide +kernel
theorem dL_law__994 : decode cL_law_ 994 = .ok (.iadd, 1) := by decide +kernel
theorem dL_law__995 : decode cL_law_ 995 = .ok (.iaload, 1) := by decide +kernel
theorem dL_law__996 : decode cL_law_ 996 = .ok (.aload_n 0, 1) := by decide +kernel
theorem dL_law__997 : decode cL_law_ 997 = .ok (.iload 4, 2) := by decide +kernel
theorem dL_law__999 : decode cL_law_ 999 = .ok (.iconst 2, 1) := by decide +kernel
theorem dL_law__1000 : decode cL_law_ 1000 = .ok (.iadd, 1) := by decide +kernel
theorem dL_law__1001 : decode cL_law_ 1001 = .ok (.iaload, 1) := by decide +kernel
theorem dL_law__1002 : decode cL_law_ 1002 = .ok (.aload_n 0, 1) := by decide +kernel
theorem dL_law__1003 : decode cL_law_ 1003 = .ok (.iload 4, 2) := by decide +kernel
theorem dL_law__1005 : decode cL_law_ 1005 = .ok (.iconst 3, 1) := by decide +kernel
theorem dL_law__1006 : decode cL_law_ 1006 = .ok (.iadd, 1) := by decide +kernel
theorem dL_law__1007 : decode cL_law_ 1007 = .ok (.iaload, 1) := by decide +kernel
theorem dL_law__1008 : decode cL_law_ 1008 = .ok (.aload_n 3, 1) := by decide +kernel
theorem dL_law__1009 : decode cL_law_ 1009 = .ok (.invokestatic 174, 3) := by decide +kernel
theorem dL_law__1012 : decode cL_law_ 1012 = .ok (.istore 5, 2) := by decide +kernel
theorem dL_law__1014 : decode cL_law_ 1014 = .ok (.aload_n 2, 1) := by decide +kernel
theorem dL_law__1015 : decode cL_law_ 1015 = .ok (.aload_n 0, 1) := by decide +kernel
theorem dL_law__1016 : decode cL_law_ 1016 = .ok (.iload 4, 2) := by decide +kernel
theorem dL_law__1018 : decode cL_law_ 1018 = .ok (.iconst 1, 1) := by decide +kernel
theorem dL_law__1019 : decode cL_law_ 1019 = .ok (.iadd, 1) := by decide +kernel
theorem dL_law__1020 : decode cL_law_ 1020 = .ok (.iaload, 1) := by decide +kernel
theorem dL_law__1021 : decode cL_law_ 1021 = .ok (.aload_n 0, 1) := by decide +kernel
theorem dL_law__1022 : decode cL_law_ 1022 = .ok (.iload 4, 2) := by decide +kernel
theorem dL_law__1024 : decode cL_law_ 1024 = .ok (.iconst 2, 1) := by decide +kernel
theorem dL_law__1025 : decode cL_law_ 1025 = .ok (.iadd, 1) := by decide +kernel
theorem dL_law__1026 : decode cL_law_ 1026 = .ok (.iaload, 1) := by decide +kernel
theorem dL_law__1027 : decode cL_law_ 1027 = .ok (.aload_n 0, 1) := by decide +kernel
theorem dL_law__1028 : decode cL_law_ 1028 = .ok (.iload 4, 2) := by decide +kernel
theorem dL_law__1030 : decode cL_law_ 1030 = .ok (.iconst 3, 1) := by decide +kernel
theorem dL_law__1031 : decode cL_law_ 1031 = .ok (.iadd, 1) := by decide +kernel
theorem dL_law__1032 : decode cL_law_ 1032 = .ok (.iaload, 1) := by decide +kernel
theorem dL_law__1033 : decode cL_law_ 1033 = .ok (.invokevirtual 176, 3) := by decide +kernel
theorem dL_law__1036 : decode cL_law_ 1036 = .ok (.lstore 6, 2) := by decide +kernel
theorem dL_law__1038 : decode cL_law_ 1038 = .ok (.aload_n 2, 1) := by decide +kernel
theorem dL_law__1039 : decode cL_law_ 1039 = .ok (.invokevirtual 132, 3) := by decide +kernel
theorem dL_law__1042 : decode cL_law_ 1042 = .ok (.iload 5, 2) := by decide +kernel
theorem dL_law__1044 : decode cL_law_ 1044 = .ok (.if_icmp .eq 5, 3) := by decide +kernel
theorem dL_law__1047 : decode cL_law_ 1047 = .ok (.iconst 0, 1) := by decide +kernel
theorem dL_law__1048 : decode cL_law_ 1048 = .ok (.ireturn, 1) := by decide +kernel
theorem dL_law__1049 : decode cL_law_ 1049 = .ok (.iload 5, 2) := by decide +kernel
theorem dL_law__1051 : decode cL_law_ 1051 = .ok (.ifCond .ne 14, 3) := by decide +kernel
theorem dL_law__1054 : decode cL_law_ 1054 = .ok (.aload_n 3, 1) := by decide +kernel
theorem dL_law__1055 : decode cL_law_ 1055 = .ok (.iconst 0, 1) := by decide +kernel
theorem dL_law__1056 : decode cL_law_ 1056 = .ok (.laload, 1) := by decide +kernel
theorem dL_law__1057 : decode cL_law_ 1057 = .ok (.lload 6, 2) := by decide +kernel
theorem dL_law__1059 : decode cL_law_ 1059 = .ok (.lcmp, 1) := by decide +kernel
theorem dL_law__1060 : decode cL_law_ 1060 = .ok (.ifCond .eq 5, 3) := by decide +kernel
theorem dL_law__1063 : decode cL_law_ 1063 = .ok (.iconst 0, 1) := by decide +kernel
theorem dL_law__1064 : decode cL_law_ 1064 = .ok (.ireturn, 1) := by decide +kernel
theorem dL_law__1065 : decode cL_law_ 1065 = .ok (.goto 1536, 3) := by decide +kernel
theorem dL_law__1068 : decode cL_law_ 1068 = .ok (.aload_n 1, 1) := by decide +kernel
theorem dL_law__1069 : decode cL_law_ 1069 = .ok (.aload_n 0, 1) := by decide +kernel
theorem dL_law__1070 : decode cL_law_ 1070 = .ok (.iload 4, 2) := by decide +kernel
theorem dL_law__1072 : decode cL_law_ 1072 = .ok (.iconst 1, 1) := by decide +kernel
theorem dL_law__1073 : decode cL_law_ 1073 = .ok (.iadd, 1) := by decide +kernel
theorem dL_law__1074 : decode cL_law_ 1074 = .ok (.iaload, 1) := by decide +kernel
theorem dL_law__1075 : decode cL_law_ 1075 = .ok (.aload_n 0, 1) := by decide +kernel
theorem dL_law__1076 : decode cL_law_ 1076 = .ok (.iload 4, 2) := by decide +kernel
theorem dL_law__1078 : decode cL_law_ 1078 = .ok (.iconst 2, 1) := by decide +kernel
theorem dL_law__1079 : decode cL_law_ 1079 = .ok (.iadd, 1) := by decide +kernel
theorem dL_law__1080 : decode cL_law_ 1080 = .ok (.iaload, 1) := by decide +kernel
theorem dL_law__1081 : decode cL_law_ 1081 = .ok (.aload_n 0, 1) := by decide +kernel
theorem dL_law__1082 : decode cL_law_ 1082 = .ok (.iload 4, 2) := by decide +kernel
theorem dL_law__1084 : decode cL_law_ 1084 = .ok (.iconst 3, 1) := by decide +kernel
theorem dL_law__1085 : decode cL_law_ 1085 = .ok (.iadd, 1) := by decide +kernel
theorem dL_law__1086 : decode cL_law_ 1086 = .ok (.iaload, 1) := by decide +kernel
theorem dL_law__1087 : decode cL_law_ 1087 = .ok (.aload_n 0, 1) := by decide +kernel
theorem dL_law__1088 : decode cL_law_ 1088 = .ok (.iload 4, 2) := by decide +kernel
theorem dL_law__1090 : decode cL_law_ 1090 = .ok (.iconst 4, 1) := by decide +kernel
theorem dL_law__1091 : decode cL_law_ 1091 = .ok (.iadd, 1) := by decide +kernel
theorem dL_law__1092 : decode cL_law_ 1092 = .ok (.iaload, 1) := by decide +kernel
theorem dL_law__1093 : decode cL_law_ 1093 = .ok (.aload_n 3, 1) := by decide +kernel
theorem dL_law__1094 : decode cL_law_ 1094 = .ok (.invokestatic 177, 3) := by decide +kernel
theorem dL_law__1097 : decode cL_law_ 1097 = .ok (.istore 5, 2) := by decide +kernel
theorem dL_law__1099 : decode cL_law_ 1099 = .ok (.aload_n 2, 1) := by decide +kernel
theorem dL_law__1100 : decode cL_law_ 1100 = .ok (.aload_n 0, 1) := by decide +kernel
theorem dL_law__1101 : decode cL_law_ 1101 = .ok (.iload 4, 2) := by decide +kernel
theorem dL_law__1103 : decode cL_law_ 1103 = .ok (.iconst 1, 1) := by decide +kernel
theorem dL_law__1104 : decode cL_law_ 1104 = .ok (.iadd, 1) := by decide +kernel
theorem dL_law__1105 : decode cL_law_ 1105 = .ok (.iaload, 1) := by decide +kernel
theorem dL_law__1106 : decode cL_law_ 1106 = .ok (.aload_n 0, 1) := by decide +kernel
theorem dL_law__1107 : decode cL_law_ 1107 = .ok (.iload 4, 2) := by decide +kernel
theorem dL_law__1109 : decode cL_law_ 1109 = .ok (.iconst 2, 1) := by decide +kernel
theorem dL_law__1110 : decode cL_law_ 1110 = .ok (.iadd, 1) := by decide +kernel
theorem dL_law__1111 : decode cL_law_ 1111 = .ok (.iaload, 1) := by decide +kernel
theorem dL_law__1112 : decode cL_law_ 1112 = .ok (.aload_n 0, 1) := by decide +kernel
theorem dL_law__1113 : decode cL_law_ 1113 = .ok (.iload 4, 2) := by decide +kernel
theorem dL_law__1115 : decode cL_law_ 1115 = .ok (.iconst 3, 1) := by decide +kernel
theorem dL_law__1116 : decode cL_law_ 1116 = .ok (.iadd, 1) := by decide +kernel
theorem dL_law__1117 : decode cL_law_ 1117 = .ok (.iaload, 1) := by decide +kernel
theorem dL_law__1118 : decode cL_law_ 1118 = .ok (.aload_n 0, 1) := by decide +kernel
theorem dL_law__1119 : decode cL_law_ 1119 = .ok (.iload 4, 2) := by decide +kernel
theorem dL_law__1121 : decode cL_law_ 1121 = .ok (.iconst 4, 1) := by decide +kernel
theorem dL_law__1122 : decode cL_law_ 1122 = .ok (.iadd, 1) := by decide +kernel
theorem dL_law__1123 : decode cL_law_ 1123 = .ok (.iaload, 1) := by decide +kernel
theorem dL_law__1124 : decode cL_law_ 1124 = .ok (.invokevirtual 179, 3) := by decide +kernel
theorem dL_law__1127 : decode cL_law_ 1127 = .ok (.lstore 6, 2) := by decide +kernel
theorem dL_law__1129 : decode cL_law_ 1129 = .ok (.aload_n 2, 1) := by decide +kernel
theorem dL_law__1130 : decode cL_law_ 1130 = .ok (.invokevirtual 132, 3) := by decide +kernel
theorem dL_law__1133 : decode cL_law_ 1133 = .ok (.iload 5, 2) := by decide +kernel
theorem dL_law__1135 : decode cL_law_ 1135 = .ok (.if_icmp .eq 5, 3) := by decide +kernel
theorem dL_law__1138 : decode cL_law_ 1138 = .ok (.iconst 0, 1) := by decide +kernel
theorem dL_law__1139 : decode cL_law_ 1139 = .ok (.ireturn, 1) := by decide +kernel
theorem dL_law__1140 : decode cL_law_ 1140 = .ok (.iload 5, 2) := by decide +kernel
theorem dL_law__1142 : decode cL_law_ 1142 = .ok (.ifCond .ne 14, 3) := by decide +kernel
theorem dL_law__1145 : decode cL_law_ 1145 = .ok (.aload_n 3, 1) := by decide +kernel
theorem dL_law__1146 : decode cL_law_ 1146 = .ok (.iconst 0, 1) := by decide +kernel
theorem dL_law__1147 : decode cL_law_ 1147 = .ok (.laload, 1) := by decide +kernel
theorem dL_law__1148 : decode cL_law_ 1148 = .ok (.lload 6, 2) := by decide +kernel
theorem dL_law__1150 : decode cL_law_ 1150 = .ok (.lcmp, 1) := by decide +kernel
theorem dL_law__1151 : decode cL_law_ 1151 = .ok (.ifCond .eq 5, 3) := by decide +kernel
theorem dL_law__1154 : decode cL_law_ 1154 = .ok (.iconst 0, 1) := by decide +kernel
theorem dL_law__1155 : decode cL_law_ 1155 = .ok (.ireturn, 1) := by decide +kernel
theorem dL_law__1156 : decode cL_law_ 1156 = .ok (.goto 1445, 3) := by decide +kernel
theorem dL_law__1159 : decode cL_law_ 1159 = .ok (.aload_n 1, 1) := by decide +kernel
theorem dL_law__1160 : decode cL_law_ 1160 = .ok (.aload_n 0, 1) := by decide +kernel
theorem dL_law__1161 : decode cL_law_ 1161 = .ok (.iload 4, 2) := by decide +kernel
theorem dL_law__1163 : decode cL_law_ 1163 = .ok (.iconst 1, 1) := by decide +kernel
theorem dL_law__1164 : decode cL_law_ 1164 = .ok (.iadd, 1) := by decide +kernel
theorem dL_law__1165 : decode cL_law_ 1165 = .ok (.iaload, 1) := by decide +kernel
theorem dL_law__1166 : decode cL_law_ 1166 = .ok (.aload_n 0, 1) := by decide +kernel
theorem dL_law__1167 : decode cL_law_ 1167 = .ok (.iload 4, 2) := by decide +kernel
theorem dL_law__1169 : decode cL_law_ 1169 = .ok (.iconst 2, 1) := by decide +kernel
theorem dL_law__1170 : decode cL_law_ 1170 = .ok (.iadd, 1) := by decide +kernel
theorem dL_law__1171 : decode cL_law_ 1171 = .ok (.iaload, 1) := by decide +kernel
theorem dL_law__1172 : decode cL_law_ 1172 = .ok (.aload_n 0, 1) := by decide +kernel
theorem dL_law__1173 : decode cL_law_ 1173 = .ok (.iload 4, 2) := by decide +kernel
theorem dL_law__1175 : decode cL_law_ 1175 = .ok (.iconst 3, 1) := by decide +kernel
theorem dL_law__1176 : decode cL_law_ 1176 = .ok (.iadd, 1) := by decide +kernel
theorem dL_law__1177 : decode cL_law_ 1177 = .ok (.iaload, 1) := by decide +kernel
theorem dL_law__1178 : decode cL_law_ 1178 = .ok (.aload_n 0, 1) := by decide +kernel
theorem dL_law__1179 : decode cL_law_ 1179 = .ok (.iload 4, 2) := by decide +kernel
theorem dL_law__1181 : decode cL_law_ 1181 = .ok (.iconst 4, 1) := by decide +kernel
theorem dL_law__1182 : decode cL_law_ 1182 = .ok (.iadd, 1) := by decide +kernel
theorem dL_law__1183 : decode cL_law_ 1183 = .ok (.iaload, 1) := by decide +kernel
theorem dL_law__1184 : decode cL_law_ 1184 = .ok (.aload_n 3, 1) := by decide +kernel
theorem dL_law__1185 : decode cL_law_ 1185 = .ok (.invokestatic 180, 3) := by decide +kernel
theorem dL_law__1188 : decode cL_law_ 1188 = .ok (.istore 5, 2) := by decide +kernel
theorem dL_law__1190 : decode cL_law_ 1190 = .ok (.aload_n 2, 1) := by decide +kernel
theorem dL_law__1191 : decode cL_law_ 1191 = .ok (.aload_n 0, 1) := by decide +kernel
theorem dL_law__1192 : decode cL_law_ 1192 = .ok (.iload 4, 2) := by decide +kernel
theorem dL_law__1194 : decode cL_law_ 1194 = .ok (.iconst 1, 1) := by decide +kernel
theorem dL_law__1195 : decode cL_law_ 1195 = .ok (.iadd, 1) := by decide +kernel
theorem dL_law__1196 : decode cL_law_ 1196 = .ok (.iaload, 1) := by decide +kernel
theorem dL_law__1197 : decode cL_law_ 1197 = .ok (.aload_n 0, 1) := by decide +kernel
theorem dL_law__1198 : decode cL_law_ 1198 = .ok (.iload 4, 2) := by decide +kernel
theorem dL_law__1200 : decode cL_law_ 1200 = .ok (.iconst 2, 1) := by decide +kernel
theorem dL_law__1201 : decode cL_law_ 1201 = .ok (.iadd, 1) := by decide +kernel
theorem dL_law__1202 : decode cL_law_ 1202 = .ok (.iaload, 1) := by decide +kernel
theorem dL_law__1203 : decode cL_law_ 1203 = .ok (.aload_n 0, 1) := by decide +kernel
theorem dL_law__1204 : decode cL_law_ 1204 = .ok (.iload 4, 2) := by decide +kernel
theorem dL_law__1206 : decode cL_law_ 1206 = .ok (.iconst 3, 1) := by decide +kernel
theorem dL_law__1207 : decode cL_law_ 1207 = .ok (.iadd, 1) := by decide +kernel
theorem dL_law__1208 : decode cL_law_ 1208 = .ok (.iaload, 1) := by decide +kernel
theorem dL_law__1209 : decode cL_law_ 1209 = .ok (.aload_n 0, 1) := by decide +kernel
theorem dL_law__1210 : decode cL_law_ 1210 = .ok (.iload 4, 2) := by decide +kernel
theorem dL_law__1212 : decode cL_law_ 1212 = .ok (.iconst 4, 1) := by decide +kernel
theorem dL_law__1213 : decode cL_law_ 1213 = .ok (.iadd, 1) := by decide +kernel
theorem dL_law__1214 : decode cL_law_ 1214 = .ok (.iaload, 1) := by decide +kernel
theorem dL_law__1215 : decode cL_law_ 1215 = .ok (.invokevirtual 182, 3) := by decide +kernel
theorem dL_law__1218 : decode cL_law_ 1218 = .ok (.istore 6, 2) := by decide +kernel
theorem dL_law__1220 : decode cL_law_ 1220 = .ok (.aload_n 2, 1) := by decide +kernel
theorem dL_law__1221 : decode cL_law_ 1221 = .ok (.invokevirtual 132, 3) := by decide +kernel
theorem dL_law__1224 : decode cL_law_ 1224 = .ok (.iload 5, 2) := by decide +kernel
theorem dL_law__1226 : decode cL_law_ 1226 = .ok (.if_icmp .eq 5, 3) := by decide +kernel
theorem dL_law__1229 : decode cL_law_ 1229 = .ok (.iconst 0, 1) := by decide +kernel
theorem dL_law__1230 : decode cL_law_ 1230 = .ok (.ireturn, 1) := by decide +kernel
theorem dL_law__1231 : decode cL_law_ 1231 = .ok (.iload 5, 2) := by decide +kernel
theorem dL_law__1233 : decode cL_law_ 1233 = .ok (.ifCond .ne 15, 3) := by decide +kernel
theorem dL_law__1236 : decode cL_law_ 1236 = .ok (.aload_n 3, 1) := by decide +kernel
theorem dL_law__1237 : decode cL_law_ 1237 = .ok (.iconst 0, 1) := by decide +kernel
theorem dL_law__1238 : decode cL_law_ 1238 = .ok (.laload, 1) := by decide +kernel
theorem dL_law__1239 : decode cL_law_ 1239 = .ok (.iload 6, 2) := by decide +kernel
theorem dL_law__1241 : decode cL_law_ 1241 = .ok (.i2l, 1) := by decide +kernel
theorem dL_law__1242 : decode cL_law_ 1242 = .ok (.lcmp, 1) := by decide +kernel
theorem dL_law__1243 : decode cL_law_ 1243 = .ok (.ifCond .eq 5, 3) := by decide +kernel
theorem dL_law__1246 : decode cL_law_ 1246 = .ok (.iconst 0, 1) := by decide +kernel
theorem dL_law__1247 : decode cL_law_ 1247 = .ok (.ireturn, 1) := by decide +kernel
theorem dL_law__1248 : decode cL_law_ 1248 = .ok (.goto 1353, 3) := by decide +kernel
theorem dL_law__1251 : decode cL_law_ 1251 = .ok (.aload_n 1, 1) := by decide +kernel
theorem dL_law__1252 : decode cL_law_ 1252 = .ok (.aload_n 0, 1) := by decide +kernel
theorem dL_law__1253 : decode cL_law_ 1253 = .ok (.iload 4, 2) := by decide +kernel
theorem dL_law__1255 : decode cL_law_ 1255 = .ok (.iconst 1, 1) := by decide +kernel
theorem dL_law__1256 : decode cL_law_ 1256 = .ok (.iadd, 1) := by decide +kernel
theorem dL_law__1257 : decode cL_law_ 1257 = .ok (.iaload, 1) := by decide +kernel
theorem dL_law__1258 : decode cL_law_ 1258 = .ok (.aload_n 3, 1) := by decide +kernel
theorem dL_law__1259 : decode cL_law_ 1259 = .ok (.invokestatic 183, 3) := by decide +kernel
theorem dL_law__1262 : decode cL_law_ 1262 = .ok (.istore 5, 2) := by decide +kernel
theorem dL_law__1264 : decode cL_law_ 1264 = .ok (.aload_n 2, 1) := by decide +kernel
theorem dL_law__1265 : decode cL_law_ 1265 = .ok (.aload_n 0, 1) := by decide +kernel
theorem dL_law__1266 : decode cL_law_ 1266 = .ok (.iload 4, 2) := by decide +kernel
theorem dL_law__1268 : decode cL_law_ 1268 = .ok (.iconst 1, 1) := by decide +kernel
theorem dL_law__1269 : decode cL_law_ 1269 = .ok (.iadd, 1) := by decide +kernel
theorem dL_law__1270 : decode cL_law_ 1270 = .ok (.iaload, 1) := by decide +kernel
theorem dL_law__1271 : decode cL_law_ 1271 = .ok (.invokevirtual 185, 3) := by decide +kernel
theorem dL_law__1274 : decode cL_law_ 1274 = .ok (.lstore 6, 2) := by decide +kernel
theorem dL_law__1276 : decode cL_law_ 1276 = .ok (.aload_n 2, 1) := by decide +kernel
theorem dL_law__1277 : decode cL_law_ 1277 = .ok (.invokevirtual 132, 3) := by decide +kernel
theorem dL_law__1280 : decode cL_law_ 1280 = .ok (.iload 5, 2) := by decide +kernel
theorem dL_law__1282 : decode cL_law_ 1282 = .ok (.if_icmp .eq 5, 3) := by decide +kernel
theorem dL_law__1285 : decode cL_law_ 1285 = .ok (.iconst 0, 1) := by decide +kernel
theorem dL_law__1286 : decode cL_law_ 1286 = .ok (.ireturn, 1) := by decide +kernel
theorem dL_law__1287 : decode cL_law_ 1287 = .ok (.iload 5, 2) := by decide +kernel
theorem dL_law__1289 : decode cL_law_ 1289 = .ok (.ifCond .ne 14, 3) := by decide +kernel
theorem dL_law__1292 : decode cL_law_ 1292 = .ok (.aload_n 3, 1) := by decide +kernel
theorem dL_law__1293 : decode cL_law_ 1293 = .ok (.iconst 0, 1) := by decide +kernel
theorem dL_law__1294 : decode cL_law_ 1294 = .ok (.laload, 1) := by decide +kernel
theorem dL_law__1295 : decode cL_law_ 1295 = .ok (.lload 6, 2) := by decide +kernel
theorem dL_law__1297 : decode cL_law_ 1297 = .ok (.lcmp, 1) := by decide +kernel
theorem dL_law__1298 : decode cL_law_ 1298 = .ok (.ifCond .eq 5, 3) := by decide +kernel
theorem dL_law__1301 : decode cL_law_ 1301 = .ok (.iconst 0, 1) := by decide +kernel
theorem dL_law__1302 : decode cL_law_ 1302 = .ok (.ireturn, 1) := by decide +kernel
theorem dL_law__1303 : decode cL_law_ 1303 = .ok (.goto 1298, 3) := by decide +kernel
theorem dL_law__1306 : decode cL_law_ 1306 = .ok (.aload_n 1, 1) := by decide +kernel
theorem dL_law__1307 : decode cL_law_ 1307 = .ok (.aload_n 0, 1) := by decide +kernel
theorem dL_law__1308 : decode cL_law_ 1308 = .ok (.iload 4, 2) := by decide +kernel
theorem dL_law__1310 : decode cL_law_ 1310 = .ok (.iconst 1, 1) := by decide +kernel
theorem dL_law__1311 : decode cL_law_ 1311 = .ok (.iadd, 1) := by decide +kernel
theorem dL_law__1312 : decode cL_law_ 1312 = .ok (.iaload, 1) := by decide +kernel
theorem dL_law__1313 : decode cL_law_ 1313 = .ok (.aload_n 0, 1) := by decide +kernel
theorem dL_law__1314 : decode cL_law_ 1314 = .ok (.iload 4, 2) := by decide +kernel
theorem dL_law__1316 : decode cL_law_ 1316 = .ok (.iconst 2, 1) := by decide +kernel
theorem dL_law__1317 : decode cL_law_ 1317 = .ok (.iadd, 1) := by decide +kernel
theorem dL_law__1318 : decode cL_law_ 1318 = .ok (.iaload, 1) := by decide +kernel
theorem dL_law__1319 : decode cL_law_ 1319 = .ok (.aload_n 3, 1) := by decide +kernel
theorem dL_law__1320 : decode cL_law_ 1320 = .ok (.invokestatic 186, 3) := by decide +kernel
theorem dL_law__1323 : decode cL_law_ 1323 = .ok (.istore 5, 2) := by decide +kernel
theorem dL_law__1325 : decode cL_law_ 1325 = .ok (.aload_n 2, 1) := by decide +kernel
theorem dL_law__1326 : decode cL_law_ 1326 = .ok (.aload_n 0, 1) := by decide +kernel
theorem dL_law__1327 : decode cL_law_ 1327 = .ok (.iload 4, 2) := by decide +kernel
theorem dL_law__1329 : decode cL_law_ 1329 = .ok (.iconst 1, 1) := by decide +kernel
theorem dL_law__1330 : decode cL_law_ 1330 = .ok (.iadd, 1) := by decide +kernel
theorem dL_law__1331 : decode cL_law_ 1331 = .ok (.iaload, 1) := by decide +kernel
theorem dL_law__1332 : decode cL_law_ 1332 = .ok (.aload_n 0, 1) := by decide +kernel
theorem dL_law__1333 : decode cL_law_ 1333 = .ok (.iload 4, 2) := by decide +kernel
theorem dL_law__1335 : decode cL_law_ 1335 = .ok (.iconst 2, 1) := by decide +kernel
theorem dL_law__1336 : decode cL_law_ 1336 = .ok (.iadd, 1) := by decide +kernel
theorem dL_law__1337 : decode cL_law_ 1337 = .ok (.iaload, 1) := by decide +kernel
theorem dL_law__1338 : decode cL_law_ 1338 = .ok (.invokevirtual 188, 3) := by decide +kernel
theorem dL_law__1341 : decode cL_law_ 1341 = .ok (.istore 6, 2) := by decide +kernel
theorem dL_law__1343 : decode cL_law_ 1343 = .ok (.aload_n 2, 1) := by decide +kernel
theorem dL_law__1344 : decode cL_law_ 1344 = .ok (.invokevirtual 132, 3) := by decide +kernel
theorem dL_law__1347 : decode cL_law_ 1347 = .ok (.iload 5, 2) := by decide +kernel
theorem dL_law__1349 : decode cL_law_ 1349 = .ok (.if_icmp .eq 5, 3) := by decide +kernel
theorem dL_law__1352 : decode cL_law_ 1352 = .ok (.iconst 0, 1) := by decide +kernel
theorem dL_law__1353 : decode cL_law_ 1353 = .ok (.ireturn, 1) := by decide +kernel
theorem dL_law__1354 : decode cL_law_ 1354 = .ok (.iload 5, 2) := by decide +kernel
theorem dL_law__1356 : decode cL_law_ 1356 = .ok (.ifCond .ne 15, 3) := by decide +kernel
theorem dL_law__1359 : decode cL_law_ 1359 = .ok (.aload_n 3, 1) := by decide +kernel
theorem dL_law__1360 : decode cL_law_ 1360 = .ok (.iconst 0, 1) := by decide +kernel
theorem dL_law__1361 : decode cL_law_ 1361 = .ok (.laload, 1) := by decide +kernel
theorem dL_law__1362 : decode cL_law_ 1362 = .ok (.iload 6, 2) := by decide +kernel
theorem dL_law__1364 : decode cL_law_ 1364 = .ok (.i2l, 1) := by decide +kernel
theorem dL_law__1365 : decode cL_law_ 1365 = .ok (.lcmp, 1) := by decide +kernel
theorem dL_law__1366 : decode cL_law_ 1366 = .ok (.ifCond .eq 5, 3) := by decide +kernel
theorem dL_law__1369 : decode cL_law_ 1369 = .ok (.iconst 0, 1) := by decide +kernel
theorem dL_law__1370 : decode cL_law_ 1370 = .ok (.ireturn, 1) := by decide +kernel
theorem dL_law__1371 : decode cL_law_ 1371 = .ok (.goto 1230, 3) := by decide +kernel
theorem dL_law__1374 : decode cL_law_ 1374 = .ok (.aload_n 1, 1) := by decide +kernel
theorem dL_law__1375 : decode cL_law_ 1375 = .ok (.aload_n 0, 1) := by decide +kernel
theorem dL_law__1376 : decode cL_law_ 1376 = .ok (.iload 4, 2) := by decide +kernel
theorem dL_law__1378 : decode cL_law_ 1378 = .ok (.iconst 1, 1) := by decide +kernel
theorem dL_law__1379 : decode cL_law_ 1379 = .ok (.iadd, 1) := by decide +kernel
theorem dL_law__1380 : decode cL_law_ 1380 = .ok (.iaload, 1) := by decide +kernel
theorem dL_law__1381 : decode cL_law_ 1381 = .ok (.aload_n 3, 1) := by decide +kernel
theorem dL_law__1382 : decode cL_law_ 1382 = .ok (.invokestatic 189, 3) := by decide +kernel
theorem dL_law__1385 : decode cL_law_ 1385 = .ok (.istore 5, 2) := by decide +kernel
theorem dL_law__1387 : decode cL_law_ 1387 = .ok (.aload_n 2, 1) := by decide +kernel
theorem dL_law__1388 : decode cL_law_ 1388 = .ok (.aload_n 0, 1) := by decide +kernel
theorem dL_law__1389 : decode cL_law_ 1389 = .ok (.iload 4, 2) := by decide +kernel
theorem dL_law__1391 : decode cL_law_ 1391 = .ok (.iconst 1, 1) := by decide +kernel
theorem dL_law__1392 : decode cL_law_ 1392 = .ok (.iadd, 1) := by decide +kernel
theorem dL_law__1393 : decode cL_law_ 1393 = .ok (.iaload, 1) := by decide +kernel
theorem dL_law__1394 : decode cL_law_ 1394 = .ok (.invokevirtual 191, 3) := by decide +kernel
theorem dL_law__1397 : decode cL_law_ 1397 = .ok (.istore 6, 2) := by decide +kernel
theorem dL_law__1399 : decode cL_law_ 1399 = .ok (.aload_n 2, 1) := by decide +kernel
theorem dL_law__1400 : decode cL_law_ 1400 = .ok (.invokevirtual 132, 3) := by decide +kernel
theorem dL_law__1403 : decode cL_law_ 1403 = .ok (.iload 5, 2) := by decide +kernel
theorem dL_law__1405 : decode cL_law_ 1405 = .ok (.if_icmp .eq 5, 3) := by decide +kernel
theorem dL_law__1408 : decode cL_law_ 1408 = .ok (.iconst 0, 1) := by decide +kernel
theorem dL_law__1409 : decode cL_law_ 1409 = .ok (.ireturn, 1) := by decide +kernel
theorem dL_law__1410 : decode cL_law_ 1410 = .ok (.iload 5, 2) := by decide +kernel
theorem dL_law__1412 : decode cL_law_ 1412 = .ok (.ifCond .ne 15, 3) := by decide +kernel
theorem dL_law__1415 : decode cL_law_ 1415 = .ok (.aload_n 3, 1) := by decide +kernel
theorem dL_law__1416 : decode cL_law_ 1416 = .ok (.iconst 0, 1) := by decide +kernel
theorem dL_law__1417 : decode cL_law_ 1417 = .ok (.laload, 1) := by decide +kernel
theorem dL_law__1418 : decode cL_law_ 1418 = .ok (.iload 6, 2) := by decide +kernel
theorem dL_law__1420 : decode cL_law_ 1420 = .ok (.i2l, 1) := by decide +kernel
theorem dL_law__1421 : decode cL_law_ 1421 = .ok (.lcmp, 1) := by decide +kernel
theorem dL_law__1422 : decode cL_law_ 1422 = .ok (.ifCond .eq 5, 3) := by decide +kernel
theorem dL_law__1425 : decode cL_law_ 1425 = .ok (.iconst 0, 1) := by decide +kernel
theorem dL_law__1426 : decode cL_law_ 1426 = .ok (.ireturn, 1) := by decide +kernel
theorem dL_law__1427 : decode cL_law_ 1427 = .ok (.goto 1174, 3) := by decide +kernel
theorem dL_law__1430 : decode cL_law_ 1430 = .ok (.aload_n 1, 1) := by decide +kernel
theorem dL_law__1431 : decode cL_law_ 1431 = .ok (.aload_n 0, 1) := by decide +kernel
theorem dL_law__1432 : decode cL_law_ 1432 = .ok (.iload 4, 2) := by decide +kernel
theorem dL_law__1434 : decode cL_law_ 1434 = .ok (.iconst 1, 1) := by decide +kernel
theorem dL_law__1435 : decode cL_law_ 1435 = .ok (.iadd, 1) := by decide +kernel
theorem dL_law__1436 : decode cL_law_ 1436 = .ok (.iaload, 1) := by decide +kernel
theorem dL_law__1437 : decode cL_law_ 1437 = .ok (.aload_n 0, 1) := by decide +kernel
theorem dL_law__1438 : decode cL_law_ 1438 = .ok (.iload 4, 2) := by decide +kernel
theorem dL_law__1440 : decode cL_law_ 1440 = .ok (.iconst 2, 1) := by decide +kernel
theorem dL_law__1441 : decode cL_law_ 1441 = .ok (.iadd, 1) := by decide +kernel
theorem dL_law__1442 : decode cL_law_ 1442 = .ok (.iaload, 1) := by decide +kernel
theorem dL_law__1443 : decode cL_law_ 1443 = .ok (.aload_n 3, 1) := by decide +kernel
theorem dL_law__1444 : decode cL_law_ 1444 = .ok (.invokestatic 192, 3) := by decide +kernel
theorem dL_law__1447 : decode cL_law_ 1447 = .ok (.istore 5, 2) := by decide +kernel
theorem dL_law__1449 : decode cL_law_ 1449 = .ok (.aload_n 2, 1) := by decide +kernel
theorem dL_law__1450 : decode cL_law_ 1450 = .ok (.aload_n 0, 1) := by decide +kernel
theorem dL_law__1451 : decode cL_law_ 1451 = .ok (.iload 4, 2) := by decide +kernel
theorem dL_law__1453 : decode cL_law_ 1453 = .ok (.iconst 1, 1) := by decide +kernel
theorem dL_law__1454 : decode cL_law_ 1454 = .ok (.iadd, 1) := by decide +kernel
theorem dL_law__1455 : decode cL_law_ 1455 = .ok (.iaload, 1) := by decide +kernel
theorem dL_law__1456 : decode cL_law_ 1456 = .ok (.aload_n 0, 1) := by decide +kernel
theorem dL_law__1457 : decode cL_law_ 1457 = .ok (.iload 4, 2) := by decide +kernel
theorem dL_law__1459 : decode cL_law_ 1459 = .ok (.iconst 2, 1) := by decide +kernel
theorem dL_law__1460 : decode cL_law_ 1460 = .ok (.iadd, 1) := by decide +kernel
theorem dL_law__1461 : decode cL_law_ 1461 = .ok (.iaload, 1) := by decide +kernel
theorem dL_law__1462 : decode cL_law_ 1462 = .ok (.invokevirtual 194, 3) := by decide +kernel
theorem dL_law__1465 : decode cL_law_ 1465 = .ok (.istore 6, 2) := by decide +kernel
theorem dL_law__1467 : decode cL_law_ 1467 = .ok (.aload_n 2, 1) := by decide +kernel
theorem dL_law__1468 : decode cL_law_ 1468 = .ok (.invokevirtual 132, 3) := by decide +kernel
theorem dL_law__1471 : decode cL_law_ 1471 = .ok (.iload 5, 2) := by decide +kernel
theorem dL_law__1473 : decode cL_law_ 1473 = .ok (.if_icmp .eq 5, 3) := by decide +kernel
theorem dL_law__1476 : decode cL_law_ 1476 = .ok (.iconst 0, 1) := by decide +kernel
theorem dL_law__1477 : decode cL_law_ 1477 = .ok (.ireturn, 1) := by decide +kernel
theorem dL_law__1478 : decode cL_law_ 1478 = .ok (.iload 5, 2) := by decide +kernel
theorem dL_law__1480 : decode cL_law_ 1480 = .ok (.ifCond .ne 15, 3) := by decide +kernel
theorem dL_law__1483 : decode cL_law_ 1483 = .ok (.aload_n 3, 1) := by decide +kernel
theorem dL_law__1484 : decode cL_law_ 1484 = .ok (.iconst 0, 1) := by decide +kernel
theorem dL_law__1485 : decode cL_law_ 1485 = .ok (.laload, 1) := by decide +kernel
theorem dL_law__1486 : decode cL_law_ 1486 = .ok (.iload 6, 2) := by decide +kernel
theorem dL_law__1488 : decode cL_law_ 1488 = .ok (.i2l, 1) := by decide +kernel
theorem dL_law__1489 : decode cL_law_ 1489 = .ok (.lcmp, 1) := by decide +kernel
theorem dL_law__1490 : decode cL_law_ 1490 = .ok (.ifCond .eq 5, 3) := by decide +kernel
theorem dL_law__1493 : decode cL_law_ 1493 = .ok (.iconst 0, 1) := by decide +kernel
theorem dL_law__1494 : decode cL_law_ 1494 = .ok (.ireturn, 1) := by decide +kernel
theorem dL_law__1495 : decode cL_law_ 1495 = .ok (.goto 1106, 3) := by decide +kernel
theorem dL_law__1498 : decode cL_law_ 1498 = .ok (.aload_n 1, 1) := by decide +kernel
theorem dL_law__1499 : decode cL_law_ 1499 = .ok (.aload_n 0, 1) := by decide +kernel
theorem dL_law__1500 : decode cL_law_ 1500 = .ok (.iload 4, 2) := by decide +kernel
theorem dL_law__1502 : decode cL_law_ 1502 = .ok (.iconst 1, 1) := by decide +kernel
theorem dL_law__1503 : decode cL_law_ 1503 = .ok (.iadd, 1) := by decide +kernel
theorem dL_law__1504 : decode cL_law_ 1504 = .ok (.iaload, 1) := by decide +kernel
theorem dL_law__1505 : decode cL_law_ 1505 = .ok (.aload_n 0, 1) := by decide +kernel
theorem dL_law__1506 : decode cL_law_ 1506 = .ok (.iload 4, 2) := by decide +kernel
theorem dL_law__1508 : decode cL_law_ 1508 = .ok (.iconst 2, 1) := by decide +kernel
theorem dL_law__1509 : decode cL_law_ 1509 = .ok (.iadd, 1) := by decide +kernel
theorem dL_law__1510 : decode cL_law_ 1510 = .ok (.iaload, 1) := by decide +kernel
theorem dL_law__1511 : decode cL_law_ 1511 = .ok (.aload_n 3, 1) := by decide +kernel
theorem dL_law__1512 : decode cL_law_ 1512 = .ok (.invokestatic 195, 3) := by decide +kernel
theorem dL_law__1515 : decode cL_law_ 1515 = .ok (.istore 5, 2) := by decide +kernel
theorem dL_law__1517 : decode cL_law_ 1517 = .ok (.aload_n 2, 1) := by decide +kernel
theorem dL_law__1518 : decode cL_law_ 1518 = .ok (.aload_n 0, 1) := by decide +kernel
theorem dL_law__1519 : decode cL_law_ 1519 = .ok (.iload 4, 2) := by decide +kernel
theorem dL_law__1521 : decode cL_law_ 1521 = .ok (.iconst 1, 1) := by decide +kernel
theorem dL_law__1522 : decode cL_law_ 1522 = .ok (.iadd, 1) := by decide +kernel
theorem dL_law__1523 : decode cL_law_ 1523 = .ok (.iaload, 1) := by decide +kernel
theorem dL_law__1524 : decode cL_law_ 1524 = .ok (.aload_n 0, 1) := by decide +kernel
theorem dL_law__1525 : decode cL_law_ 1525 = .ok (.iload 4, 2) := by decide +kernel
theorem dL_law__1527 : decode cL_law_ 1527 = .ok (.iconst 2, 1) := by decide +kernel
theorem dL_law__1528 : decode cL_law_ 1528 = .ok (.iadd, 1) := by decide +kernel
theorem dL_law__1529 : decode cL_law_ 1529 = .ok (.iaload, 1) := by decide +kernel
theorem dL_law__1530 : decode cL_law_ 1530 = .ok (.invokevirtual 197, 3) := by decide +kernel
theorem dL_law__1533 : decode cL_law_ 1533 = .ok (.istore 6, 2) := by decide +kernel
theorem dL_law__1535 : decode cL_law_ 1535 = .ok (.aload_n 2, 1) := by decide +kernel
theorem dL_law__1536 : decode cL_law_ 1536 = .ok (.invokevirtual 132, 3) := by decide +kernel
theorem dL_law__1539 : decode cL_law_ 1539 = .ok (.iload 5, 2) := by decide +kernel
theorem dL_law__1541 : decode cL_law_ 1541 = .ok (.if_icmp .eq 5, 3) := by decide +kernel
theorem dL_law__1544 : decode cL_law_ 1544 = .ok (.iconst 0, 1) := by decide +kernel
theorem dL_law__1545 : decode cL_law_ 1545 = .ok (.ireturn, 1) := by decide +kernel
theorem dL_law__1546 : decode cL_law_ 1546 = .ok (.iload 5, 2) := by decide +kernel
theorem dL_law__1548 : decode cL_law_ 1548 = .ok (.ifCond .ne 15, 3) := by decide +kernel
theorem dL_law__1551 : decode cL_law_ 1551 = .ok (.aload_n 3, 1) := by decide +kernel
theorem dL_law__1552 : decode cL_law_ 1552 = .ok (.iconst 0, 1) := by decide +kernel
theorem dL_law__1553 : decode cL_law_ 1553 = .ok (.laload, 1) := by decide +kernel
theorem dL_law__1554 : decode cL_law_ 1554 = .ok (.iload 6, 2) := by decide +kernel
theorem dL_law__1556 : decode cL_law_ 1556 = .ok (.i2l, 1) := by decide +kernel
theorem dL_law__1557 : decode cL_law_ 1557 = .ok (.lcmp, 1) := by decide +kernel
theorem dL_law__1558 : decode cL_law_ 1558 = .ok (.ifCond .eq 5, 3) := by decide +kernel
theorem dL_law__1561 : decode cL_law_ 1561 = .ok (.iconst 0, 1) := by decide +kernel
theorem dL_law__1562 : decode cL_law_ 1562 = .ok (.ireturn, 1) := by decide +kernel
theorem dL_law__1563 : decode cL_law_ 1563 = .ok (.goto 1038, 3) := by decide +kernel
theorem dL_law__1566 : decode cL_law_ 1566 = .ok (.aload_n 1, 1) := by decide +kernel
theorem dL_law__1567 : decode cL_law_ 1567 = .ok (.aload_n 0, 1) := by decide +kernel
theorem dL_law__1568 : decode cL_law_ 1568 = .ok (.iload 4, 2) := by decide +kernel
theorem dL_law__1570 : decode cL_law_ 1570 = .ok (.iconst 1, 1) := by decide +kernel
theorem dL_law__1571 : decode cL_law_ 1571 = .ok (.iadd, 1) := by decide +kernel
theorem dL_law__1572 : decode cL_law_ 1572 = .ok (.iaload, 1) := by decide +kernel
theorem dL_law__1573 : decode cL_law_ 1573 = .ok (.invokevirtual 198, 3) := by decide +kernel
theorem dL_law__1576 : decode cL_law_ 1576 = .ok (.aload_n 2, 1) := by decide +kernel
theorem dL_law__1577 : decode cL_law_ 1577 = .ok (.aload_n 0, 1) := by decide +kernel
theorem dL_law__1578 : decode cL_law_ 1578 = .ok (.iload 4, 2) := by decide +kernel
theorem dL_law__1580 : decode cL_law_ 1580 = .ok (.iconst 1, 1) := by decide +kernel
theorem dL_law__1581 : decode cL_law_ 1581 = .ok (.iadd, 1) := by decide +kernel
theorem dL_law__1582 : decode cL_law_ 1582 = .ok (.iaload, 1) := by decide +kernel
theorem dL_law__1583 : decode cL_law_ 1583 = .ok (.invokevirtual 201, 3) := by decide +kernel
theorem dL_law__1586 : decode cL_law_ 1586 = .ok (.if_icmp .eq 1015, 3) := by decide +kernel
theorem dL_law__1589 : decode cL_law_ 1589 = .ok (.iconst 0, 1) := by decide +kernel
theorem dL_law__1590 : decode cL_law_ 1590 = .ok (.ireturn, 1) := by decide +kernel
theorem dL_law__1591 : decode cL_law_ 1591 = .ok (.aload_n 1, 1) := by decide +kernel
theorem dL_law__1592 : decode cL_law_ 1592 = .ok (.aload_n 3, 1) := by decide +kernel
theorem dL_law__1593 : decode cL_law_ 1593 = .ok (.invokestatic 202, 3) := by decide +kernel
theorem dL_law__1596 : decode cL_law_ 1596 = .ok (.istore 5, 2) := by decide +kernel
theorem dL_law__1598 : decode cL_law_ 1598 = .ok (.aload_n 2, 1) := by decide +kernel
theorem dL_law__1599 : decode cL_law_ 1599 = .ok (.invokevirtual 205, 3) := by decide +kernel
theorem dL_law__1602 : decode cL_law_ 1602 = .ok (.lstore 6, 2) := by decide +kernel
theorem dL_law__1604 : decode cL_law_ 1604 = .ok (.aload_n 2, 1) := by decide +kernel
theorem dL_law__1605 : decode cL_law_ 1605 = .ok (.invokevirtual 132, 3) := by decide +kernel
theorem dL_law__1608 : decode cL_law_ 1608 = .ok (.iload 5, 2) := by decide +kernel
theorem dL_law__1610 : decode cL_law_ 1610 = .ok (.if_icmp .eq 5, 3) := by decide +kernel
theorem dL_law__1613 : decode cL_law_ 1613 = .ok (.iconst 0, 1) := by decide +kernel
theorem dL_law__1614 : decode cL_law_ 1614 = .ok (.ireturn, 1) := by decide +kernel
theorem dL_law__1615 : decode cL_law_ 1615 = .ok (.iload 5, 2) := by decide +kernel
theorem dL_law__1617 : decode cL_law_ 1617 = .ok (.ifCond .ne 14, 3) := by decide +kernel
theorem dL_law__1620 : decode cL_law_ 1620 = .ok (.aload_n 3, 1) := by decide +kernel
theorem dL_law__1621 : decode cL_law_ 1621 = .ok (.iconst 0, 1) := by decide +kernel
theorem dL_law__1622 : decode cL_law_ 1622 = .ok (.laload, 1) := by decide +kernel
theorem dL_law__1623 : decode cL_law_ 1623 = .ok (.lload 6, 2) := by decide +kernel
theorem dL_law__1625 : decode cL_law_ 1625 = .ok (.lcmp, 1) := by decide +kernel
theorem dL_law__1626 : decode cL_law_ 1626 = .ok (.ifCond .eq 5, 3) := by decide +kernel
theorem dL_law__1629 : decode cL_law_ 1629 = .ok (.iconst 0, 1) := by decide +kernel
theorem dL_law__1630 : decode cL_law_ 1630 = .ok (.ireturn, 1) := by decide +kernel
theorem dL_law__1631 : decode cL_law_ 1631 = .ok (.goto 970, 3) := by decide +kernel
theorem dL_law__1634 : decode cL_law_ 1634 = .ok (.aload_n 1, 1) := by decide +kernel
theorem dL_law__1635 : decode cL_law_ 1635 = .ok (.aload_n 0, 1) := by decide +kernel
theorem dL_law__1636 : decode cL_law_ 1636 = .ok (.iload 4, 2) := by decide +kernel
theorem dL_law__1638 : decode cL_law_ 1638 = .ok (.iconst 1, 1) := by decide +kernel
theorem dL_law__1639 : decode cL_law_ 1639 = .ok (.iadd, 1) := by decide +kernel
theorem dL_law__1640 : decode cL_law_ 1640 = .ok (.iaload, 1) := by decide +kernel
theorem dL_law__1641 : decode cL_law_ 1641 = .ok (.aload_n 3, 1) := by decide +kernel
theorem dL_law__1642 : decode cL_law_ 1642 = .ok (.invokestatic 206, 3) := by decide +kernel
theorem dL_law__1645 : decode cL_law_ 1645 = .ok (.istore 5, 2) := by decide +kernel
theorem dL_law__1647 : decode cL_law_ 1647 = .ok (.aload_n 2, 1) := by decide +kernel
theorem dL_law__1648 : decode cL_law_ 1648 = .ok (.aload_n 0, 1) := by decide +kernel
theorem dL_law__1649 : decode cL_law_ 1649 = .ok (.iload 4, 2) := by decide +kernel
theorem dL_law__1651 : decode cL_law_ 1651 = .ok (.iconst 1, 1) := by decide +kernel
theorem dL_law__1652 : decode cL_law_ 1652 = .ok (.iadd, 1) := by decide +kernel
theorem dL_law__1653 : decode cL_law_ 1653 = .ok (.iaload, 1) := by decide +kernel
theorem dL_law__1654 : decode cL_law_ 1654 = .ok (.invokevirtual 208, 3) := by decide +kernel
theorem dL_law__1657 : decode cL_law_ 1657 = .ok (.istore 6, 2) := by decide +kernel
theorem dL_law__1659 : decode cL_law_ 1659 = .ok (.aload_n 2, 1) := by decide +kernel
theorem dL_law__1660 : decode cL_law_ 1660 = .ok (.invokevirtual 132, 3) := by decide +kernel
theorem dL_law__1663 : decode cL_law_ 1663 = .ok (.iload 5, 2) := by decide +kernel
theorem dL_law__1665 : decode cL_law_ 1665 = .ok (.if_icmp .eq 5, 3) := by decide +kernel
theorem dL_law__1668 : decode cL_law_ 1668 = .ok (.iconst 0, 1) := by decide +kernel
theorem dL_law__1669 : decode cL_law_ 1669 = .ok (.ireturn, 1) := by decide +kernel
theorem dL_law__1670 : decode cL_law_ 1670 = .ok (.iload 5, 2) := by decide +kernel
theorem dL_law__1672 : decode cL_law_ 1672 = .ok (.ifCond .ne 15, 3) := by decide +kernel
theorem dL_law__1675 : decode cL_law_ 1675 = .ok (.aload_n 3, 1) := by decide +kernel
theorem dL_law__1676 : decode cL_law_ 1676 = .ok (.iconst 0, 1) := by decide +kernel
theorem dL_law__1677 : decode cL_law_ 1677 = .ok (.laload, 1) := by decide +kernel
theorem dL_law__1678 : decode cL_law_ 1678 = .ok (.iload 6, 2) := by decide +kernel
theorem dL_law__1680 : decode cL_law_ 1680 = .ok (.i2l, 1) := by decide +kernel
theorem dL_law__1681 : decode cL_law_ 1681 = .ok (.lcmp, 1) := by decide +kernel
theorem dL_law__1682 : decode cL_law_ 1682 = .ok (.ifCond .eq 5, 3) := by decide +kernel
theorem dL_law__1685 : decode cL_law_ 1685 = .ok (.iconst 0, 1) := by decide +kernel
theorem dL_law__1686 : decode cL_law_ 1686 = .ok (.ireturn, 1) := by decide +kernel
theorem dL_law__1687 : decode cL_law_ 1687 = .ok (.goto 914, 3) := by decide +kernel
theorem dL_law__1690 : decode cL_law_ 1690 = .ok (.aload_n 1, 1) := by decide +kernel
theorem dL_law__1691 : decode cL_law_ 1691 = .ok (.aload_n 0, 1) := by decide +kernel
theorem dL_law__1692 : decode cL_law_ 1692 = .ok (.iload 4, 2) := by decide +kernel
theorem dL_law__1694 : decode cL_law_ 1694 = .ok (.iconst 1, 1) := by decide +kernel
theorem dL_law__1695 : decode cL_law_ 1695 = .ok (.iadd, 1) := by decide +kernel
theorem dL_law__1696 : decode cL_law_ 1696 = .ok (.iaload, 1) := by decide +kernel
theorem dL_law__1697 : decode cL_law_ 1697 = .ok (.aload_n 3, 1) := by decide +kernel
theorem dL_law__1698 : decode cL_law_ 1698 = .ok (.invokestatic 209, 3) := by decide +kernel
theorem dL_law__1701 : decode cL_law_ 1701 = .ok (.istore 5, 2) := by decide +kernel
theorem dL_law__1703 : decode cL_law_ 1703 = .ok (.aload_n 2, 1) := by decide +kernel
theorem dL_law__1704 : decode cL_law_ 1704 = .ok (.aload_n 0, 1) := by decide +kernel
theorem dL_law__1705 : decode cL_law_ 1705 = .ok (.iload 4, 2) := by decide +kernel
theorem dL_law__1707 : decode cL_law_ 1707 = .ok (.iconst 1, 1) := by decide +kernel
theorem dL_law__1708 : decode cL_law_ 1708 = .ok (.iadd, 1) := by decide +kernel
theorem dL_law__1709 : decode cL_law_ 1709 = .ok (.iaload, 1) := by decide +kernel
theorem dL_law__1710 : decode cL_law_ 1710 = .ok (.invokevirtual 211, 3) := by decide +kernel
theorem dL_law__1713 : decode cL_law_ 1713 = .ok (.istore 6, 2) := by decide +kernel
theorem dL_law__1715 : decode cL_law_ 1715 = .ok (.aload_n 2, 1) := by decide +kernel
theorem dL_law__1716 : decode cL_law_ 1716 = .ok (.invokevirtual 132, 3) := by decide +kernel
theorem dL_law__1719 : decode cL_law_ 1719 = .ok (.iload 5, 2) := by decide +kernel
theorem dL_law__1721 : decode cL_law_ 1721 = .ok (.if_icmp .eq 5, 3) := by decide +kernel
theorem dL_law__1724 : decode cL_law_ 1724 = .ok (.iconst 0, 1) := by decide +kernel
theorem dL_law__1725 : decode cL_law_ 1725 = .ok (.ireturn, 1) := by decide +kernel
theorem dL_law__1726 : decode cL_law_ 1726 = .ok (.iload 5, 2) := by decide +kernel
theorem dL_law__1728 : decode cL_law_ 1728 = .ok (.ifCond .ne 15, 3) := by decide +kernel
theorem dL_law__1731 : decode cL_law_ 1731 = .ok (.aload_n 3, 1) := by decide +kernel
theorem dL_law__1732 : decode cL_law_ 1732 = .ok (.iconst 0, 1) := by decide +kernel
theorem dL_law__1733 : decode cL_law_ 1733 = .ok (.laload, 1) := by decide +kernel
theorem dL_law__1734 : decode cL_law_ 1734 = .ok (.iload 6, 2) := by decide +kernel
theorem dL_law__1736 : decode cL_law_ 1736 = .ok (.i2l, 1) := by decide +kernel
theorem dL_law__1737 : decode cL_law_ 1737 = .ok (.lcmp, 1) := by decide +kernel
theorem dL_law__1738 : decode cL_law_ 1738 = .ok (.ifCond .eq 5, 3) := by decide +kernel
theorem dL_law__1741 : decode cL_law_ 1741 = .ok (.iconst 0, 1) := by decide +kernel
theorem dL_law__1742 : decode cL_law_ 1742 = .ok (.ireturn, 1) := by decide +kernel
theorem dL_law__1743 : decode cL_law_ 1743 = .ok (.goto 858, 3) := by decide +kernel
theorem dL_law__1746 : decode cL_law_ 1746 = .ok (.aload_n 1, 1) := by decide +kernel
theorem dL_law__1747 : decode cL_law_ 1747 = .ok (.aload_n 0, 1) := by decide +kernel
theorem dL_law__1748 : decode cL_law_ 1748 = .ok (.iload 4, 2) := by decide +kernel
theorem dL_law__1750 : decode cL_law_ 1750 = .ok (.iconst 1, 1) := by decide +kernel
theorem dL_law__1751 : decode cL_law_ 1751 = .ok (.iadd, 1) := by decide +kernel
theorem dL_law__1752 : decode cL_law_ 1752 = .ok (.iaload, 1) := by decide +kernel
theorem dL_law__1753 : decode cL_law_ 1753 = .ok (.aload_n 0, 1) := by decide +kernel
theorem dL_law__1754 : decode cL_law_ 1754 = .ok (.iload 4, 2) := by decide +kernel
theorem dL_law__1756 : decode cL_law_ 1756 = .ok (.iconst 2, 1) := by decide +kernel
theorem dL_law__1757 : decode cL_law_ 1757 = .ok (.iadd, 1) := by decide +kernel
theorem dL_law__1758 : decode cL_law_ 1758 = .ok (.iaload, 1) := by decide +kernel
theorem dL_law__1759 : decode cL_law_ 1759 = .ok (.aload_n 3, 1) := by decide +kernel
theorem dL_law__1760 : decode cL_law_ 1760 = .ok (.invokestatic 212, 3) := by decide +kernel
theorem dL_law__1763 : decode cL_law_ 1763 = .ok (.istore 5, 2) := by decide +kernel
theorem dL_law__1765 : decode cL_law_ 1765 = .ok (.aload_n 2, 1) := by decide +kernel
theorem dL_law__1766 : decode cL_law_ 1766 = .ok (.aload_n 0, 1) := by decide +kernel
theorem dL_law__1767 : decode cL_law_ 1767 = .ok (.iload 4, 2) := by decide +kernel
theorem dL_law__1769 : decode cL_law_ 1769 = .ok (.iconst 1, 1) := by decide +kernel
theorem dL_law__1770 : decode cL_law_ 1770 = .ok (.iadd, 1) := by decide +kernel
theorem dL_law__1771 : decode cL_law_ 1771 = .ok (.iaload, 1) := by decide +kernel
theorem dL_law__1772 : decode cL_law_ 1772 = .ok (.aload_n 0, 1) := by decide +kernel
theorem dL_law__1773 : decode cL_law_ 1773 = .ok (.iload 4, 2) := by decide +kernel
theorem dL_law__1775 : decode cL_law_ 1775 = .ok (.iconst 2, 1) := by decide +kernel
theorem dL_law__1776 : decode cL_law_ 1776 = .ok (.iadd, 1) := by decide +kernel
theorem dL_law__1777 : decode cL_law_ 1777 = .ok (.iaload, 1) := by decide +kernel
theorem dL_law__1778 : decode cL_law_ 1778 = .ok (.invokevirtual 214, 3) := by decide +kernel
theorem dL_law__1781 : decode cL_law_ 1781 = .ok (.istore 6, 2) := by decide +kernel
theorem dL_law__1783 : decode cL_law_ 1783 = .ok (.aload_n 2, 1) := by decide +kernel
theorem dL_law__1784 : decode cL_law_ 1784 = .ok (.invokevirtual 132, 3) := by decide +kernel
theorem dL_law__1787 : decode cL_law_ 1787 = .ok (.iload 5, 2) := by decide +kernel
theorem dL_law__1789 : decode cL_law_ 1789 = .ok (.if_icmp .eq 5, 3) := by decide +kernel
theorem dL_law__1792 : decode cL_law_ 1792 = .ok (.iconst 0, 1) := by decide +kernel
theorem dL_law__1793 : decode cL_law_ 1793 = .ok (.ireturn, 1) := by decide +kernel
theorem dL_law__1794 : decode cL_law_ 1794 = .ok (.iload 5, 2) := by decide +kernel
theorem dL_law__1796 : decode cL_law_ 1796 = .ok (.ifCond .ne 15, 3) := by decide +kernel
theorem dL_law__1799 : decode cL_law_ 1799 = .ok (.aload_n 3, 1) := by decide +kernel
theorem dL_law__1800 : decode cL_law_ 1800 = .ok (.iconst 0, 1) := by decide +kernel
theorem dL_law__1801 : decode cL_law_ 1801 = .ok (.laload, 1) := by decide +kernel
theorem dL_law__1802 : decode cL_law_ 1802 = .ok (.iload 6, 2) := by decide +kernel
theorem dL_law__1804 : decode cL_law_ 1804 = .ok (.i2l, 1) := by decide +kernel
theorem dL_law__1805 : decode cL_law_ 1805 = .ok (.lcmp, 1) := by decide +kernel
theorem dL_law__1806 : decode cL_law_ 1806 = .ok (.ifCond .eq 5, 3) := by decide +kernel
theorem dL_law__1809 : decode cL_law_ 1809 = .ok (.iconst 0, 1) := by decide +kernel
theorem dL_law__1810 : decode cL_law_ 1810 = .ok (.ireturn, 1) := by decide +kernel
theorem dL_law__1811 : decode cL_law_ 1811 = .ok (.goto 790, 3) := by decide +kernel
theorem dL_law__1814 : decode cL_law_ 1814 = .ok (.aload_n 1, 1) := by decide +kernel
theorem dL_law__1815 : decode cL_law_ 1815 = .ok (.aload_n 0, 1) := by decide +kernel
theorem dL_law__1816 : decode cL_law_ 1816 = .ok (.iload 4, 2) := by decide +kernel
theorem dL_law__1818 : decode cL_law_ 1818 = .ok (.iconst 1, 1) := by decide +kernel
theorem dL_law__1819 : decode cL_law_ 1819 = .ok (.iadd, 1) := by decide +kernel
theorem dL_law__1820 : decode cL_law_ 1820 = .ok (.iaload, 1) := by decide +kernel
theorem dL_law__1821 : decode cL_law_ 1821 = .ok (.aload_n 3, 1) := by decide +kernel
theorem dL_law__1822 : decode cL_law_ 1822 = .ok (.invokestatic 215, 3) := by decide +kernel
theorem dL_law__1825 : decode cL_law_ 1825 = .ok (.istore 5, 2) := by decide +kernel
theorem dL_law__1827 : decode cL_law_ 1827 = .ok (.aload_n 2, 1) := by decide +kernel
theorem dL_law__1828 : decode cL_law_ 1828 = .ok (.aload_n 0, 1) := by decide +kernel
theorem dL_law__1829 : decode cL_law_ 1829 = .ok (.iload 4, 2) := by decide +kernel
theorem dL_law__1831 : decode cL_law_ 1831 = .ok (.iconst 1, 1) := by decide +kernel
theorem dL_law__1832 : decode cL_law_ 1832 = .ok (.iadd, 1) := by decide +kernel
theorem dL_law__1833 : decode cL_law_ 1833 = .ok (.iaload, 1) := by decide +kernel
theorem dL_law__1834 : decode cL_law_ 1834 = .ok (.invokevirtual 217, 3) := by decide +kernel
theorem dL_law__1837 : decode cL_law_ 1837 = .ok (.istore 6, 2) := by decide +kernel
theorem dL_law__1839 : decode cL_law_ 1839 = .ok (.aload_n 2, 1) := by decide +kernel
theorem dL_law__1840 : decode cL_law_ 1840 = .ok (.invokevirtual 132, 3) := by decide +kernel
theorem dL_law__1843 : decode cL_law_ 1843 = .ok (.iload 5, 2) := by decide +kernel
theorem dL_law__1845 : decode cL_law_ 1845 = .ok (.if_icmp .eq 5, 3) := by decide +kernel
theorem dL_law__1848 : decode cL_law_ 1848 = .ok (.iconst 0, 1) := by decide +kernel
theorem dL_law__1849 : decode cL_law_ 1849 = .ok (.ireturn, 1) := by decide +kernel
theorem dL_law__1850 : decode cL_law_ 1850 = .ok (.iload 5, 2) := by decide +kernel
theorem dL_law__1852 : decode cL_law_ 1852 = .ok (.ifCond .ne 15, 3) := by decide +kernel
theorem dL_law__1855 : decode cL_law_ 1855 = .ok (.aload_n 3, 1) := by decide +kernel
theorem dL_law__1856 : decode cL_law_ 1856 = .ok (.iconst 0, 1) := by decide +kernel
theorem dL_law__1857 : decode cL_law_ 1857 = .ok (.laload, 1) := by decide +kernel
theorem dL_law__1858 : decode cL_law_ 1858 = .ok (.iload 6, 2) := by decide +kernel
theorem dL_law__1860 : decode cL_law_ 1860 = .ok (.i2l, 1) := by decide +kernel
theorem dL_law__1861 : decode cL_law_ 1861 = .ok (.lcmp, 1) := by decide +kernel
theorem dL_law__1862 : decode cL_law_ 1862 = .ok (.ifCond .eq 5, 3) := by decide +kernel
theorem dL_law__1865 : decode cL_law_ 1865 = .ok (.iconst 0, 1) := by decide +kernel
theorem dL_law__1866 : decode cL_law_ 1866 = .ok (.ireturn, 1) := by decide +kernel
theorem dL_law__1867 : decode cL_law_ 1867 = .ok (.goto 734, 3) := by decide +kernel
theorem dL_law__1870 : decode cL_law_ 1870 = .ok (.aload_n 1, 1) := by decide +kernel
theorem dL_law__1871 : decode cL_law_ 1871 = .ok (.aload_n 0, 1) := by decide +kernel
theorem dL_law__1872 : decode cL_law_ 1872 = .ok (.iload 4, 2) := by decide +kernel
theorem dL_law__1874 : decode cL_law_ 1874 = .ok (.iconst 1, 1) := by decide +kernel
theorem dL_law__1875 : decode cL_law_ 1875 = .ok (.iadd, 1) := by decide +kernel
theorem dL_law__1876 : decode cL_law_ 1876 = .ok (.iaload, 1) := by decide +kernel
theorem dL_law__1877 : decode cL_law_ 1877 = .ok (.aload_n 3, 1) := by decide +kernel
theorem dL_law__1878 : decode cL_law_ 1878 = .ok (.invokestatic 218, 3) := by decide +kernel
theorem dL_law__1881 : decode cL_law_ 1881 = .ok (.istore 5, 2) := by decide +kernel
theorem dL_law__1883 : decode cL_law_ 1883 = .ok (.aload_n 2, 1) := by decide +kernel
theorem dL_law__1884 : decode cL_law_ 1884 = .ok (.aload_n 0, 1) := by decide +kernel
theorem dL_law__1885 : decode cL_law_ 1885 = .ok (.iload 4, 2) := by decide +kernel
theorem dL_law__1887 : decode cL_law_ 1887 = .ok (.iconst 1, 1) := by decide +kernel
theorem dL_law__1888 : decode cL_law_ 1888 = .ok (.iadd, 1) := by decide +kernel
theorem dL_law__1889 : decode cL_law_ 1889 = .ok (.iaload, 1) := by decide +kernel
theorem dL_law__1890 : decode cL_law_ 1890 = .ok (.invokevirtual 220, 3) := by decide +kernel
theorem dL_law__1893 : decode cL_law_ 1893 = .ok (.istore 6, 2) := by decide +kernel
theorem dL_law__1895 : decode cL_law_ 1895 = .ok (.aload_n 2, 1) := by decide +kernel
theorem dL_law__1896 : decode cL_law_ 1896 = .ok (.invokevirtual 132, 3) := by decide +kernel
theorem dL_law__1899 : decode cL_law_ 1899 = .ok (.iload 5, 2) := by decide +kernel
theorem dL_law__1901 : decode cL_law_ 1901 = .ok (.if_icmp .eq 5, 3) := by decide +kernel
theorem dL_law__1904 : decode cL_law_ 1904 = .ok (.iconst 0, 1) := by decide +kernel
theorem dL_law__1905 : decode cL_law_ 1905 = .ok (.ireturn, 1) := by decide +kernel
theorem dL_law__1906 : decode cL_law_ 1906 = .ok (.iload 5, 2) := by decide +kernel
theorem dL_law__1908 : decode cL_law_ 1908 = .ok (.ifCond .ne 15, 3) := by decide +kernel
theorem dL_law__1911 : decode cL_law_ 1911 = .ok (.aload_n 3, 1) := by decide +kernel
theorem dL_law__1912 : decode cL_law_ 1912 = .ok (.iconst 0, 1) := by decide +kernel
theorem dL_law__1913 : decode cL_law_ 1913 = .ok (.laload, 1) := by decide +kernel
theorem dL_law__1914 : decode cL_law_ 1914 = .ok (.iload 6, 2) := by decide +kernel
theorem dL_law__1916 : decode cL_law_ 1916 = .ok (.i2l, 1) := by decide +kernel
theorem dL_law__1917 : decode cL_law_ 1917 = .ok (.lcmp, 1) := by decide +kernel
theorem dL_law__1918 : decode cL_law_ 1918 = .ok (.ifCond .eq 5, 3) := by decide +kernel
theorem dL_law__1921 : decode cL_law_ 1921 = .ok (.iconst 0, 1) := by decide +kernel
theorem dL_law__1922 : decode cL_law_ 1922 = .ok (.ireturn, 1) := by decide +kernel
theorem dL_law__1923 : decode cL_law_ 1923 = .ok (.goto 678, 3) := by decide +kernel
theorem dL_law__1926 : decode cL_law_ 1926 = .ok (.aload_n 1, 1) := by decide +kernel
theorem dL_law__1927 : decode cL_law_ 1927 = .ok (.aload_n 0, 1) := by decide +kernel
theorem dL_law__1928 : decode cL_law_ 1928 = .ok (.iload 4, 2) := by decide +kernel
theorem dL_law__1930 : decode cL_law_ 1930 = .ok (.iconst 1, 1) := by decide +kernel
theorem dL_law__1931 : decode cL_law_ 1931 = .ok (.iadd, 1) := by decide +kernel
theorem dL_law__1932 : decode cL_law_ 1932 = .ok (.iaload, 1) := by decide +kernel
theorem dL_law__1933 : decode cL_law_ 1933 = .ok (.aload_n 0, 1) := by decide +kernel
theorem dL_law__1934 : decode cL_law_ 1934 = .ok (.iload 4, 2) := by decide +kernel
theorem dL_law__1936 : decode cL_law_ 1936 = .ok (.iconst 2, 1) := by decide +kernel
theorem dL_law__1937 : decode cL_law_ 1937 = .ok (.iadd, 1) := by decide +kernel
theorem dL_law__1938 : decode cL_law_ 1938 = .ok (.iaload, 1) := by decide +kernel
theorem dL_law__1939 : decode cL_law_ 1939 = .ok (.ifCond .eq 7, 3) := by decide +kernel
theorem dL_law__1942 : decode cL_law_ 1942 = .ok (.iconst 1, 1) := by decide +kernel
theorem dL_law__1943 : decode cL_law_ 1943 = .ok (.goto 4, 3) := by decide +kernel
theorem dL_law__1946 : decode cL_law_ 1946 = .ok (.iconst 0, 1) := by decide +kernel
theorem dL_law__1947 : decode cL_law_ 1947 = .ok (.aload_n 3, 1) := by decide +kernel
theorem dL_law__1948 : decode cL_law_ 1948 = .ok (.invokestatic 221, 3) := by decide +kernel
theorem dL_law__1951 : decode cL_law_ 1951 = .ok (.istore 5, 2) := by decide +kernel
theorem dL_law__1953 : decode cL_law_ 1953 = .ok (.aload_n 2, 1) := by decide +kernel
theorem dL_law__1954 : decode cL_law_ 1954 = .ok (.aload_n 0, 1) := by decide +kernel
theorem dL_law__1955 : decode cL_law_ 1955 = .ok (.iload 4, 2) := by decide +kernel
theorem dL_law__1957 : decode cL_law_ 1957 = .ok (.iconst 1, 1) := by decide +kernel
theorem dL_law__1958 : decode cL_law_ 1958 = .ok (.iadd, 1) := by decide +kernel
theorem dL_law__1959 : decode cL_law_ 1959 = .ok (.iaload, 1) := by decide +kernel
theorem dL_law__1960 : decode cL_law_ 1960 = .ok (.aload_n 0, 1) := by decide +kernel
theorem dL_law__1961 : decode cL_law_ 1961 = .ok (.iload 4, 2) := by decide +kernel
theorem dL_law__1963 : decode cL_law_ 1963 = .ok (.iconst 2, 1) := by decide +kernel
theorem dL_law__1964 : decode cL_law_ 1964 = .ok (.iadd, 1) := by decide +kernel
theorem dL_law__1965 : decode cL_law_ 1965 = .ok (.iaload, 1) := by decide +kernel
theorem dL_law__1966 : decode cL_law_ 1966 = .ok (.ifCond .eq 7, 3) := by decide +kernel
theorem dL_law__1969 : decode cL_law_ 1969 = .ok (.iconst 1, 1) := by decide +kernel
theorem dL_law__1970 : decode cL_law_ 1970 = .ok (.goto 4, 3) := by decide +kernel
theorem dL_law__1973 : decode cL_law_ 1973 = .ok (.iconst 0, 1) := by decide +kernel
theorem dL_law__1974 : decode cL_law_ 1974 = .ok (.invokevirtual 223, 3) := by decide +kernel
theorem dL_law__1977 : decode cL_law_ 1977 = .ok (.lstore 6, 2) := by decide +kernel
theorem dL_law__1979 : decode cL_law_ 1979 = .ok (.aload_n 2, 1) := by decide +kernel
theorem dL_law__1980 : decode cL_law_ 1980 = .ok (.invokevirtual 132, 3) := by decide +kernel
theorem dL_law__1983 : decode cL_law_ 1983 = .ok (.iload 5, 2) := by decide +kernel
theorem dL_law__1985 : decode cL_law_ 1985 = .ok (.if_icmp .eq 5, 3) := by decide +kernel
theorem dL_law__1988 : decode cL_law_ 1988 = .ok (.iconst 0, 1) := by decide +kernel
theorem dL_law__1989 : decode cL_law_ 1989 = .ok (.ireturn, 1) := by decide +kernel
theorem dL_law__1990 : decode cL_law_ 1990 = .ok (.iload 5, 2) := by decide +kernel
theorem dL_law__1992 : decode cL_law_ 1992 = .ok (.ifCond .ne 14, 3) := by decide +kernel
theorem dL_law__1995 : decode cL_law_ 1995 = .ok (.aload_n 3, 1) := by decide +kernel
theorem dL_law__1996 : decode cL_law_ 1996 = .ok (.iconst 0, 1) := by decide +kernel
theorem dL_law__1997 : decode cL_law_ 1997 = .ok (.laload, 1) := by decide +kernel
theorem dL_law__1998 : decode cL_law_ 1998 = .ok (.lload 6, 2) := by decide +kernel
theorem dL_law__2000 : decode cL_law_ 2000 = .ok (.lcmp, 1) := by decide +kernel
theorem dL_law__2001 : decode cL_law_ 2001 = .ok (.ifCond .eq 5, 3) := by decide +kernel
theorem dL_law__2004 : decode cL_law_ 2004 = .ok (.iconst 0, 1) := by decide +kernel
theorem dL_law__2005 : decode cL_law_ 2005 = .ok (.ireturn, 1) := by decide +kernel
theorem dL_law__2006 : decode cL_law_ 2006 = .ok (.goto 595, 3) := by decide +kernel
theorem dL_law__2009 : decode cL_law_ 2009 = .ok (.aload_n 1, 1) := by decide +kernel
theorem dL_law__2010 : decode cL_law_ 2010 = .ok (.aload_n 0, 1) := by decide +kernel
theorem dL_law__2011 : decode cL_law_ 2011 = .ok (.iload 4, 2) := by decide +kernel
theorem dL_law__2013 : decode cL_law_ 2013 = .ok (.iconst 1, 1) := by decide +kernel
theorem dL_law__2014 : decode cL_law_ 2014 = .ok (.iadd, 1) := by decide +kernel
theorem dL_law__2015 : decode cL_law_ 2015 = .ok (.iaload, 1) := by decide +kernel
theorem dL_law__2016 : decode cL_law_ 2016 = .ok (.aload_n 0, 1) := by decide +kernel
theorem dL_law__2017 : decode cL_law_ 2017 = .ok (.iload 4, 2) := by decide +kernel
theorem dL_law__2019 : decode cL_law_ 2019 = .ok (.iconst 2, 1) := by decide +kernel
theorem dL_law__2020 : decode cL_law_ 2020 = .ok (.iadd, 1) := by decide +kernel
theorem dL_law__2021 : decode cL_law_ 2021 = .ok (.iaload, 1) := by decide +kernel
theorem dL_law__2022 : decode cL_law_ 2022 = .ok (.aload_n 3, 1) := by decide +kernel
theorem dL_law__2023 : decode cL_law_ 2023 = .ok (.invokestatic 224, 3) := by decide +kernel
theorem dL_law__2026 : decode cL_law_ 2026 = .ok (.istore 5, 2) := by decide +kernel
theorem dL_law__2028 : decode cL_law_ 2028 = .ok (.aload_n 2, 1) := by decide +kernel
theorem dL_law__2029 : decode cL_law_ 2029 = .ok (.aload_n 0, 1) := by decide +kernel
theorem dL_law__2030 : decode cL_law_ 2030 = .ok (.iload 4, 2) := by decide +kernel
theorem dL_law__2032 : decode cL_law_ 2032 = .ok (.iconst 1, 1) := by decide +kernel
theorem dL_law__2033 : decode cL_law_ 2033 = .ok (.iadd, 1) := by decide +kernel
theorem dL_law__2034 : decode cL_law_ 2034 = .ok (.iaload, 1) := by decide +kernel
theorem dL_law__2035 : decode cL_law_ 2035 = .ok (.aload_n 0, 1) := by decide +kernel
theorem dL_law__2036 : decode cL_law_ 2036 = .ok (.iload 4, 2) := by decide +kernel
theorem dL_law__2038 : decode cL_law_ 2038 = .ok (.iconst 2, 1) := by decide +kernel
theorem dL_law__2039 : decode cL_law_ 2039 = .ok (.iadd, 1) := by decide +kernel
theorem dL_law__2040 : decode cL_law_ 2040 = .ok (.iaload, 1) := by decide +kernel
theorem dL_law__2041 : decode cL_law_ 2041 = .ok (.invokevirtual 226, 3) := by decide +kernel
theorem dL_law__2044 : decode cL_law_ 2044 = .ok (.lstore 6, 2) := by decide +kernel
theorem dL_law__2046 : decode cL_law_ 2046 = .ok (.aload_n 2, 1) := by decide +kernel
theorem dL_law__2047 : decode cL_law_ 2047 = .ok (.invokevirtual 132, 3) := by decide +kernel
theorem dL_law__2050 : decode cL_law_ 2050 = .ok (.iload 5, 2) := by decide +kernel
theorem dL_law__2052 : decode cL_law_ 2052 = .ok (.if_icmp .eq 5, 3) := by decide +kernel
theorem dL_law__2055 : decode cL_law_ 2055 = .ok (.iconst 0, 1) := by decide +kernel
theorem dL_law__2056 : decode cL_law_ 2056 = .ok (.ireturn, 1) := by decide +kernel
theorem dL_law__2057 : decode cL_law_ 2057 = .ok (.iload 5, 2) := by decide +kernel
theorem dL_law__2059 : decode cL_law_ 2059 = .ok (.ifCond .ne 14, 3) := by decide +kernel
theorem dL_law__2062 : decode cL_law_ 2062 = .ok (.aload_n 3, 1) := by decide +kernel
theorem dL_law__2063 : decode cL_law_ 2063 = .ok (.iconst 0, 1) := by decide +kernel
theorem dL_law__2064 : decode cL_law_ 2064 = .ok (.laload, 1) := by decide +kernel
theorem dL_law__2065 : decode cL_law_ 2065 = .ok (.lload 6, 2) := by decide +kernel
theorem dL_law__2067 : decode cL_law_ 2067 = .ok (.lcmp, 1) := by decide +kernel
theorem dL_law__2068 : decode cL_law_ 2068 = .ok (.ifCond .eq 5, 3) := by decide +kernel
theorem dL_law__2071 : decode cL_law_ 2071 = .ok (.iconst 0, 1) := by decide +kernel
theorem dL_law__2072 : decode cL_law_ 2072 = .ok (.ireturn, 1) := by decide +kernel
theorem dL_law__2073 : decode cL_law_ 2073 = .ok (.goto 528, 3) := by decide +kernel
theorem dL_law__2076 : decode cL_law_ 2076 = .ok (.aload_n 1, 1) := by decide +kernel
theorem dL_law__2077 : decode cL_law_ 2077 = .ok (.aload_n 0, 1) := by decide +kernel
theorem dL_law__2078 : decode cL_law_ 2078 = .ok (.iload 4, 2) := by decide +kernel
theorem dL_law__2080 : decode cL_law_ 2080 = .ok (.iconst 1, 1) := by decide +kernel
theorem dL_law__2081 : decode cL_law_ 2081 = .ok (.iadd, 1) := by decide +kernel
theorem dL_law__2082 : decode cL_law_ 2082 = .ok (.iaload, 1) := by decide +kernel
theorem dL_law__2083 : decode cL_law_ 2083 = .ok (.aload_n 0, 1) := by decide +kernel
theorem dL_law__2084 : decode cL_law_ 2084 = .ok (.iload 4, 2) := by decide +kernel
theorem dL_law__2086 : decode cL_law_ 2086 = .ok (.iconst 2, 1) := by decide +kernel
theorem dL_law__2087 : decode cL_law_ 2087 = .ok (.iadd, 1) := by decide +kernel
theorem dL_law__2088 : decode cL_law_ 2088 = .ok (.iaload, 1) := by decide +kernel
theorem dL_law__2089 : decode cL_law_ 2089 = .ok (.aload_n 3, 1) := by decide +kernel
theorem dL_law__2090 : decode cL_law_ 2090 = .ok (.invokestatic 227, 3) := by decide +kernel
theorem dL_law__2093 : decode cL_law_ 2093 = .ok (.istore 5, 2) := by decide +kernel
theorem dL_law__2095 : decode cL_law_ 2095 = .ok (.aload_n 2, 1) := by decide +kernel
theorem dL_law__2096 : decode cL_law_ 2096 = .ok (.aload_n 0, 1) := by decide +kernel
theorem dL_law__2097 : decode cL_law_ 2097 = .ok (.iload 4, 2) := by decide +kernel
theorem dL_law__2099 : decode cL_law_ 2099 = .ok (.iconst 1, 1) := by decide +kernel
theorem dL_law__2100 : decode cL_law_ 2100 = .ok (.iadd, 1) := by decide +kernel
theorem dL_law__2101 : decode cL_law_ 2101 = .ok (.iaload, 1) := by decide +kernel
theorem dL_law__2102 : decode cL_law_ 2102 = .ok (.aload_n 0, 1) := by decide +kernel
theorem dL_law__2103 : decode cL_law_ 2103 = .ok (.iload 4, 2) := by decide +kernel
theorem dL_law__2105 : decode cL_law_ 2105 = .ok (.iconst 2, 1) := by decide +kernel
theorem dL_law__2106 : decode cL_law_ 2106 = .ok (.iadd, 1) := by decide +kernel
theorem dL_law__2107 : decode cL_law_ 2107 = .ok (.iaload, 1) := by decide +kernel
theorem dL_law__2108 : decode cL_law_ 2108 = .ok (.invokevirtual 229, 3) := by decide +kernel
theorem dL_law__2111 : decode cL_law_ 2111 = .ok (.istore 6, 2) := by decide +kernel
theorem dL_law__2113 : decode cL_law_ 2113 = .ok (.aload_n 2, 1) := by decide +kernel
theorem dL_law__2114 : decode cL_law_ 2114 = .ok (.invokevirtual 132, 3) := by decide +kernel
theorem dL_law__2117 : decode cL_law_ 2117 = .ok (.iload 5, 2) := by decide +kernel
theorem dL_law__2119 : decode cL_law_ 2119 = .ok (.if_icmp .eq 5, 3) := by decide +kernel
theorem dL_law__2122 : decode cL_law_ 2122 = .ok (.iconst 0, 1) := by decide +kernel
theorem dL_law__2123 : decode cL_law_ 2123 = .ok (.ireturn, 1) := by decide +kernel
theorem dL_law__2124 : decode cL_law_ 2124 = .ok (.iload 5, 2) := by decide +kernel
theorem dL_law__2126 : decode cL_law_ 2126 = .ok (.ifCond .ne 15, 3) := by decide +kernel
theorem dL_law__2129 : decode cL_law_ 2129 = .ok (.aload_n 3, 1) := by decide +kernel
theorem dL_law__2130 : decode cL_law_ 2130 = .ok (.iconst 0, 1) := by decide +kernel
theorem dL_law__2131 : decode cL_law_ 2131 = .ok (.laload, 1) := by decide +kernel
theorem dL_law__2132 : decode cL_law_ 2132 = .ok (.iload 6, 2) := by decide +kernel
theorem dL_law__2134 : decode cL_law_ 2134 = .ok (.i2l, 1) := by decide +kernel
theorem dL_law__2135 : decode cL_law_ 2135 = .ok (.lcmp, 1) := by decide +kernel
theorem dL_law__2136 : decode cL_law_ 2136 = .ok (.ifCond .eq 5, 3) := by decide +kernel
theorem dL_law__2139 : decode cL_law_ 2139 = .ok (.iconst 0, 1) := by decide +kernel
theorem dL_law__2140 : decode cL_law_ 2140 = .ok (.ireturn, 1) := by decide +kernel
theorem dL_law__2141 : decode cL_law_ 2141 = .ok (.goto 460, 3) := by decide +kernel
theorem dL_law__2144 : decode cL_law_ 2144 = .ok (.aload_n 1, 1) := by decide +kernel
theorem dL_law__2145 : decode cL_law_ 2145 = .ok (.aload_n 0, 1) := by decide +kernel
theorem dL_law__2146 : decode cL_law_ 2146 = .ok (.iload 4, 2) := by decide +kernel
theorem dL_law__2148 : decode cL_law_ 2148 = .ok (.iconst 1, 1) := by decide +kernel
theorem dL_law__2149 : decode cL_law_ 2149 = .ok (.iadd, 1) := by decide +kernel
theorem dL_law__2150 : decode cL_law_ 2150 = .ok (.iaload, 1) := by decide +kernel
theorem dL_law__2151 : decode cL_law_ 2151 = .ok (.aload_n 0, 1) := by decide +kernel
theorem dL_law__2152 : decode cL_law_ 2152 = .ok (.iload 4, 2) := by decide +kernel
theorem dL_law__2154 : decode cL_law_ 2154 = .ok (.iconst 2, 1) := by decide +kernel
theorem dL_law__2155 : decode cL_law_ 2155 = .ok (.iadd, 1) := by decide +kernel
theorem dL_law__2156 : decode cL_law_ 2156 = .ok (.iaload, 1) := by decide +kernel
theorem dL_law__2157 : decode cL_law_ 2157 = .ok (.aload_n 3, 1) := by decide +kernel
theorem dL_law__2158 : decode cL_law_ 2158 = .ok (.invokestatic 230, 3) := by decide +kernel
theorem dL_law__2161 : decode cL_law_ 2161 = .ok (.istore 5, 2) := by decide +kernel
theorem dL_law__2163 : decode cL_law_ 2163 = .ok (.aload_n 2, 1) := by decide +kernel
theorem dL_law__2164 : decode cL_law_ 2164 = .ok (.aload_n 0, 1) := by decide +kernel
theorem dL_law__2165 : decode cL_law_ 2165 = .ok (.iload 4, 2) := by decide +kernel
theorem dL_law__2167 : decode cL_law_ 2167 = .ok (.iconst 1, 1) := by decide +kernel
theorem dL_law__2168 : decode cL_law_ 2168 = .ok (.iadd, 1) := by decide +kernel
theorem dL_law__2169 : decode cL_law_ 2169 = .ok (.iaload, 1) := by decide +kernel
theorem dL_law__2170 : decode cL_law_ 2170 = .ok (.aload_n 0, 1) := by decide +kernel
theorem dL_law__2171 : decode cL_law_ 2171 = .ok (.iload 4, 2) := by decide +kernel
theorem dL_law__2173 : decode cL_law_ 2173 = .ok (.iconst 2, 1) := by decide +kernel
theorem dL_law__2174 : decode cL_law_ 2174 = .ok (.iadd, 1) := by decide +kernel
theorem dL_law__2175 : decode cL_law_ 2175 = .ok (.iaload, 1) := by decide +kernel
theorem dL_law__2176 : decode cL_law_ 2176 = .ok (.invokevirtual 232, 3) := by decide +kernel
theorem dL_law__2179 : decode cL_law_ 2179 = .ok (.istore 6, 2) := by decide +kernel
theorem dL_law__2181 : decode cL_law_ 2181 = .ok (.aload_n 2, 1) := by decide +kernel
theorem dL_law__2182 : decode cL_law_ 2182 = .ok (.invokevirtual 132, 3) := by decide +kernel
theorem dL_law__2185 : decode cL_law_ 2185 = .ok (.iload 5, 2) := by decide +kernel
theorem dL_law__2187 : decode cL_law_ 2187 = .ok (.if_icmp .eq 5, 3) := by decide +kernel
theorem dL_law__2190 : decode cL_law_ 2190 = .ok (.iconst 0, 1) := by decide +kernel
theorem dL_law__2191 : decode cL_law_ 2191 = .ok (.ireturn, 1) := by decide +kernel
theorem dL_law__2192 : decode cL_law_ 2192 = .ok (.iload 5, 2) := by decide +kernel
theorem dL_law__2194 : decode cL_law_ 2194 = .ok (.ifCond .ne 15, 3) := by decide +kernel
theorem dL_law__2197 : decode cL_law_ 2197 = .ok (.aload_n 3, 1) := by decide +kernel
theorem dL_law__2198 : decode cL_law_ 2198 = .ok (.iconst 0, 1) := by decide +kernel
theorem dL_law__2199 : decode cL_law_ 2199 = .ok (.laload, 1) := by decide +kernel
theorem dL_law__2200 : decode cL_law_ 2200 = .ok (.iload 6, 2) := by decide +kernel
theorem dL_law__2202 : decode cL_law_ 2202 = .ok (.i2l, 1) := by decide +kernel
theorem dL_law__2203 : decode cL_law_ 2203 = .ok (.lcmp, 1) := by decide +kernel
theorem dL_law__2204 : decode cL_law_ 2204 = .ok (.ifCond .eq 5, 3) := by decide +kernel
theorem dL_law__2207 : decode cL_law_ 2207 = .ok (.iconst 0, 1) := by decide +kernel
theorem dL_law__2208 : decode cL_law_ 2208 = .ok (.ireturn, 1) := by decide +kernel
theorem dL_law__2209 : decode cL_law_ 2209 = .ok (.goto 392, 3) := by decide +kernel
theorem dL_law__2212 : decode cL_law_ 2212 = .ok (.aload_n 1, 1) := by decide +kernel
theorem dL_law__2213 : decode cL_law_ 2213 = .ok (.aload_n 0, 1) := by decide +kernel
theorem dL_law__2214 : decode cL_law_ 2214 = .ok (.iload 4, 2) := by decide +kernel
theorem dL_law__2216 : decode cL_law_ 2216 = .ok (.iconst 1, 1) := by decide +kernel
theorem dL_law__2217 : decode cL_law_ 2217 = .ok (.iadd, 1) := by decide +kernel
theorem dL_law__2218 : decode cL_law_ 2218 = .ok (.iaload, 1) := by decide +kernel
theorem dL_law__2219 : decode cL_law_ 2219 = .ok (.ifCond .eq 7, 3) := by decide +kernel
theorem dL_law__2222 : decode cL_law_ 2222 = .ok (.iconst 1, 1) := by decide +kernel
theorem dL_law__2223 : decode cL_law_ 2223 = .ok (.goto 4, 3) := by decide +kernel
theorem dL_law__2226 : decode cL_law_ 2226 = .ok (.iconst 0, 1) := by decide +kernel
theorem dL_law__2227 : decode cL_law_ 2227 = .ok (.invokevirtual 233, 3) := by decide +kernel
theorem dL_law__2230 : decode cL_law_ 2230 = .ok (.aload_n 2, 1) := by decide +kernel
theorem dL_law__2231 : decode cL_law_ 2231 = .ok (.aload_n 0, 1) := by decide +kernel
theorem dL_law__2232 : decode cL_law_ 2232 = .ok (.iload 4, 2) := by decide +kernel
theorem dL_law__2234 : decode cL_law_ 2234 = .ok (.iconst 1, 1) := by decide +kernel
theorem dL_law__2235 : decode cL_law_ 2235 = .ok (.iadd, 1) := by decide +kernel
theorem dL_law__2236 : decode cL_law_ 2236 = .ok (.iaload, 1) := by decide +kernel
theorem dL_law__2237 : decode cL_law_ 2237 = .ok (.ifCond .eq 7, 3) := by decide +kernel
theorem dL_law__2240 : decode cL_law_ 2240 = .ok (.iconst 1, 1) := by decide +kernel
theorem dL_law__2241 : decode cL_law_ 2241 = .ok (.goto 4, 3) := by decide +kernel
theorem dL_law__2244 : decode cL_law_ 2244 = .ok (.iconst 0, 1) := by decide +kernel
theorem dL_law__2245 : decode cL_law_ 2245 = .ok (.invokevirtual 237, 3) := by decide +kernel
theorem dL_law__2248 : decode cL_law_ 2248 = .ok (.if_icmp .eq 353, 3) := by decide +kernel
theorem dL_law__2251 : decode cL_law_ 2251 = .ok (.iconst 0, 1) := by decide +kernel
theorem dL_law__2252 : decode cL_law_ 2252 = .ok (.ireturn, 1) := by decide +kernel
theorem dL_law__2253 : decode cL_law_ 2253 = .ok (.aload_n 1, 1) := by decide +kernel
theorem dL_law__2254 : decode cL_law_ 2254 = .ok (.invokevirtual 238, 3) := by decide +kernel
theorem dL_law__2257 : decode cL_law_ 2257 = .ok (.aload_n 2, 1) := by decide +kernel
theorem dL_law__2258 : decode cL_law_ 2258 = .ok (.invokevirtual 241, 3) := by decide +kernel
theorem dL_law__2261 : decode cL_law_ 2261 = .ok (.if_icmp .eq 340, 3) := by decide +kernel
theorem dL_law__2264 : decode cL_law_ 2264 = .ok (.iconst 0, 1) := by decide +kernel
theorem dL_law__2265 : decode cL_law_ 2265 = .ok (.ireturn, 1) := by decide +kernel
theorem dL_law__2266 : decode cL_law_ 2266 = .ok (.aload_n 1, 1) := by decide +kernel
theorem dL_law__2267 : decode cL_law_ 2267 = .ok (.aload_n 0, 1) := by decide +kernel
theorem dL_law__2268 : decode cL_law_ 2268 = .ok (.iload 4, 2) := by decide +kernel
theorem dL_law__2270 : decode cL_law_ 2270 = .ok (.iconst 1, 1) := by decide +kernel
theorem dL_law__2271 : decode cL_law_ 2271 = .ok (.iadd, 1) := by decide +kernel
theorem dL_law__2272 : decode cL_law_ 2272 = .ok (.iaload, 1) := by decide +kernel
theorem dL_law__2273 : decode cL_law_ 2273 = .ok (.aload_n 0, 1) := by decide +kernel
theorem dL_law__2274 : decode cL_law_ 2274 = .ok (.iload 4, 2) := by decide +kernel
theorem dL_law__2276 : decode cL_law_ 2276 = .ok (.iconst 2, 1) := by decide +kernel
theorem dL_law__2277 : decode cL_law_ 2277 = .ok (.iadd, 1) := by decide +kernel
theorem dL_law__2278 : decode cL_law_ 2278 = .ok (.iaload, 1) := by decide +kernel
theorem dL_law__2279 : decode cL_law_ 2279 = .ok (.aload_n 3, 1) := by decide +kernel
theorem dL_law__2280 : decode cL_law_ 2280 = .ok (.invokestatic 242, 3) := by decide +kernel
theorem dL_law__2283 : decode cL_law_ 2283 = .ok (.istore 5, 2) := by decide +kernel
theorem dL_law__2285 : decode cL_law_ 2285 = .ok (.aload_n 2, 1) := by decide +kernel
theorem dL_law__2286 : decode cL_law_ 2286 = .ok (.aload_n 0, 1) := by decide +kernel
theorem dL_law__2287 : decode cL_law_ 2287 = .ok (.iload 4, 2) := by decide +kernel
theorem dL_law__2289 : decode cL_law_ 2289 = .ok (.iconst 1, 1) := by decide +kernel
theorem dL_law__2290 : decode cL_law_ 2290 = .ok (.iadd, 1) := by decide +kernel
theorem dL_law__2291 : decode cL_law_ 2291 = .ok (.iaload, 1) := by decide +kernel
theorem dL_law__2292 : decode cL_law_ 2292 = .ok (.aload_n 0, 1) := by decide +kernel
theorem dL_law__2293 : decode cL_law_ 2293 = .ok (.iload 4, 2) := by decide +kernel
theorem dL_law__2295 : decode cL_law_ 2295 = .ok (.iconst 2, 1) := by decide +kernel
theorem dL_law__2296 : decode cL_law_ 2296 = .ok (.iadd, 1) := by decide +kernel
theorem dL_law__2297 : decode cL_law_ 2297 = .ok (.iaload, 1) := by decide +kernel
theorem dL_law__2298 : decode cL_law_ 2298 = .ok (.invokevirtual 244, 3) := by decide +kernel
theorem dL_law__2301 : decode cL_law_ 2301 = .ok (.istore 6, 2) := by decide +kernel
theorem dL_law__2303 : decode cL_law_ 2303 = .ok (.aload_n 2, 1) := by decide +kernel
theorem dL_law__2304 : decode cL_law_ 2304 = .ok (.invokevirtual 132, 3) := by decide +kernel
theorem dL_law__2307 : decode cL_law_ 2307 = .ok (.iload 5, 2) := by decide +kernel
theorem dL_law__2309 : decode cL_law_ 2309 = .ok (.if_icmp .eq 5, 3) := by decide +kernel
theorem dL_law__2312 : decode cL_law_ 2312 = .ok (.iconst 0, 1) := by decide +kernel
theorem dL_law__2313 : decode cL_law_ 2313 = .ok (.ireturn, 1) := by decide +kernel
theorem dL_law__2314 : decode cL_law_ 2314 = .ok (.iload 5, 2) := by decide +kernel
theorem dL_law__2316 : decode cL_law_ 2316 = .ok (.ifCond .ne 15, 3) := by decide +kernel
theorem dL_law__2319 : decode cL_law_ 2319 = .ok (.aload_n 3, 1) := by decide +kernel
theorem dL_law__2320 : decode cL_law_ 2320 = .ok (.iconst 0, 1) := by decide +kernel
theorem dL_law__2321 : decode cL_law_ 2321 = .ok (.laload, 1) := by decide +kernel
theorem dL_law__2322 : decode cL_law_ 2322 = .ok (.iload 6, 2) := by decide +kernel
theorem dL_law__2324 : decode cL_law_ 2324 = .ok (.i2l, 1) := by decide +kernel
theorem dL_law__2325 : decode cL_law_ 2325 = .ok (.lcmp, 1) := by decide +kernel
theorem dL_law__2326 : decode cL_law_ 2326 = .ok (.ifCond .eq 5, 3) := by decide +kernel
theorem dL_law__2329 : decode cL_law_ 2329 = .ok (.iconst 0, 1) := by decide +kernel
theorem dL_law__2330 : decode cL_law_ 2330 = .ok (.ireturn, 1) := by decide +kernel
theorem dL_law__2331 : decode cL_law_ 2331 = .ok (.goto 270, 3) := by decide +kernel
theorem dL_law__2334 : decode cL_law_ 2334 = .ok (.aload_n 1, 1) := by decide +kernel
theorem dL_law__2335 : decode cL_law_ 2335 = .ok (.aload_n 0, 1) := by decide +kernel
theorem dL_law__2336 : decode cL_law_ 2336 = .ok (.iload 4, 2) := by decide +kernel
theorem dL_law__2338 : decode cL_law_ 2338 = .ok (.iconst 1, 1) := by decide +kernel
theorem dL_law__2339 : decode cL_law_ 2339 = .ok (.iadd, 1) := by decide +kernel
theorem dL_law__2340 : decode cL_law_ 2340 = .ok (.iaload, 1) := by decide +kernel
theorem dL_law__2341 : decode cL_law_ 2341 = .ok (.aload_n 0, 1) := by decide +kernel
theorem dL_law__2342 : decode cL_law_ 2342 = .ok (.iload 4, 2) := by decide +kernel
theorem dL_law__2344 : decode cL_law_ 2344 = .ok (.iconst 2, 1) := by decide +kernel
theorem dL_law__2345 : decode cL_law_ 2345 = .ok (.iadd, 1) := by decide +kernel
theorem dL_law__2346 : decode cL_law_ 2346 = .ok (.iaload, 1) := by decide +kernel
theorem dL_law__2347 : decode cL_law_ 2347 = .ok (.aload_n 0, 1) := by decide +kernel
theorem dL_law__2348 : decode cL_law_ 2348 = .ok (.iload 4, 2) := by decide +kernel
theorem dL_law__2350 : decode cL_law_ 2350 = .ok (.iconst 3, 1) := by decide +kernel
theorem dL_law__2351 : decode cL_law_ 2351 = .ok (.iadd, 1) := by decide +kernel
theorem dL_law__2352 : decode cL_law_ 2352 = .ok (.iaload, 1) := by decide +kernel
theorem dL_law__2353 : decode cL_law_ 2353 = .ok (.aload_n 0, 1) := by decide +kernel
theorem dL_law__2354 : decode cL_law_ 2354 = .ok (.iload 4, 2) := by decide +kernel
theorem dL_law__2356 : decode cL_law_ 2356 = .ok (.iconst 4, 1) := by decide +kernel
theorem dL_law__2357 : decode cL_law_ 2357 = .ok (.iadd, 1) := by decide +kernel
theorem dL_law__2358 : decode cL_law_ 2358 = .ok (.iaload, 1) := by decide +kernel
theorem dL_law__2359 : decode cL_law_ 2359 = .ok (.aload_n 3, 1) := by decide +kernel
theorem dL_law__2360 : decode cL_law_ 2360 = .ok (.invokestatic 245, 3) := by decide +kernel
theorem dL_law__2363 : decode cL_law_ 2363 = .ok (.istore 5, 2) := by decide +kernel
theorem dL_law__2365 : decode cL_law_ 2365 = .ok (.aload_n 2, 1) := by decide +kernel
theorem dL_law__2366 : decode cL_law_ 2366 = .ok (.aload_n 0, 1) := by decide +kernel
theorem dL_law__2367 : decode cL_law_ 2367 = .ok (.iload 4, 2) := by decide +kernel
theorem dL_law__2369 : decode cL_law_ 2369 = .ok (.iconst 1, 1) := by decide +kernel
theorem dL_law__2370 : decode cL_law_ 2370 = .ok (.iadd, 1) := by decide +kernel
theorem dL_law__2371 : decode cL_law_ 2371 = .ok (.iaload, 1) := by decide +kernel
theorem dL_law__2372 : decode cL_law_ 2372 = .ok (.aload_n 0, 1) := by decide +kernel
theorem dL_law__2373 : decode cL_law_ 2373 = .ok (.iload 4, 2) := by decide +kernel
theorem dL_law__2375 : decode cL_law_ 2375 = .ok (.iconst 2, 1) := by decide +kernel
theorem dL_law__2376 : decode cL_law_ 2376 = .ok (.iadd, 1) := by decide +kernel
theorem dL_law__2377 : decode cL_law_ 2377 = .ok (.iaload, 1) := by decide +kernel
theorem dL_law__2378 : decode cL_law_ 2378 = .ok (.aload_n 0, 1) := by decide +kernel
theorem dL_law__2379 : decode cL_law_ 2379 = .ok (.iload 4, 2) := by decide +kernel
theorem dL_law__2381 : decode cL_law_ 2381 = .ok (.iconst 3, 1) := by decide +kernel
theorem dL_law__2382 : decode cL_law_ 2382 = .ok (.iadd, 1) := by decide +kernel
theorem dL_law__2383 : decode cL_law_ 2383 = .ok (.iaload, 1) := by decide +kernel
theorem dL_law__2384 : decode cL_law_ 2384 = .ok (.aload_n 0, 1) := by decide +kernel
theorem dL_law__2385 : decode cL_law_ 2385 = .ok (.iload 4, 2) := by decide +kernel
theorem dL_law__2387 : decode cL_law_ 2387 = .ok (.iconst 4, 1) := by decide +kernel
theorem dL_law__2388 : decode cL_law_ 2388 = .ok (.iadd, 1) := by decide +kernel
theorem dL_law__2389 : decode cL_law_ 2389 = .ok (.iaload, 1) := by decide +kernel
theorem dL_law__2390 : decode cL_law_ 2390 = .ok (.invokevirtual 247, 3) := by decide +kernel
theorem dL_law__2393 : decode cL_law_ 2393 = .ok (.istore 6, 2) := by decide +kernel
theorem dL_law__2395 : decode cL_law_ 2395 = .ok (.aload_n 2, 1) := by decide +kernel
theorem dL_law__2396 : decode cL_law_ 2396 = .ok (.invokevirtual 132, 3) := by decide +kernel
theorem dL_law__2399 : decode cL_law_ 2399 = .ok (.iload 5, 2) := by decide +kernel
theorem dL_law__2401 : decode cL_law_ 2401 = .ok (.if_icmp .eq 5, 3) := by decide +kernel
theorem dL_law__2404 : decode cL_law_ 2404 = .ok (.iconst 0, 1) := by decide +kernel
theorem dL_law__2405 : decode cL_law_ 2405 = .ok (.ireturn, 1) := by decide +kernel
theorem dL_law__2406 : decode cL_law_ 2406 = .ok (.iload 5, 2) := by decide +kernel
theorem dL_law__2408 : decode cL_law_ 2408 = .ok (.ifCond .ne 15, 3) := by decide +kernel
theorem dL_law__2411 : decode cL_law_ 2411 = .ok (.aload_n 3, 1) := by decide +kernel
theorem dL_law__2412 : decode cL_law_ 2412 = .ok (.iconst 0, 1) := by decide +kernel
theorem dL_law__2413 : decode cL_law_ 2413 = .ok (.laload, 1) := by decide +kernel
theorem dL_law__2414 : decode cL_law_ 2414 = .ok (.iload 6, 2) := by decide +kernel
theorem dL_law__2416 : decode cL_law_ 2416 = .ok (.i2l, 1) := by decide +kernel
theorem dL_law__2417 : decode cL_law_ 2417 = .ok (.lcmp, 1) := by decide +kernel
theorem dL_law__2418 : decode cL_law_ 2418 = .ok (.ifCond .eq 5, 3) := by decide +kernel
theorem dL_law__2421 : decode cL_law_ 2421 = .ok (.iconst 0, 1) := by decide +kernel
theorem dL_law__2422 : decode cL_law_ 2422 = .ok (.ireturn, 1) := by decide +kernel
theorem dL_law__2423 : decode cL_law_ 2423 = .ok (.goto 178, 3) := by decide +kernel
theorem dL_law__2426 : decode cL_law_ 2426 = .ok (.aload_n 1, 1) := by decide +kernel
theorem dL_law__2427 : decode cL_law_ 2427 = .ok (.aload_n 0, 1) := by decide +kernel
theorem dL_law__2428 : decode cL_law_ 2428 = .ok (.iload 4, 2) := by decide +kernel
theorem dL_law__2430 : decode cL_law_ 2430 = .ok (.iconst 1, 1) := by decide +kernel
theorem dL_law__2431 : decode cL_law_ 2431 = .ok (.iadd, 1) := by decide +kernel
theorem dL_law__2432 : decode cL_law_ 2432 = .ok (.iaload, 1) := by decide +kernel
theorem dL_law__2433 : decode cL_law_ 2433 = .ok (.aload_n 0, 1) := by decide +kernel
theorem dL_law__2434 : decode cL_law_ 2434 = .ok (.iload 4, 2) := by decide +kernel
theorem dL_law__2436 : decode cL_law_ 2436 = .ok (.iconst 2, 1) := by decide +kernel
theorem dL_law__2437 : decode cL_law_ 2437 = .ok (.iadd, 1) := by decide +kernel
theorem dL_law__2438 : decode cL_law_ 2438 = .ok (.iaload, 1) := by decide +kernel
theorem dL_law__2439 : decode cL_law_ 2439 = .ok (.aload_n 3, 1) := by decide +kernel
theorem dL_law__2440 : decode cL_law_ 2440 = .ok (.invokestatic 248, 3) := by decide +kernel
theorem dL_law__2443 : decode cL_law_ 2443 = .ok (.istore 5, 2) := by decide +kernel
theorem dL_law__2445 : decode cL_law_ 2445 = .ok (.aload_n 2, 1) := by decide +kernel
theorem dL_law__2446 : decode cL_law_ 2446 = .ok (.aload_n 0, 1) := by decide +kernel
theorem dL_law__2447 : decode cL_law_ 2447 = .ok (.iload 4, 2) := by decide +kernel
theorem dL_law__2449 : decode cL_law_ 2449 = .ok (.iconst 1, 1) := by decide +kernel
theorem dL_law__2450 : decode cL_law_ 2450 = .ok (.iadd, 1) := by decide +kernel
theorem dL_law__2451 : decode cL_law_ 2451 = .ok (.iaload, 1) := by decide +kernel
theorem dL_law__2452 : decode cL_law_ 2452 = .ok (.aload_n 0, 1) := by decide +kernel
theorem dL_law__2453 : decode cL_law_ 2453 = .ok (.iload 4, 2) := by decide +kernel
theorem dL_law__2455 : decode cL_law_ 2455 = .ok (.iconst 2, 1) := by decide +kernel
theorem dL_law__2456 : decode cL_law_ 2456 = .ok (.iadd, 1) := by decide +kernel
theorem dL_law__2457 : decode cL_law_ 2457 = .ok (.iaload, 1) := by decide +kernel
theorem dL_law__2458 : decode cL_law_ 2458 = .ok (.invokevirtual 250, 3) := by decide +kernel
theorem dL_law__2461 : decode cL_law_ 2461 = .ok (.istore 6, 2) := by decide +kernel
theorem dL_law__2463 : decode cL_law_ 2463 = .ok (.aload_n 2, 1) := by decide +kernel
theorem dL_law__2464 : decode cL_law_ 2464 = .ok (.invokevirtual 132, 3) := by decide +kernel
theorem dL_law__2467 : decode cL_law_ 2467 = .ok (.iload 5, 2) := by decide +kernel
theorem dL_law__2469 : decode cL_law_ 2469 = .ok (.if_icmp .eq 5, 3) := by decide +kernel
theorem dL_law__2472 : decode cL_law_ 2472 = .ok (.iconst 0, 1) := by decide +kernel
theorem dL_law__2473 : decode cL_law_ 2473 = .ok (.ireturn, 1) := by decide +kernel
theorem dL_law__2474 : decode cL_law_ 2474 = .ok (.iload 5, 2) := by decide +kernel
theorem dL_law__2476 : decode cL_law_ 2476 = .ok (.ifCond .ne 15, 3) := by decide +kernel
theorem dL_law__2479 : decode cL_law_ 2479 = .ok (.aload_n 3, 1) := by decide +kernel
theorem dL_law__2480 : decode cL_law_ 2480 = .ok (.iconst 0, 1) := by decide +kernel
theorem dL_law__2481 : decode cL_law_ 2481 = .ok (.laload, 1) := by decide +kernel
theorem dL_law__2482 : decode cL_law_ 2482 = .ok (.iload 6, 2) := by decide +kernel
theorem dL_law__2484 : decode cL_law_ 2484 = .ok (.i2l, 1) := by decide +kernel
theorem dL_law__2485 : decode cL_law_ 2485 = .ok (.lcmp, 1) := by decide +kernel
theorem dL_law__2486 : decode cL_law_ 2486 = .ok (.ifCond .eq 5, 3) := by decide +kernel
theorem dL_law__2489 : decode cL_law_ 2489 = .ok (.iconst 0, 1) := by decide +kernel
theorem dL_law__2490 : decode cL_law_ 2490 = .ok (.ireturn, 1) := by decide +kernel
theorem dL_law__2491 : decode cL_law_ 2491 = .ok (.goto 110, 3) := by decide +kernel
theorem dL_law__2494 : decode cL_law_ 2494 = .ok (.aload_n 1, 1) := by decide +kernel
theorem dL_law__2495 : decode cL_law_ 2495 = .ok (.aload_n 0, 1) := by decide +kernel
theorem dL_law__2496 : decode cL_law_ 2496 = .ok (.iload 4, 2) := by decide +kernel
theorem dL_law__2498 : decode cL_law_ 2498 = .ok (.iconst 1, 1) := by decide +kernel
theorem dL_law__2499 : decode cL_law_ 2499 = .ok (.iadd, 1) := by decide +kernel
theorem dL_law__2500 : decode cL_law_ 2500 = .ok (.iaload, 1) := by decide +kernel
theorem dL_law__2501 : decode cL_law_ 2501 = .ok (.aload_n 3, 1) := by decide +kernel
theorem dL_law__2502 : decode cL_law_ 2502 = .ok (.invokestatic 251, 3) := by decide +kernel
theorem dL_law__2505 : decode cL_law_ 2505 = .ok (.istore 5, 2) := by decide +kernel
theorem dL_law__2507 : decode cL_law_ 2507 = .ok (.aload_n 2, 1) := by decide +kernel
theorem dL_law__2508 : decode cL_law_ 2508 = .ok (.aload_n 0, 1) := by decide +kernel
theorem dL_law__2509 : decode cL_law_ 2509 = .ok (.iload 4, 2) := by decide +kernel
theorem dL_law__2511 : decode cL_law_ 2511 = .ok (.iconst 1, 1) := by decide +kernel
theorem dL_law__2512 : decode cL_law_ 2512 = .ok (.iadd, 1) := by decide +kernel
theorem dL_law__2513 : decode cL_law_ 2513 = .ok (.iaload, 1) := by decide +kernel
theorem dL_law__2514 : decode cL_law_ 2514 = .ok (.invokevirtual 253, 3) := by decide +kernel
theorem dL_law__2517 : decode cL_law_ 2517 = .ok (.istore 6, 2) := by decide +kernel
theorem dL_law__2519 : decode cL_law_ 2519 = .ok (.aload_n 2, 1) := by decide +kernel
theorem dL_law__2520 : decode cL_law_ 2520 = .ok (.invokevirtual 132, 3) := by decide +kernel
theorem dL_law__2523 : decode cL_law_ 2523 = .ok (.iload 5, 2) := by decide +kernel
theorem dL_law__2525 : decode cL_law_ 2525 = .ok (.if_icmp .eq 5, 3) := by decide +kernel
theorem dL_law__2528 : decode cL_law_ 2528 = .ok (.iconst 0, 1) := by decide +kernel
theorem dL_law__2529 : decode cL_law_ 2529 = .ok (.ireturn, 1) := by decide +kernel
theorem dL_law__2530 : decode cL_law_ 2530 = .ok (.iload 5, 2) := by decide +kernel
theorem dL_law__2532 : decode cL_law_ 2532 = .ok (.ifCond .ne 15, 3) := by decide +kernel
theorem dL_law__2535 : decode cL_law_ 2535 = .ok (.aload_n 3, 1) := by decide +kernel
theorem dL_law__2536 : decode cL_law_ 2536 = .ok (.iconst 0, 1) := by decide +kernel
theorem dL_law__2537 : decode cL_law_ 2537 = .ok (.laload, 1) := by decide +kernel
theorem dL_law__2538 : decode cL_law_ 2538 = .ok (.iload 6, 2) := by decide +kernel
theorem dL_law__2540 : decode cL_law_ 2540 = .ok (.i2l, 1) := by decide +kernel
theorem dL_law__2541 : decode cL_law_ 2541 = .ok (.lcmp, 1) := by decide +kernel
theorem dL_law__2542 : decode cL_law_ 2542 = .ok (.ifCond .eq 5, 3) := by decide +kernel
theorem dL_law__2545 : decode cL_law_ 2545 = .ok (.iconst 0, 1) := by decide +kernel
theorem dL_law__2546 : decode cL_law_ 2546 = .ok (.ireturn, 1) := by decide +kernel
theorem dL_law__2547 : decode cL_law_ 2547 = .ok (.goto 54, 3) := by decide +kernel
theorem dL_law__2550 : decode cL_law_ 2550 = .ok (.aload_n 1, 1) := by decide +kernel
theorem dL_law__2551 : decode cL_law_ 2551 = .ok (.invokevirtual 254, 3) := by decide +kernel
theorem dL_law__2554 : decode cL_law_ 2554 = .ok (.aload_n 2, 1) := by decide +kernel
theorem dL_law__2555 : decode cL_law_ 2555 = .ok (.invokevirtual 257, 3) := by decide +kernel
theorem dL_law__2558 : decode cL_law_ 2558 = .ok (.if_icmp .eq 43, 3) := by decide +kernel
theorem dL_law__2561 : decode cL_law_ 2561 = .ok (.iconst 0, 1) := by decide +kernel
theorem dL_law__2562 : decode cL_law_ 2562 = .ok (.ireturn, 1) := by decide +kernel
theorem dL_law__2563 : decode cL_law_ 2563 = .ok (.aload_n 1, 1) := by decide +kernel
theorem dL_law__2564 : decode cL_law_ 2564 = .ok (.invokevirtual 258, 3) := by decide +kernel
theorem dL_law__2567 : decode cL_law_ 2567 = .ok (.aload_n 2, 1) := by decide +kernel
theorem dL_law__2568 : decode cL_law_ 2568 = .ok (.invokevirtual 261, 3) := by decide +kernel
theorem dL_law__2571 : decode cL_law_ 2571 = .ok (.if_icmp .eq 30, 3) := by decide +kernel
theorem dL_law__2574 : decode cL_law_ 2574 = .ok (.iconst 0, 1) := by decide +kernel
theorem dL_law__2575 : decode cL_law_ 2575 = .ok (.ireturn, 1) := by decide +kernel
theorem dL_law__2576 : decode cL_law_ 2576 = .ok (.aload_n 1, 1) := by decide +kernel
theorem dL_law__2577 : decode cL_law_ 2577 = .ok (.aload_n 0, 1) := by decide +kernel
theorem dL_law__2578 : decode cL_law_ 2578 = .ok (.iload 4, 2) := by decide +kernel
theorem dL_law__2580 : decode cL_law_ 2580 = .ok (.iconst 1, 1) := by decide +kernel
theorem dL_law__2581 : decode cL_law_ 2581 = .ok (.iadd, 1) := by decide +kernel
theorem dL_law__2582 : decode cL_law_ 2582 = .ok (.iaload, 1) := by decide +kernel
theorem dL_law__2583 : decode cL_law_ 2583 = .ok (.invokevirtual 262, 3) := by decide +kernel
theorem dL_law__2586 : decode cL_law_ 2586 = .ok (.aload_n 2, 1) := by decide +kernel
theorem dL_law__2587 : decode cL_law_ 2587 = .ok (.aload_n 0, 1) := by decide +kernel
theorem dL_law__2588 : decode cL_law_ 2588 = .ok (.iload 4, 2) := by decide +kernel
theorem dL_law__2590 : decode cL_law_ 2590 = .ok (.iconst 1, 1) := by decide +kernel
theorem dL_law__2591 : decode cL_law_ 2591 = .ok (.iadd, 1) := by decide +kernel
theorem dL_law__2592 : decode cL_law_ 2592 = .ok (.iaload, 1) := by decide +kernel
theorem dL_law__2593 : decode cL_law_ 2593 = .ok (.invokevirtual 265, 3) := by decide +kernel
theorem dL_law__2596 : decode cL_law_ 2596 = .ok (.if_icmp .eq 5, 3) := by decide +kernel
theorem dL_law__2599 : decode cL_law_ 2599 = .ok (.iconst 0, 1) := by decide +kernel
theorem dL_law__2600 : decode cL_law_ 2600 = .ok (.ireturn, 1) := by decide +kernel
theorem dL_law__2601 : decode cL_law_ 2601 = .ok (.iinc 4 6, 3) := by decide +kernel
theorem dL_law__2604 : decode cL_law_ 2604 = .ok (.goto (-2581), 3) := by decide +kernel
theorem dL_law__2607 : decode cL_law_ 2607 = .ok (.iconst 1, 1) := by decide +kernel
theorem dL_law__2608 : decode cL_law_ 2608 = .ok (.ireturn, 1) := by decide +kernel
