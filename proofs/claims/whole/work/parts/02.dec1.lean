theorem dX4_scanNumber_39 : decode cX4_scanNumber 39 = .ok (.getfield 118, 3) := by decide +kernel
theorem dX4_scanNumber_42 : decode cX4_scanNumber 42 = .ok (.bipush 10, 2) := by decide +kernel
theorem dX4_scanNumber_44 : decode cX4_scanNumber 44 = .ok (.imul, 1) := by decide +kernel
theorem dX4_scanNumber_45 : decode cX4_scanNumber 45 = .ok (.aload_n 0, 1) := by decide +kernel
theorem dX4_scanNumber_46 : decode cX4_scanNumber 46 = .ok (.getfield 15, 3) := by decide +kernel
theorem dX4_scanNumber_49 : decode cX4_scanNumber 49 = .ok (.aload_n 0, 1) := by decide +kernel
theorem dX4_scanNumber_50 : decode cX4_scanNumber 50 = .ok (.getfield 40, 3) := by decide +kernel
theorem dX4_scanNumber_53 : decode cX4_scanNumber 53 = .ok (.iaload, 1) := by decide +kernel
theorem dX4_scanNumber_54 : decode cX4_scanNumber 54 = .ok (.iadd, 1) := by decide +kernel
theorem dX4_scanNumber_55 : decode cX4_scanNumber 55 = .ok (.bipush 48, 2) := by decide +kernel
theorem dX4_scanNumber_57 : decode cX4_scanNumber 57 = .ok (.isub, 1) := by decide +kernel
theorem dX4_scanNumber_58 : decode cX4_scanNumber 58 = .ok (.sipush 10000, 3) := by decide +kernel
theorem dX4_scanNumber_61 : decode cX4_scanNumber 61 = .ok (.invokestatic 18, 3) := by decide +kernel
theorem dX4_scanNumber_64 : decode cX4_scanNumber 64 = .ok (.putfield 118, 3) := by decide +kernel
theorem dX4_scanNumber_67 : decode cX4_scanNumber 67 = .ok (.aload_n 0, 1) := by decide +kernel
theorem dX4_scanNumber_68 : decode cX4_scanNumber 68 = .ok (.dup, 1) := by decide +kernel
theorem dX4_scanNumber_69 : decode cX4_scanNumber 69 = .ok (.getfield 40, 3) := by decide +kernel
theorem dX4_scanNumber_72 : decode cX4_scanNumber 72 = .ok (.iconst 1, 1) := by decide +kernel
theorem dX4_scanNumber_73 : decode cX4_scanNumber 73 = .ok (.iadd, 1) := by decide +kernel
theorem dX4_scanNumber_74 : decode cX4_scanNumber 74 = .ok (.putfield 40, 3) := by decide +kernel
theorem dX4_scanNumber_77 : decode cX4_scanNumber 77 = .ok (.goto (-66), 3) := by decide +kernel
theorem dX4_scanNumber_80 : decode cX4_scanNumber 80 = .ok (.return_, 1) := by decide +kernel
theorem dX4_wordBetween_0 : decode cX4_wordBetween 0 = .ok (.sipush 256, 3) := by decide +kernel
theorem dX4_wordBetween_3 : decode cX4_wordBetween 3 = .ok (.istore_n 3, 1) := by decide +kernel
theorem dX4_wordBetween_4 : decode cX4_wordBetween 4 = .ok (.iload_n 1, 1) := by decide +kernel
theorem dX4_wordBetween_5 : decode cX4_wordBetween 5 = .ok (.istore 4, 2) := by decide +kernel
theorem dX4_wordBetween_7 : decode cX4_wordBetween 7 = .ok (.iconst 1, 1) := by decide +kernel
theorem dX4_wordBetween_8 : decode cX4_wordBetween 8 = .ok (.istore 5, 2) := by decide +kernel
theorem dX4_wordBetween_10 : decode cX4_wordBetween 10 = .ok (.iconst 0, 1) := by decide +kernel
theorem dX4_wordBetween_11 : decode cX4_wordBetween 11 = .ok (.istore 6, 2) := by decide +kernel
theorem dX4_wordBetween_13 : decode cX4_wordBetween 13 = .ok (.iload 6, 2) := by decide +kernel
theorem dX4_wordBetween_15 : decode cX4_wordBetween 15 = .ok (.ldc 136, 2) := by decide +kernel
theorem dX4_wordBetween_17 : decode cX4_wordBetween 17 = .ok (.invokevirtual 138, 3) := by decide +kernel
theorem dX4_wordBetween_20 : decode cX4_wordBetween 20 = .ok (.if_icmp .gt 98, 3) := by decide +kernel
theorem dX4_wordBetween_23 : decode cX4_wordBetween 23 = .ok (.iload 6, 2) := by decide +kernel
theorem dX4_wordBetween_25 : decode cX4_wordBetween 25 = .ok (.ldc 136, 2) := by decide +kernel
theorem dX4_wordBetween_27 : decode cX4_wordBetween 27 = .ok (.invokevirtual 138, 3) := by decide +kernel
theorem dX4_wordBetween_30 : decode cX4_wordBetween 30 = .ok (.if_icmp .ge 13, 3) := by decide +kernel
theorem dX4_wordBetween_33 : decode cX4_wordBetween 33 = .ok (.ldc 136, 2) := by decide +kernel
theorem dX4_wordBetween_35 : decode cX4_wordBetween 35 = .ok (.iload 6, 2) := by decide +kernel
theorem dX4_wordBetween_37 : decode cX4_wordBetween 37 = .ok (.invokevirtual 143, 3) := by decide +kernel
theorem dX4_wordBetween_40 : decode cX4_wordBetween 40 = .ok (.goto 5, 3) := by decide +kernel
theorem dX4_wordBetween_43 : decode cX4_wordBetween 43 = .ok (.bipush 32, 2) := by decide +kernel
theorem dX4_wordBetween_45 : decode cX4_wordBetween 45 = .ok (.istore 7, 2) := by decide +kernel
theorem dX4_wordBetween_47 : decode cX4_wordBetween 47 = .ok (.iload 7, 2) := by decide +kernel
theorem dX4_wordBetween_49 : decode cX4_wordBetween 49 = .ok (.bipush 32, 2) := by decide +kernel
theorem dX4_wordBetween_51 : decode cX4_wordBetween 51 = .ok (.if_icmp .eq 39, 3) := by decide +kernel
theorem dX4_wordBetween_54 : decode cX4_wordBetween 54 = .ok (.iload 5, 2) := by decide +kernel
theorem dX4_wordBetween_56 : decode cX4_wordBetween 56 = .ok (.ifCond .eq 25, 3) := by decide +kernel
theorem dX4_wordBetween_59 : decode cX4_wordBetween 59 = .ok (.iload 4, 2) := by decide +kernel
theorem dX4_wordBetween_61 : decode cX4_wordBetween 61 = .ok (.iload_n 2, 1) := by decide +kernel
theorem dX4_wordBetween_62 : decode cX4_wordBetween 62 = .ok (.if_icmp .ge 19, 3) := by decide +kernel
theorem dX4_wordBetween_65 : decode cX4_wordBetween 65 = .ok (.aload_n 0, 1) := by decide +kernel
theorem dX4_wordBetween_66 : decode cX4_wordBetween 66 = .ok (.getfield 15, 3) := by decide +kernel
theorem dX4_wordBetween_69 : decode cX4_wordBetween 69 = .ok (.iload 4, 2) := by decide +kernel
theorem dX4_wordBetween_71 : decode cX4_wordBetween 71 = .ok (.iaload, 1) := by decide +kernel
theorem dX4_wordBetween_72 : decode cX4_wordBetween 72 = .ok (.iload 7, 2) := by decide +kernel
theorem dX4_wordBetween_74 : decode cX4_wordBetween 74 = .ok (.if_icmp .ne 7, 3) := by decide +kernel
theorem dX4_wordBetween_77 : decode cX4_wordBetween 77 = .ok (.iconst 1, 1) := by decide +kernel
theorem dX4_wordBetween_78 : decode cX4_wordBetween 78 = .ok (.goto 4, 3) := by decide +kernel
theorem dX4_wordBetween_81 : decode cX4_wordBetween 81 = .ok (.iconst 0, 1) := by decide +kernel
theorem dX4_wordBetween_82 : decode cX4_wordBetween 82 = .ok (.istore 5, 2) := by decide +kernel
theorem dX4_wordBetween_84 : decode cX4_wordBetween 84 = .ok (.iinc 4 1, 3) := by decide +kernel
theorem dX4_wordBetween_87 : decode cX4_wordBetween 87 = .ok (.goto 25, 3) := by decide +kernel
theorem dX4_wordBetween_90 : decode cX4_wordBetween 90 = .ok (.iload 5, 2) := by decide +kernel
theorem dX4_wordBetween_92 : decode cX4_wordBetween 92 = .ok (.ifCond .eq 11, 3) := by decide +kernel
theorem dX4_wordBetween_95 : decode cX4_wordBetween 95 = .ok (.iload 4, 2) := by decide +kernel
theorem dX4_wordBetween_97 : decode cX4_wordBetween 97 = .ok (.iload_n 2, 1) := by decide +kernel
theorem dX4_wordBetween_98 : decode cX4_wordBetween 98 = .ok (.if_icmp .ne 5, 3) := by decide +kernel
theorem dX4_wordBetween_101 : decode cX4_wordBetween 101 = .ok (.iload_n 3, 1) := by decide +kernel
theorem dX4_wordBetween_102 : decode cX4_wordBetween 102 = .ok (.ireturn, 1) := by decide +kernel
theorem dX4_wordBetween_103 : decode cX4_wordBetween 103 = .ok (.iinc 3 1, 3) := by decide +kernel
theorem dX4_wordBetween_106 : decode cX4_wordBetween 106 = .ok (.iload_n 1, 1) := by decide +kernel
theorem dX4_wordBetween_107 : decode cX4_wordBetween 107 = .ok (.istore 4, 2) := by decide +kernel
theorem dX4_wordBetween_109 : decode cX4_wordBetween 109 = .ok (.iconst 1, 1) := by decide +kernel
theorem dX4_wordBetween_110 : decode cX4_wordBetween 110 = .ok (.istore 5, 2) := by decide +kernel
theorem dX4_wordBetween_112 : decode cX4_wordBetween 112 = .ok (.iinc 6 1, 3) := by decide +kernel
theorem dX4_wordBetween_115 : decode cX4_wordBetween 115 = .ok (.goto (-102), 3) := by decide +kernel
theorem dX4_wordBetween_118 : decode cX4_wordBetween 118 = .ok (.bipush (-3), 2) := by decide +kernel
theorem dX4_wordBetween_120 : decode cX4_wordBetween 120 = .ok (.ireturn, 1) := by decide +kernel
theorem dX5_init_0 : decode cX5_init 0 = .ok (.aload_n 0, 1) := by decide +kernel
theorem dX5_init_1 : decode cX5_init 1 = .ok (.invokespecial 1, 3) := by decide +kernel
theorem dX5_init_4 : decode cX5_init 4 = .ok (.aload_n 0, 1) := by decide +kernel
theorem dX5_init_5 : decode cX5_init 5 = .ok (.iload_n 1, 1) := by decide +kernel
theorem dX5_init_6 : decode cX5_init 6 = .ok (.ifCond .le 7, 3) := by decide +kernel
theorem dX5_init_9 : decode cX5_init 9 = .ok (.iload_n 1, 1) := by decide +kernel
theorem dX5_init_10 : decode cX5_init 10 = .ok (.goto 4, 3) := by decide +kernel
theorem dX5_init_13 : decode cX5_init 13 = .ok (.iconst 0, 1) := by decide +kernel
theorem dX5_init_14 : decode cX5_init 14 = .ok (.newarray .int, 2) := by decide +kernel
theorem dX5_init_16 : decode cX5_init 16 = .ok (.putfield 7, 3) := by decide +kernel
theorem dX5_init_19 : decode cX5_init 19 = .ok (.return_, 1) := by decide +kernel
theorem dX5_filled_0 : decode cX5_filled 0 = .ok (.aload_n 0, 1) := by decide +kernel
theorem dX5_filled_1 : decode cX5_filled 1 = .ok (.getfield 13, 3) := by decide +kernel
theorem dX5_filled_4 : decode cX5_filled 4 = .ok (.ireturn, 1) := by decide +kernel
theorem dX5_isFull_0 : decode cX5_isFull 0 = .ok (.aload_n 0, 1) := by decide +kernel
theorem dX5_isFull_1 : decode cX5_isFull 1 = .ok (.getfield 13, 3) := by decide +kernel
theorem dX5_isFull_4 : decode cX5_isFull 4 = .ok (.aload_n 0, 1) := by decide +kernel
theorem dX5_isFull_5 : decode cX5_isFull 5 = .ok (.getfield 7, 3) := by decide +kernel
theorem dX5_isFull_8 : decode cX5_isFull 8 = .ok (.arraylength, 1) := by decide +kernel
theorem dX5_isFull_9 : decode cX5_isFull 9 = .ok (.if_icmp .lt 7, 3) := by decide +kernel
theorem dX5_isFull_12 : decode cX5_isFull 12 = .ok (.iconst 1, 1) := by decide +kernel
theorem dX5_isFull_13 : decode cX5_isFull 13 = .ok (.goto 4, 3) := by decide +kernel
theorem dX5_isFull_16 : decode cX5_isFull 16 = .ok (.iconst 0, 1) := by decide +kernel
theorem dX5_isFull_17 : decode cX5_isFull 17 = .ok (.ireturn, 1) := by decide +kernel
theorem dX5_at_0 : decode cX5_at 0 = .ok (.iload_n 1, 1) := by decide +kernel
theorem dX5_at_1 : decode cX5_at 1 = .ok (.ifCond .lt 29, 3) := by decide +kernel
theorem dX5_at_4 : decode cX5_at 4 = .ok (.iload_n 1, 1) := by decide +kernel
theorem dX5_at_5 : decode cX5_at 5 = .ok (.aload_n 0, 1) := by decide +kernel
theorem dX5_at_6 : decode cX5_at 6 = .ok (.getfield 13, 3) := by decide +kernel
theorem dX5_at_9 : decode cX5_at 9 = .ok (.if_icmp .ge 21, 3) := by decide +kernel
theorem dX5_at_12 : decode cX5_at 12 = .ok (.iload_n 1, 1) := by decide +kernel
theorem dX5_at_13 : decode cX5_at 13 = .ok (.aload_n 0, 1) := by decide +kernel
theorem dX5_at_14 : decode cX5_at 14 = .ok (.getfield 7, 3) := by decide +kernel
theorem dX5_at_17 : decode cX5_at 17 = .ok (.arraylength, 1) := by decide +kernel
theorem dX5_at_18 : decode cX5_at 18 = .ok (.if_icmp .ge 12, 3) := by decide +kernel
theorem dX5_at_21 : decode cX5_at 21 = .ok (.aload_n 0, 1) := by decide +kernel
theorem dX5_at_22 : decode cX5_at 22 = .ok (.getfield 7, 3) := by decide +kernel
theorem dX5_at_25 : decode cX5_at 25 = .ok (.iload_n 1, 1) := by decide +kernel
theorem dX5_at_26 : decode cX5_at 26 = .ok (.iaload, 1) := by decide +kernel
theorem dX5_at_27 : decode cX5_at 27 = .ok (.goto 4, 3) := by decide +kernel
theorem dX5_at_30 : decode cX5_at 30 = .ok (.iconst 0, 1) := by decide +kernel
theorem dX5_at_31 : decode cX5_at 31 = .ok (.ireturn, 1) := by decide +kernel
theorem dX5_add_0 : decode cX5_add 0 = .ok (.aload_n 0, 1) := by decide +kernel
theorem dX5_add_1 : decode cX5_add 1 = .ok (.getfield 13, 3) := by decide +kernel
theorem dX5_add_4 : decode cX5_add 4 = .ok (.aload_n 0, 1) := by decide +kernel
theorem dX5_add_5 : decode cX5_add 5 = .ok (.getfield 7, 3) := by decide +kernel
theorem dX5_add_8 : decode cX5_add 8 = .ok (.arraylength, 1) := by decide +kernel
theorem dX5_add_9 : decode cX5_add 9 = .ok (.if_icmp .ge 23, 3) := by decide +kernel
theorem dX5_add_12 : decode cX5_add 12 = .ok (.aload_n 0, 1) := by decide +kernel
theorem dX5_add_13 : decode cX5_add 13 = .ok (.getfield 7, 3) := by decide +kernel
theorem dX5_add_16 : decode cX5_add 16 = .ok (.aload_n 0, 1) := by decide +kernel
theorem dX5_add_17 : decode cX5_add 17 = .ok (.getfield 13, 3) := by decide +kernel
theorem dX5_add_20 : decode cX5_add 20 = .ok (.iload_n 1, 1) := by decide +kernel
theorem dX5_add_21 : decode cX5_add 21 = .ok (.iastore, 1) := by decide +kernel
theorem dX5_add_22 : decode cX5_add 22 = .ok (.aload_n 0, 1) := by decide +kernel
theorem dX5_add_23 : decode cX5_add 23 = .ok (.dup, 1) := by decide +kernel
theorem dX5_add_24 : decode cX5_add 24 = .ok (.getfield 13, 3) := by decide +kernel
theorem dX5_add_27 : decode cX5_add 27 = .ok (.iconst 1, 1) := by decide +kernel
theorem dX5_add_28 : decode cX5_add 28 = .ok (.iadd, 1) := by decide +kernel
theorem dX5_add_29 : decode cX5_add 29 = .ok (.putfield 13, 3) := by decide +kernel
theorem dX5_add_32 : decode cX5_add 32 = .ok (.return_, 1) := by decide +kernel
theorem dX5_empty_0 : decode cX5_empty 0 = .ok (.aload_n 0, 1) := by decide +kernel
theorem dX5_empty_1 : decode cX5_empty 1 = .ok (.iconst 0, 1) := by decide +kernel
theorem dX5_empty_2 : decode cX5_empty 2 = .ok (.putfield 13, 3) := by decide +kernel
theorem dX5_empty_5 : decode cX5_empty 5 = .ok (.return_, 1) := by decide +kernel
theorem dX5_copyFrom_0 : decode cX5_copyFrom 0 = .ok (.aload_n 0, 1) := by decide +kernel
theorem dX5_copyFrom_1 : decode cX5_copyFrom 1 = .ok (.invokevirtual 17, 3) := by decide +kernel
theorem dX5_copyFrom_4 : decode cX5_copyFrom 4 = .ok (.iconst 0, 1) := by decide +kernel
theorem dX5_copyFrom_5 : decode cX5_copyFrom 5 = .ok (.istore_n 2, 1) := by decide +kernel
theorem dX5_copyFrom_6 : decode cX5_copyFrom 6 = .ok (.iload_n 2, 1) := by decide +kernel
theorem dX5_copyFrom_7 : decode cX5_copyFrom 7 = .ok (.aload_n 1, 1) := by decide +kernel
theorem dX5_copyFrom_8 : decode cX5_copyFrom 8 = .ok (.getfield 13, 3) := by decide +kernel
theorem dX5_copyFrom_11 : decode cX5_copyFrom 11 = .ok (.if_icmp .ge 18, 3) := by decide +kernel
theorem dX5_copyFrom_14 : decode cX5_copyFrom 14 = .ok (.aload_n 0, 1) := by decide +kernel
theorem dX5_copyFrom_15 : decode cX5_copyFrom 15 = .ok (.aload_n 1, 1) := by decide +kernel
theorem dX5_copyFrom_16 : decode cX5_copyFrom 16 = .ok (.iload_n 2, 1) := by decide +kernel
theorem dX5_copyFrom_17 : decode cX5_copyFrom 17 = .ok (.invokevirtual 20, 3) := by decide +kernel
theorem dX5_copyFrom_20 : decode cX5_copyFrom 20 = .ok (.invokevirtual 24, 3) := by decide +kernel
theorem dX5_copyFrom_23 : decode cX5_copyFrom 23 = .ok (.iinc 2 1, 3) := by decide +kernel
theorem dX5_copyFrom_26 : decode cX5_copyFrom 26 = .ok (.goto (-20), 3) := by decide +kernel
theorem dX5_copyFrom_29 : decode cX5_copyFrom 29 = .ok (.return_, 1) := by decide +kernel
theorem dX6_init_0 : decode cX6_init 0 = .ok (.aload_n 0, 1) := by decide +kernel
theorem dX6_init_1 : decode cX6_init 1 = .ok (.invokespecial 3, 3) := by decide +kernel
theorem dX6_init_4 : decode cX6_init 4 = .ok (.aload_n 0, 1) := by decide +kernel
theorem dX6_init_5 : decode cX6_init 5 = .ok (.iconst 1, 1) := by decide +kernel
theorem dX6_init_6 : decode cX6_init 6 = .ok (.putfield 9, 3) := by decide +kernel
theorem dX6_init_9 : decode cX6_init 9 = .ok (.aload_n 0, 1) := by decide +kernel
theorem dX6_init_10 : decode cX6_init 10 = .ok (.iconst 1, 1) := by decide +kernel
theorem dX6_init_11 : decode cX6_init 11 = .ok (.putfield 15, 3) := by decide +kernel
theorem dX6_init_14 : decode cX6_init 14 = .ok (.aload_n 0, 1) := by decide +kernel
theorem dX6_init_15 : decode cX6_init 15 = .ok (.iconst (-1), 1) := by decide +kernel
theorem dX6_init_16 : decode cX6_init 16 = .ok (.putfield 18, 3) := by decide +kernel
theorem dX6_init_19 : decode cX6_init 19 = .ok (.return_, 1) := by decide +kernel
theorem dX6_place_0 : decode cX6_place 0 = .ok (.aload_n 0, 1) := by decide +kernel
theorem dX6_place_1 : decode cX6_place 1 = .ok (.iload_n 1, 1) := by decide +kernel
theorem dX6_place_2 : decode cX6_place 2 = .ok (.putfield 21, 3) := by decide +kernel
theorem dX6_place_5 : decode cX6_place 5 = .ok (.aload_n 0, 1) := by decide +kernel
theorem dX6_place_6 : decode cX6_place 6 = .ok (.iload_n 2, 1) := by decide +kernel
theorem dX6_place_7 : decode cX6_place 7 = .ok (.putfield 9, 3) := by decide +kernel
theorem dX6_place_10 : decode cX6_place 10 = .ok (.aload_n 0, 1) := by decide +kernel
theorem dX6_place_11 : decode cX6_place 11 = .ok (.iload_n 3, 1) := by decide +kernel
theorem dX6_place_12 : decode cX6_place 12 = .ok (.putfield 15, 3) := by decide +kernel
theorem dX6_place_15 : decode cX6_place 15 = .ok (.aload_n 0, 1) := by decide +kernel
theorem dX6_place_16 : decode cX6_place 16 = .ok (.iload 4, 2) := by decide +kernel
theorem dX6_place_18 : decode cX6_place 18 = .ok (.putfield 18, 3) := by decide +kernel
theorem dX6_place_21 : decode cX6_place 21 = .ok (.return_, 1) := by decide +kernel
theorem dX6_dress_0 : decode cX6_dress 0 = .ok (.aload_n 0, 1) := by decide +kernel
theorem dX6_dress_1 : decode cX6_dress 1 = .ok (.iload_n 1, 1) := by decide +kernel
theorem dX6_dress_2 : decode cX6_dress 2 = .ok (.putfield 24, 3) := by decide +kernel
theorem dX6_dress_5 : decode cX6_dress 5 = .ok (.aload_n 0, 1) := by decide +kernel
theorem dX6_dress_6 : decode cX6_dress 6 = .ok (.iload_n 2, 1) := by decide +kernel
theorem dX6_dress_7 : decode cX6_dress 7 = .ok (.putfield 28, 3) := by decide +kernel
theorem dX6_dress_10 : decode cX6_dress 10 = .ok (.return_, 1) := by decide +kernel
theorem dX6_copyFrom_0 : decode cX6_copyFrom 0 = .ok (.aload_n 0, 1) := by decide +kernel
theorem dX6_copyFrom_1 : decode cX6_copyFrom 1 = .ok (.aload_n 1, 1) := by decide +kernel
theorem dX6_copyFrom_2 : decode cX6_copyFrom 2 = .ok (.getfield 21, 3) := by decide +kernel
theorem dX6_copyFrom_5 : decode cX6_copyFrom 5 = .ok (.aload_n 1, 1) := by decide +kernel
theorem dX6_copyFrom_6 : decode cX6_copyFrom 6 = .ok (.getfield 9, 3) := by decide +kernel
theorem dX6_copyFrom_9 : decode cX6_copyFrom 9 = .ok (.aload_n 1, 1) := by decide +kernel
theorem dX6_copyFrom_10 : decode cX6_copyFrom 10 = .ok (.getfield 15, 3) := by decide +kernel
theorem dX6_copyFrom_13 : decode cX6_copyFrom 13 = .ok (.aload_n 1, 1) := by decide +kernel
theorem dX6_copyFrom_14 : decode cX6_copyFrom 14 = .ok (.getfield 18, 3) := by decide +kernel
theorem dX6_copyFrom_17 : decode cX6_copyFrom 17 = .ok (.invokevirtual 31, 3) := by decide +kernel
theorem dX6_copyFrom_20 : decode cX6_copyFrom 20 = .ok (.aload_n 0, 1) := by decide +kernel
theorem dX6_copyFrom_21 : decode cX6_copyFrom 21 = .ok (.aload_n 1, 1) := by decide +kernel
theorem dX6_copyFrom_22 : decode cX6_copyFrom 22 = .ok (.getfield 24, 3) := by decide +kernel
theorem dX6_copyFrom_25 : decode cX6_copyFrom 25 = .ok (.aload_n 1, 1) := by decide +kernel
theorem dX6_copyFrom_26 : decode cX6_copyFrom 26 = .ok (.getfield 28, 3) := by decide +kernel
theorem dX6_copyFrom_29 : decode cX6_copyFrom 29 = .ok (.invokevirtual 35, 3) := by decide +kernel
theorem dX6_copyFrom_32 : decode cX6_copyFrom 32 = .ok (.return_, 1) := by decide +kernel
theorem dX7_init_0 : decode cX7_init 0 = .ok (.aload_n 0, 1) := by decide +kernel
theorem dX7_init_1 : decode cX7_init 1 = .ok (.invokespecial 1, 3) := by decide +kernel
theorem dX7_init_4 : decode cX7_init 4 = .ok (.aload_n 0, 1) := by decide +kernel
theorem dX7_init_5 : decode cX7_init 5 = .ok (.iload_n 1, 1) := by decide +kernel
theorem dX7_init_6 : decode cX7_init 6 = .ok (.ifCond .le 7, 3) := by decide +kernel
theorem dX7_init_9 : decode cX7_init 9 = .ok (.iload_n 1, 1) := by decide +kernel
theorem dX7_init_10 : decode cX7_init 10 = .ok (.goto 4, 3) := by decide +kernel
theorem dX7_init_13 : decode cX7_init 13 = .ok (.iconst 0, 1) := by decide +kernel
theorem dX7_init_14 : decode cX7_init 14 = .ok (.anewarray 7, 3) := by decide +kernel
theorem dX7_init_17 : decode cX7_init 17 = .ok (.putfield 9, 3) := by decide +kernel
theorem dX7_init_20 : decode cX7_init 20 = .ok (.return_, 1) := by decide +kernel
theorem dX7_filled_0 : decode cX7_filled 0 = .ok (.aload_n 0, 1) := by decide +kernel
theorem dX7_filled_1 : decode cX7_filled 1 = .ok (.getfield 15, 3) := by decide +kernel
theorem dX7_filled_4 : decode cX7_filled 4 = .ok (.ireturn, 1) := by decide +kernel
theorem dX7_isFull_0 : decode cX7_isFull 0 = .ok (.aload_n 0, 1) := by decide +kernel
theorem dX7_isFull_1 : decode cX7_isFull 1 = .ok (.getfield 15, 3) := by decide +kernel
theorem dX7_isFull_4 : decode cX7_isFull 4 = .ok (.aload_n 0, 1) := by decide +kernel
theorem dX7_isFull_5 : decode cX7_isFull 5 = .ok (.getfield 9, 3) := by decide +kernel
theorem dX7_isFull_8 : decode cX7_isFull 8 = .ok (.arraylength, 1) := by decide +kernel
theorem dX7_isFull_9 : decode cX7_isFull 9 = .ok (.if_icmp .lt 7, 3) := by decide +kernel
theorem dX7_isFull_12 : decode cX7_isFull 12 = .ok (.iconst 1, 1) := by decide +kernel
theorem dX7_isFull_13 : decode cX7_isFull 13 = .ok (.goto 4, 3) := by decide +kernel
theorem dX7_isFull_16 : decode cX7_isFull 16 = .ok (.iconst 0, 1) := by decide +kernel
theorem dX7_isFull_17 : decode cX7_isFull 17 = .ok (.ireturn, 1) := by decide +kernel
theorem dX7_put_0 : decode cX7_put 0 = .ok (.aload_n 0, 1) := by decide +kernel
theorem dX7_put_1 : decode cX7_put 1 = .ok (.getfield 15, 3) := by decide +kernel
theorem dX7_put_4 : decode cX7_put 4 = .ok (.aload_n 0, 1) := by decide +kernel
theorem dX7_put_5 : decode cX7_put 5 = .ok (.getfield 9, 3) := by decide +kernel
theorem dX7_put_8 : decode cX7_put 8 = .ok (.arraylength, 1) := by decide +kernel
theorem dX7_put_9 : decode cX7_put 9 = .ok (.if_icmp .ge 23, 3) := by decide +kernel
theorem dX7_put_12 : decode cX7_put 12 = .ok (.aload_n 0, 1) := by decide +kernel
theorem dX7_put_13 : decode cX7_put 13 = .ok (.getfield 9, 3) := by decide +kernel
theorem dX7_put_16 : decode cX7_put 16 = .ok (.aload_n 0, 1) := by decide +kernel
theorem dX7_put_17 : decode cX7_put 17 = .ok (.getfield 15, 3) := by decide +kernel
theorem dX7_put_20 : decode cX7_put 20 = .ok (.aload_n 1, 1) := by decide +kernel
theorem dX7_put_21 : decode cX7_put 21 = .ok (.aastore, 1) := by decide +kernel
theorem dX7_put_22 : decode cX7_put 22 = .ok (.aload_n 0, 1) := by decide +kernel
theorem dX7_put_23 : decode cX7_put 23 = .ok (.dup, 1) := by decide +kernel
theorem dX7_put_24 : decode cX7_put 24 = .ok (.getfield 15, 3) := by decide +kernel
theorem dX7_put_27 : decode cX7_put 27 = .ok (.iconst 1, 1) := by decide +kernel
theorem dX7_put_28 : decode cX7_put 28 = .ok (.iadd, 1) := by decide +kernel
theorem dX7_put_29 : decode cX7_put 29 = .ok (.putfield 15, 3) := by decide +kernel
theorem dX7_put_32 : decode cX7_put 32 = .ok (.aload_n 0, 1) := by decide +kernel
theorem dX7_put_33 : decode cX7_put 33 = .ok (.getfield 15, 3) := by decide +kernel
theorem dX7_put_36 : decode cX7_put 36 = .ok (.iconst 1, 1) := by decide +kernel
theorem dX7_put_37 : decode cX7_put 37 = .ok (.isub, 1) := by decide +kernel
theorem dX7_put_38 : decode cX7_put 38 = .ok (.ireturn, 1) := by decide +kernel
theorem dX7_at_0 : decode cX7_at 0 = .ok (.iload_n 1, 1) := by decide +kernel
theorem dX7_at_1 : decode cX7_at 1 = .ok (.ifCond .lt 24, 3) := by decide +kernel
theorem dX7_at_4 : decode cX7_at 4 = .ok (.iload_n 1, 1) := by decide +kernel
theorem dX7_at_5 : decode cX7_at 5 = .ok (.aload_n 0, 1) := by decide +kernel
theorem dX7_at_6 : decode cX7_at 6 = .ok (.getfield 15, 3) := by decide +kernel
theorem dX7_at_9 : decode cX7_at 9 = .ok (.if_icmp .ge 16, 3) := by decide +kernel
theorem dX7_at_12 : decode cX7_at 12 = .ok (.iload_n 1, 1) := by decide +kernel
theorem dX7_at_13 : decode cX7_at 13 = .ok (.aload_n 0, 1) := by decide +kernel
theorem dX7_at_14 : decode cX7_at 14 = .ok (.getfield 9, 3) := by decide +kernel
theorem dX7_at_17 : decode cX7_at 17 = .ok (.arraylength, 1) := by decide +kernel
theorem dX7_at_18 : decode cX7_at 18 = .ok (.if_icmp .ge 7, 3) := by decide +kernel
theorem dX7_at_21 : decode cX7_at 21 = .ok (.iconst 1, 1) := by decide +kernel
theorem dX7_at_22 : decode cX7_at 22 = .ok (.goto 4, 3) := by decide +kernel
theorem dX7_at_25 : decode cX7_at 25 = .ok (.iconst 0, 1) := by decide +kernel
theorem dX7_at_26 : decode cX7_at 26 = .ok (.istore_n 2, 1) := by decide +kernel
theorem dX7_at_27 : decode cX7_at 27 = .ok (.iload_n 2, 1) := by decide +kernel
theorem dX7_at_28 : decode cX7_at 28 = .ok (.ifCond .eq 12, 3) := by decide +kernel
theorem dX7_at_31 : decode cX7_at 31 = .ok (.aload_n 0, 1) := by decide +kernel
theorem dX7_at_32 : decode cX7_at 32 = .ok (.getfield 9, 3) := by decide +kernel
theorem dX7_at_35 : decode cX7_at 35 = .ok (.iload_n 1, 1) := by decide +kernel
theorem dX7_at_36 : decode cX7_at 36 = .ok (.aaload, 1) := by decide +kernel
theorem dX7_at_37 : decode cX7_at 37 = .ok (.goto 4, 3) := by decide +kernel
theorem dX7_at_40 : decode cX7_at 40 = .ok (.aconst_null, 1) := by decide +kernel
theorem dX7_at_41 : decode cX7_at 41 = .ok (.areturn, 1) := by decide +kernel
theorem dX8_init_0 : decode cX8_init 0 = .ok (.aload_n 0, 1) := by decide +kernel
theorem dX8_init_1 : decode cX8_init 1 = .ok (.invokespecial 3, 3) := by decide +kernel
theorem dX8_init_4 : decode cX8_init 4 = .ok (.aload_n 0, 1) := by decide +kernel
theorem dX8_init_5 : decode cX8_init 5 = .ok (.new 9, 3) := by decide +kernel
theorem dX8_init_8 : decode cX8_init 8 = .ok (.dup, 1) := by decide +kernel
theorem dX8_init_9 : decode cX8_init 9 = .ok (.bipush 20, 2) := by decide +kernel
theorem dX8_init_11 : decode cX8_init 11 = .ok (.invokespecial 11, 3) := by decide +kernel
theorem dX8_init_14 : decode cX8_init 14 = .ok (.putfield 14, 3) := by decide +kernel
theorem dX8_init_17 : decode cX8_init 17 = .ok (.return_, 1) := by decide +kernel
theorem dX8_known_0 : decode cX8_known 0 = .ok (.aload_n 0, 1) := by decide +kernel
theorem dX8_known_1 : decode cX8_known 1 = .ok (.getfield 14, 3) := by decide +kernel
theorem dX8_known_4 : decode cX8_known 4 = .ok (.invokevirtual 20, 3) := by decide +kernel
theorem dX8_known_7 : decode cX8_known 7 = .ok (.ireturn, 1) := by decide +kernel
theorem dX8_ratioAt_0 : decode cX8_ratioAt 0 = .ok (.aload_n 0, 1) := by decide +kernel
theorem dX8_ratioAt_1 : decode cX8_ratioAt 1 = .ok (.getfield 14, 3) := by decide +kernel
theorem dX8_ratioAt_4 : decode cX8_ratioAt 4 = .ok (.iload_n 1, 1) := by decide +kernel
theorem dX8_ratioAt_5 : decode cX8_ratioAt 5 = .ok (.invokevirtual 24, 3) := by decide +kernel
theorem dX8_ratioAt_8 : decode cX8_ratioAt 8 = .ok (.ireturn, 1) := by decide +kernel
theorem dX8_addShip_0 : decode cX8_addShip 0 = .ok (.aload_n 0, 1) := by decide +kernel
theorem dX8_addShip_1 : decode cX8_addShip 1 = .ok (.getfield 14, 3) := by decide +kernel
theorem dX8_addShip_4 : decode cX8_addShip 4 = .ok (.invokevirtual 28, 3) := by decide +kernel
theorem dX8_addShip_7 : decode cX8_addShip 7 = .ok (.ifCond .eq 5, 3) := by decide +kernel
theorem dX8_addShip_10 : decode cX8_addShip 10 = .ok (.iconst (-1), 1) := by decide +kernel
theorem dX8_addShip_11 : decode cX8_addShip 11 = .ok (.ireturn, 1) := by decide +kernel
theorem dX8_addShip_12 : decode cX8_addShip 12 = .ok (.ldc2_w 32, 3) := by decide +kernel
theorem dX8_addShip_15 : decode cX8_addShip 15 = .ok (.iload_n 2, 1) := by decide +kernel
theorem dX8_addShip_16 : decode cX8_addShip 16 = .ok (.i2l, 1) := by decide +kernel
theorem dX8_addShip_17 : decode cX8_addShip 17 = .ok (.lmul, 1) := by decide +kernel
theorem dX8_addShip_18 : decode cX8_addShip 18 = .ok (.iload_n 1, 1) := by decide +kernel
theorem dX8_addShip_19 : decode cX8_addShip 19 = .ok (.i2l, 1) := by decide +kernel
theorem dX8_addShip_20 : decode cX8_addShip 20 = .ok (.invokestatic 34, 3) := by decide +kernel
theorem dX8_addShip_23 : decode cX8_addShip 23 = .ok (.lstore_n 3, 1) := by decide +kernel
theorem dX8_addShip_24 : decode cX8_addShip 24 = .ok (.aload_n 0, 1) := by decide +kernel
theorem dX8_addShip_25 : decode cX8_addShip 25 = .ok (.getfield 14, 3) := by decide +kernel
theorem dX8_addShip_28 : decode cX8_addShip 28 = .ok (.lload_n 3, 1) := by decide +kernel
theorem dX8_addShip_29 : decode cX8_addShip 29 = .ok (.ldc2_w 38, 3) := by decide +kernel
theorem dX8_addShip_32 : decode cX8_addShip 32 = .ok (.lcmp, 1) := by decide +kernel
theorem dX8_addShip_33 : decode cX8_addShip 33 = .ok (.ifCond .le 8, 3) := by decide +kernel
theorem dX8_addShip_36 : decode cX8_addShip 36 = .ok (.ldc 40, 2) := by decide +kernel
theorem dX8_addShip_38 : decode cX8_addShip 38 = .ok (.goto 5, 3) := by decide +kernel
theorem dX8_addShip_41 : decode cX8_addShip 41 = .ok (.lload_n 3, 1) := by decide +kernel
theorem dX8_addShip_42 : decode cX8_addShip 42 = .ok (.l2i, 1) := by decide +kernel
theorem dX8_addShip_43 : decode cX8_addShip 43 = .ok (.invokevirtual 41, 3) := by decide +kernel
theorem dX8_addShip_46 : decode cX8_addShip 46 = .ok (.aload_n 0, 1) := by decide +kernel
theorem dX8_addShip_47 : decode cX8_addShip 47 = .ok (.getfield 14, 3) := by decide +kernel
theorem dX8_addShip_50 : decode cX8_addShip 50 = .ok (.invokevirtual 20, 3) := by decide +kernel
theorem dX8_addShip_53 : decode cX8_addShip 53 = .ok (.ireturn, 1) := by decide +kernel
theorem dX8_middle_0 : decode cX8_middle 0 = .ok (.aload_n 0, 1) := by decide +kernel
theorem dX8_middle_1 : decode cX8_middle 1 = .ok (.invokevirtual 44, 3) := by decide +kernel
theorem dX8_middle_4 : decode cX8_middle 4 = .ok (.iconst 1, 1) := by decide +kernel
theorem dX8_middle_5 : decode cX8_middle 5 = .ok (.isub, 1) := by decide +kernel
theorem dX8_middle_6 : decode cX8_middle 6 = .ok (.iconst 2, 1) := by decide +kernel
theorem dX8_middle_7 : decode cX8_middle 7 = .ok (.idiv, 1) := by decide +kernel
theorem dX8_middle_8 : decode cX8_middle 8 = .ok (.istore_n 1, 1) := by decide +kernel
theorem dX8_middle_9 : decode cX8_middle 9 = .ok (.iconst 0, 1) := by decide +kernel
theorem dX8_middle_10 : decode cX8_middle 10 = .ok (.istore_n 2, 1) := by decide +kernel
theorem dX8_middle_11 : decode cX8_middle 11 = .ok (.iload_n 2, 1) := by decide +kernel
theorem dX8_middle_12 : decode cX8_middle 12 = .ok (.aload_n 0, 1) := by decide +kernel
theorem dX8_middle_13 : decode cX8_middle 13 = .ok (.invokevirtual 44, 3) := by decide +kernel
theorem dX8_middle_16 : decode cX8_middle 16 = .ok (.if_icmp .ge 95, 3) := by decide +kernel
theorem dX8_middle_19 : decode cX8_middle 19 = .ok (.iconst 0, 1) := by decide +kernel
theorem dX8_middle_20 : decode cX8_middle 20 = .ok (.istore_n 3, 1) := by decide +kernel
theorem dX8_middle_21 : decode cX8_middle 21 = .ok (.iconst 0, 1) := by decide +kernel
theorem dX8_middle_22 : decode cX8_middle 22 = .ok (.istore 4, 2) := by decide +kernel
theorem dX8_middle_24 : decode cX8_middle 24 = .ok (.iconst 0, 1) := by decide +kernel
theorem dX8_middle_25 : decode cX8_middle 25 = .ok (.istore 5, 2) := by decide +kernel
theorem dX8_middle_27 : decode cX8_middle 27 = .ok (.iload 5, 2) := by decide +kernel
theorem dX8_middle_29 : decode cX8_middle 29 = .ok (.aload_n 0, 1) := by decide +kernel
theorem dX8_middle_30 : decode cX8_middle 30 = .ok (.invokevirtual 44, 3) := by decide +kernel
theorem dX8_middle_33 : decode cX8_middle 33 = .ok (.if_icmp .ge 55, 3) := by decide +kernel
theorem dX8_middle_36 : decode cX8_middle 36 = .ok (.iload_n 3, 1) := by decide +kernel
theorem dX8_middle_37 : decode cX8_middle 37 = .ok (.aload_n 0, 1) := by decide +kernel
theorem dX8_middle_38 : decode cX8_middle 38 = .ok (.iload 5, 2) := by decide +kernel
theorem dX8_middle_40 : decode cX8_middle 40 = .ok (.invokevirtual 47, 3) := by decide +kernel
theorem dX8_middle_43 : decode cX8_middle 43 = .ok (.aload_n 0, 1) := by decide +kernel
theorem dX8_middle_44 : decode cX8_middle 44 = .ok (.iload_n 2, 1) := by decide +kernel
theorem dX8_middle_45 : decode cX8_middle 45 = .ok (.invokevirtual 47, 3) := by decide +kernel
theorem dX8_middle_48 : decode cX8_middle 48 = .ok (.if_icmp .ge 7, 3) := by decide +kernel
theorem dX8_middle_51 : decode cX8_middle 51 = .ok (.iconst 1, 1) := by decide +kernel
theorem dX8_middle_52 : decode cX8_middle 52 = .ok (.goto 4, 3) := by decide +kernel
theorem dX8_middle_55 : decode cX8_middle 55 = .ok (.iconst 0, 1) := by decide +kernel
theorem dX8_middle_56 : decode cX8_middle 56 = .ok (.iadd, 1) := by decide +kernel
theorem dX8_middle_57 : decode cX8_middle 57 = .ok (.istore_n 3, 1) := by decide +kernel
theorem dX8_middle_58 : decode cX8_middle 58 = .ok (.iload 4, 2) := by decide +kernel
theorem dX8_middle_60 : decode cX8_middle 60 = .ok (.aload_n 0, 1) := by decide +kernel
theorem dX8_middle_61 : decode cX8_middle 61 = .ok (.iload 5, 2) := by decide +kernel
theorem dX8_middle_63 : decode cX8_middle 63 = .ok (.invokevirtual 47, 3) := by decide +kernel
theorem dX8_middle_66 : decode cX8_middle 66 = .ok (.aload_n 0, 1) := by decide +kernel
theorem dX8_middle_67 : decode cX8_middle 67 = .ok (.iload_n 2, 1) := by decide +kernel
theorem dX8_middle_68 : decode cX8_middle 68 = .ok (.invokevirtual 47, 3) := by decide +kernel
theorem dX8_middle_71 : decode cX8_middle 71 = .ok (.if_icmp .gt 7, 3) := by decide +kernel
theorem dX8_middle_74 : decode cX8_middle 74 = .ok (.iconst 1, 1) := by decide +kernel
theorem dX8_middle_75 : decode cX8_middle 75 = .ok (.goto 4, 3) := by decide +kernel
theorem dX8_middle_78 : decode cX8_middle 78 = .ok (.iconst 0, 1) := by decide +kernel
theorem dX8_middle_79 : decode cX8_middle 79 = .ok (.iadd, 1) := by decide +kernel
theorem dX8_middle_80 : decode cX8_middle 80 = .ok (.istore 4, 2) := by decide +kernel
theorem dX8_middle_82 : decode cX8_middle 82 = .ok (.iinc 5 1, 3) := by decide +kernel
theorem dX8_middle_85 : decode cX8_middle 85 = .ok (.goto (-58), 3) := by decide +kernel
theorem dX8_middle_88 : decode cX8_middle 88 = .ok (.iload_n 3, 1) := by decide +kernel
theorem dX8_middle_89 : decode cX8_middle 89 = .ok (.iload_n 1, 1) := by decide +kernel
theorem dX8_middle_90 : decode cX8_middle 90 = .ok (.if_icmp .gt 15, 3) := by decide +kernel
theorem dX8_middle_93 : decode cX8_middle 93 = .ok (.iload_n 1, 1) := by decide +kernel
theorem dX8_middle_94 : decode cX8_middle 94 = .ok (.iload 4, 2) := by decide +kernel
theorem dX8_middle_96 : decode cX8_middle 96 = .ok (.if_icmp .ge 9, 3) := by decide +kernel
theorem dX8_middle_99 : decode cX8_middle 99 = .ok (.aload_n 0, 1) := by decide +kernel
theorem dX8_middle_100 : decode cX8_middle 100 = .ok (.iload_n 2, 1) := by decide +kernel
theorem dX8_middle_101 : decode cX8_middle 101 = .ok (.invokevirtual 47, 3) := by decide +kernel
theorem dX8_middle_104 : decode cX8_middle 104 = .ok (.ireturn, 1) := by decide +kernel
theorem dX8_middle_105 : decode cX8_middle 105 = .ok (.iinc 2 1, 3) := by decide +kernel
theorem dX8_middle_108 : decode cX8_middle 108 = .ok (.goto (-97), 3) := by decide +kernel
theorem dX8_middle_111 : decode cX8_middle 111 = .ok (.iconst 0, 1) := by decide +kernel
theorem dX8_middle_112 : decode cX8_middle 112 = .ok (.ireturn, 1) := by decide +kernel
theorem dX8_strangeBits_0 : decode cX8_strangeBits 0 = .ok (.aload_n 0, 1) := by decide +kernel
theorem dX8_strangeBits_1 : decode cX8_strangeBits 1 = .ok (.invokevirtual 50, 3) := by decide +kernel
theorem dX8_strangeBits_4 : decode cX8_strangeBits 4 = .ok (.istore_n 2, 1) := by decide +kernel
theorem dX8_strangeBits_5 : decode cX8_strangeBits 5 = .ok (.iconst 0, 1) := by decide +kernel
theorem dX8_strangeBits_6 : decode cX8_strangeBits 6 = .ok (.istore_n 3, 1) := by decide +kernel
theorem dX8_strangeBits_7 : decode cX8_strangeBits 7 = .ok (.iconst 0, 1) := by decide +kernel
theorem dX8_strangeBits_8 : decode cX8_strangeBits 8 = .ok (.istore 4, 2) := by decide +kernel
theorem dX8_strangeBits_10 : decode cX8_strangeBits 10 = .ok (.iload 4, 2) := by decide +kernel
theorem dX8_strangeBits_12 : decode cX8_strangeBits 12 = .ok (.aload_n 0, 1) := by decide +kernel
theorem dX8_strangeBits_13 : decode cX8_strangeBits 13 = .ok (.invokevirtual 44, 3) := by decide +kernel
theorem dX8_strangeBits_16 : decode cX8_strangeBits 16 = .ok (.if_icmp .ge 34, 3) := by decide +kernel
theorem dX8_strangeBits_19 : decode cX8_strangeBits 19 = .ok (.aload_n 0, 1) := by decide +kernel
theorem dX8_strangeBits_20 : decode cX8_strangeBits 20 = .ok (.iload 4, 2) := by decide +kernel
theorem dX8_strangeBits_22 : decode cX8_strangeBits 22 = .ok (.invokevirtual 47, 3) := by decide +kernel
theorem dX8_strangeBits_25 : decode cX8_strangeBits 25 = .ok (.i2l, 1) := by decide +kernel
theorem dX8_strangeBits_26 : decode cX8_strangeBits 26 = .ok (.iload_n 2, 1) := by decide +kernel
theorem dX8_strangeBits_27 : decode cX8_strangeBits 27 = .ok (.i2l, 1) := by decide +kernel
theorem dX8_strangeBits_28 : decode cX8_strangeBits 28 = .ok (.invokestatic 53, 3) := by decide +kernel
theorem dX8_strangeBits_31 : decode cX8_strangeBits 31 = .ok (.iload_n 1, 1) := by decide +kernel
theorem dX8_strangeBits_32 : decode cX8_strangeBits 32 = .ok (.i2l, 1) := by decide +kernel
theorem dX8_strangeBits_33 : decode cX8_strangeBits 33 = .ok (.lcmp, 1) := by decide +kernel
theorem dX8_strangeBits_34 : decode cX8_strangeBits 34 = .ok (.ifCond .le 10, 3) := by decide +kernel
theorem dX8_strangeBits_37 : decode cX8_strangeBits 37 = .ok (.iload_n 3, 1) := by decide +kernel
theorem dX8_strangeBits_38 : decode cX8_strangeBits 38 = .ok (.iconst 1, 1) := by decide +kernel
theorem dX8_strangeBits_39 : decode cX8_strangeBits 39 = .ok (.iload 4, 2) := by decide +kernel
theorem dX8_strangeBits_41 : decode cX8_strangeBits 41 = .ok (.ishl, 1) := by decide +kernel
theorem dX8_strangeBits_42 : decode cX8_strangeBits 42 = .ok (.ior, 1) := by decide +kernel
theorem dX8_strangeBits_43 : decode cX8_strangeBits 43 = .ok (.istore_n 3, 1) := by decide +kernel
theorem dX8_strangeBits_44 : decode cX8_strangeBits 44 = .ok (.iinc 4 1, 3) := by decide +kernel
theorem dX8_strangeBits_47 : decode cX8_strangeBits 47 = .ok (.goto (-37), 3) := by decide +kernel
theorem dX8_strangeBits_50 : decode cX8_strangeBits 50 = .ok (.iload_n 3, 1) := by decide +kernel
theorem dX8_strangeBits_51 : decode cX8_strangeBits 51 = .ok (.ireturn, 1) := by decide +kernel
theorem dX8_usual_0 : decode cX8_usual 0 = .ok (.aload_n 0, 1) := by decide +kernel
theorem dX8_usual_1 : decode cX8_usual 1 = .ok (.invokevirtual 44, 3) := by decide +kernel
theorem dX8_usual_4 : decode cX8_usual 4 = .ok (.aload_n 0, 1) := by decide +kernel
theorem dX8_usual_5 : decode cX8_usual 5 = .ok (.sipush 200, 3) := by decide +kernel
theorem dX8_usual_8 : decode cX8_usual 8 = .ok (.invokevirtual 56, 3) := by decide +kernel
theorem dX8_usual_11 : decode cX8_usual 11 = .ok (.invokestatic 59, 3) := by decide +kernel
theorem dX8_usual_14 : decode cX8_usual 14 = .ok (.isub, 1) := by decide +kernel
theorem dX8_usual_15 : decode cX8_usual 15 = .ok (.ireturn, 1) := by decide +kernel
theorem dX8_spanOf_0 : decode cX8_spanOf 0 = .ok (.aload_n 0, 1) := by decide +kernel
theorem dX8_spanOf_1 : decode cX8_spanOf 1 = .ok (.sipush 200, 3) := by decide +kernel
theorem dX8_spanOf_4 : decode cX8_spanOf 4 = .ok (.invokevirtual 56, 3) := by decide +kernel
theorem dX8_spanOf_7 : decode cX8_spanOf 7 = .ok (.istore_n 3, 1) := by decide +kernel
theorem dX8_spanOf_8 : decode cX8_spanOf 8 = .ok (.iconst (-1), 1) := by decide +kernel
theorem dX8_spanOf_9 : decode cX8_spanOf 9 = .ok (.istore 4, 2) := by decide +kernel
theorem dX8_spanOf_11 : decode cX8_spanOf 11 = .ok (.iconst 0, 1) := by decide +kernel
theorem dX8_spanOf_12 : decode cX8_spanOf 12 = .ok (.istore 5, 2) := by decide +kernel
theorem dX8_spanOf_14 : decode cX8_spanOf 14 = .ok (.iload 5, 2) := by decide +kernel
theorem dX8_spanOf_16 : decode cX8_spanOf 16 = .ok (.aload_n 0, 1) := by decide +kernel
theorem dX8_spanOf_17 : decode cX8_spanOf 17 = .ok (.invokevirtual 44, 3) := by decide +kernel
theorem dX8_spanOf_20 : decode cX8_spanOf 20 = .ok (.if_icmp .ge 69, 3) := by decide +kernel
theorem dX8_spanOf_23 : decode cX8_spanOf 23 = .ok (.aload_n 0, 1) := by decide +kernel
theorem dX8_spanOf_24 : decode cX8_spanOf 24 = .ok (.iload 5, 2) := by decide +kernel
theorem dX8_spanOf_26 : decode cX8_spanOf 26 = .ok (.invokevirtual 47, 3) := by decide +kernel
theorem dX8_spanOf_29 : decode cX8_spanOf 29 = .ok (.istore 6, 2) := by decide +kernel
theorem dX8_spanOf_31 : decode cX8_spanOf 31 = .ok (.iload_n 3, 1) := by decide +kernel
theorem dX8_spanOf_32 : decode cX8_spanOf 32 = .ok (.iload 5, 2) := by decide +kernel
theorem dX8_spanOf_34 : decode cX8_spanOf 34 = .ok (.ishr, 1) := by decide +kernel
theorem dX8_spanOf_35 : decode cX8_spanOf 35 = .ok (.iconst 1, 1) := by decide +kernel
theorem dX8_spanOf_36 : decode cX8_spanOf 36 = .ok (.iand, 1) := by decide +kernel
theorem dX8_spanOf_37 : decode cX8_spanOf 37 = .ok (.ifCond .ne 7, 3) := by decide +kernel
theorem dX8_spanOf_40 : decode cX8_spanOf 40 = .ok (.iconst 1, 1) := by decide +kernel
theorem dX8_spanOf_41 : decode cX8_spanOf 41 = .ok (.goto 4, 3) := by decide +kernel
theorem dX8_spanOf_44 : decode cX8_spanOf 44 = .ok (.iconst 0, 1) := by decide +kernel
theorem dX8_spanOf_45 : decode cX8_spanOf 45 = .ok (.istore 7, 2) := by decide +kernel
theorem dX8_spanOf_47 : decode cX8_spanOf 47 = .ok (.iload 7, 2) := by decide +kernel
theorem dX8_spanOf_49 : decode cX8_spanOf 49 = .ok (.ifCond .eq 34, 3) := by decide +kernel
theorem dX8_spanOf_52 : decode cX8_spanOf 52 = .ok (.iload 4, 2) := by decide +kernel
theorem dX8_spanOf_54 : decode cX8_spanOf 54 = .ok (.iconst (-1), 1) := by decide +kernel
theorem dX8_spanOf_55 : decode cX8_spanOf 55 = .ok (.if_icmp .eq 24, 3) := by decide +kernel
theorem dX8_spanOf_58 : decode cX8_spanOf 58 = .ok (.iload_n 2, 1) := by decide +kernel
theorem dX8_spanOf_59 : decode cX8_spanOf 59 = .ok (.ifCond .eq 13, 3) := by decide +kernel
theorem dX8_spanOf_62 : decode cX8_spanOf 62 = .ok (.iload 6, 2) := by decide +kernel
theorem dX8_spanOf_64 : decode cX8_spanOf 64 = .ok (.iload 4, 2) := by decide +kernel
theorem dX8_spanOf_66 : decode cX8_spanOf 66 = .ok (.if_icmp .le 17, 3) := by decide +kernel
theorem dX8_spanOf_69 : decode cX8_spanOf 69 = .ok (.goto 10, 3) := by decide +kernel
theorem dX8_spanOf_72 : decode cX8_spanOf 72 = .ok (.iload 6, 2) := by decide +kernel
theorem dX8_spanOf_74 : decode cX8_spanOf 74 = .ok (.iload 4, 2) := by decide +kernel
theorem dX8_spanOf_76 : decode cX8_spanOf 76 = .ok (.if_icmp .ge 7, 3) := by decide +kernel
theorem dX8_spanOf_79 : decode cX8_spanOf 79 = .ok (.iload 6, 2) := by decide +kernel
theorem dX8_spanOf_81 : decode cX8_spanOf 81 = .ok (.istore 4, 2) := by decide +kernel
theorem dX8_spanOf_83 : decode cX8_spanOf 83 = .ok (.iinc 5 1, 3) := by decide +kernel
theorem dX8_spanOf_86 : decode cX8_spanOf 86 = .ok (.goto (-72), 3) := by decide +kernel
theorem dX8_spanOf_89 : decode cX8_spanOf 89 = .ok (.iload 4, 2) := by decide +kernel
theorem dX8_spanOf_91 : decode cX8_spanOf 91 = .ok (.iconst (-1), 1) := by decide +kernel
theorem dX8_spanOf_92 : decode cX8_spanOf 92 = .ok (.if_icmp .ne 8, 3) := by decide +kernel
theorem dX8_spanOf_95 : decode cX8_spanOf 95 = .ok (.iload_n 1, 1) := by decide +kernel
theorem dX8_spanOf_96 : decode cX8_spanOf 96 = .ok (.i2l, 1) := by decide +kernel
theorem dX8_spanOf_97 : decode cX8_spanOf 97 = .ok (.goto 13, 3) := by decide +kernel
theorem dX8_spanOf_100 : decode cX8_spanOf 100 = .ok (.iload_n 1, 1) := by decide +kernel
theorem dX8_spanOf_101 : decode cX8_spanOf 101 = .ok (.i2l, 1) := by decide +kernel
theorem dX8_spanOf_102 : decode cX8_spanOf 102 = .ok (.iload 4, 2) := by decide +kernel
theorem dX8_spanOf_104 : decode cX8_spanOf 104 = .ok (.i2l, 1) := by decide +kernel
theorem dX8_spanOf_105 : decode cX8_spanOf 105 = .ok (.lmul, 1) := by decide +kernel
theorem dX8_spanOf_106 : decode cX8_spanOf 106 = .ok (.ldc2_w 32, 3) := by decide +kernel
theorem dX8_spanOf_109 : decode cX8_spanOf 109 = .ok (.ldiv, 1) := by decide +kernel
theorem dX8_spanOf_110 : decode cX8_spanOf 110 = .ok (.lreturn, 1) := by decide +kernel
theorem dX8_within_0 : decode cX8_within 0 = .ok (.aload_n 0, 1) := by decide +kernel
theorem dX8_within_1 : decode cX8_within 1 = .ok (.sipush 200, 3) := by decide +kernel
theorem dX8_within_4 : decode cX8_within 4 = .ok (.invokevirtual 56, 3) := by decide +kernel
theorem dX8_within_7 : decode cX8_within 7 = .ok (.istore_n 3, 1) := by decide +kernel
theorem dX8_within_8 : decode cX8_within 8 = .ok (.iconst 0, 1) := by decide +kernel
theorem dX8_within_9 : decode cX8_within 9 = .ok (.istore 4, 2) := by decide +kernel
theorem dX8_within_11 : decode cX8_within 11 = .ok (.iconst 0, 1) := by decide +kernel
theorem dX8_within_12 : decode cX8_within 12 = .ok (.istore 5, 2) := by decide +kernel
theorem dX8_within_14 : decode cX8_within 14 = .ok (.iload 5, 2) := by decide +kernel
theorem dX8_within_16 : decode cX8_within 16 = .ok (.aload_n 0, 1) := by decide +kernel
theorem dX8_within_17 : decode cX8_within 17 = .ok (.invokevirtual 44, 3) := by decide +kernel
theorem dX8_within_20 : decode cX8_within 20 = .ok (.if_icmp .ge 53, 3) := by decide +kernel
theorem dX8_within_23 : decode cX8_within 23 = .ok (.iload_n 3, 1) := by decide +kernel
theorem dX8_within_24 : decode cX8_within 24 = .ok (.iload 5, 2) := by decide +kernel
theorem dX8_within_26 : decode cX8_within 26 = .ok (.ishr, 1) := by decide +kernel
theorem dX8_within_27 : decode cX8_within 27 = .ok (.iconst 1, 1) := by decide +kernel
theorem dX8_within_28 : decode cX8_within 28 = .ok (.iand, 1) := by decide +kernel
theorem dX8_within_29 : decode cX8_within 29 = .ok (.ifCond .ne 7, 3) := by decide +kernel
theorem dX8_within_32 : decode cX8_within 32 = .ok (.iconst 1, 1) := by decide +kernel
theorem dX8_within_33 : decode cX8_within 33 = .ok (.goto 4, 3) := by decide +kernel
theorem dX8_within_36 : decode cX8_within 36 = .ok (.iconst 0, 1) := by decide +kernel
theorem dX8_within_37 : decode cX8_within 37 = .ok (.istore 6, 2) := by decide +kernel
theorem dX8_within_39 : decode cX8_within 39 = .ok (.iload 6, 2) := by decide +kernel
theorem dX8_within_41 : decode cX8_within 41 = .ok (.ifCond .eq 26, 3) := by decide +kernel
theorem dX8_within_44 : decode cX8_within 44 = .ok (.iload_n 1, 1) := by decide +kernel
theorem dX8_within_45 : decode cX8_within 45 = .ok (.i2l, 1) := by decide +kernel
theorem dX8_within_46 : decode cX8_within 46 = .ok (.aload_n 0, 1) := by decide +kernel
theorem dX8_within_47 : decode cX8_within 47 = .ok (.iload 5, 2) := by decide +kernel
theorem dX8_within_49 : decode cX8_within 49 = .ok (.invokevirtual 47, 3) := by decide +kernel
theorem dX8_within_52 : decode cX8_within 52 = .ok (.i2l, 1) := by decide +kernel
theorem dX8_within_53 : decode cX8_within 53 = .ok (.lmul, 1) := by decide +kernel
theorem dX8_within_54 : decode cX8_within 54 = .ok (.ldc2_w 32, 3) := by decide +kernel
theorem dX8_within_57 : decode cX8_within 57 = .ok (.ldiv, 1) := by decide +kernel
theorem dX8_within_58 : decode cX8_within 58 = .ok (.iload_n 2, 1) := by decide +kernel
theorem dX8_within_59 : decode cX8_within 59 = .ok (.i2l, 1) := by decide +kernel
theorem dX8_within_60 : decode cX8_within 60 = .ok (.lcmp, 1) := by decide +kernel
theorem dX8_within_61 : decode cX8_within 61 = .ok (.ifCond .gt 6, 3) := by decide +kernel
theorem dX8_within_64 : decode cX8_within 64 = .ok (.iinc 4 1, 3) := by decide +kernel
theorem dX8_within_67 : decode cX8_within 67 = .ok (.iinc 5 1, 3) := by decide +kernel
theorem dX8_within_70 : decode cX8_within 70 = .ok (.goto (-56), 3) := by decide +kernel
theorem dX8_within_73 : decode cX8_within 73 = .ok (.iload 4, 2) := by decide +kernel
theorem dX8_within_75 : decode cX8_within 75 = .ok (.ireturn, 1) := by decide +kernel
theorem dX8_copyFrom_0 : decode cX8_copyFrom 0 = .ok (.aload_n 0, 1) := by decide +kernel
theorem dX8_copyFrom_1 : decode cX8_copyFrom 1 = .ok (.getfield 14, 3) := by decide +kernel
theorem dX8_copyFrom_4 : decode cX8_copyFrom 4 = .ok (.aload_n 1, 1) := by decide +kernel
theorem dX8_copyFrom_5 : decode cX8_copyFrom 5 = .ok (.getfield 14, 3) := by decide +kernel
theorem dX8_copyFrom_8 : decode cX8_copyFrom 8 = .ok (.invokevirtual 64, 3) := by decide +kernel
theorem dX8_copyFrom_11 : decode cX8_copyFrom 11 = .ok (.return_, 1) := by decide +kernel
theorem dX9_init_0 : decode cX9_init 0 = .ok (.aload_n 0, 1) := by decide +kernel
theorem dX9_init_1 : decode cX9_init 1 = .ok (.invokespecial 3, 3) := by decide +kernel
theorem dX9_init_4 : decode cX9_init 4 = .ok (.aload_n 0, 1) := by decide +kernel
theorem dX9_init_5 : decode cX9_init 5 = .ok (.bipush 10, 2) := by decide +kernel
theorem dX9_init_7 : decode cX9_init 7 = .ok (.newarray .long, 2) := by decide +kernel
theorem dX9_init_9 : decode cX9_init 9 = .ok (.putfield 9, 3) := by decide +kernel
theorem dX9_init_12 : decode cX9_init 12 = .ok (.aload_n 0, 1) := by decide +kernel
theorem dX9_init_13 : decode cX9_init 13 = .ok (.bipush 8, 2) := by decide +kernel
theorem dX9_init_15 : decode cX9_init 15 = .ok (.newarray .long, 2) := by decide +kernel
theorem dX9_init_17 : decode cX9_init 17 = .ok (.putfield 15, 3) := by decide +kernel
theorem dX9_init_20 : decode cX9_init 20 = .ok (.aload_n 0, 1) := by decide +kernel
theorem dX9_init_21 : decode cX9_init 21 = .ok (.bipush 64, 2) := by decide +kernel
theorem dX9_init_23 : decode cX9_init 23 = .ok (.newarray .long, 2) := by decide +kernel
theorem dX9_init_25 : decode cX9_init 25 = .ok (.putfield 18, 3) := by decide +kernel
theorem dX9_init_28 : decode cX9_init 28 = .ok (.return_, 1) := by decide +kernel
theorem dX9_work_0 : decode cX9_work 0 = .ok (.aload_n 0, 1) := by decide +kernel
theorem dX9_work_1 : decode cX9_work 1 = .ok (.getfield 15, 3) := by decide +kernel
theorem dX9_work_4 : decode cX9_work 4 = .ok (.lconst 0, 1) := by decide +kernel
theorem dX9_work_5 : decode cX9_work 5 = .ok (.invokestatic 21, 3) := by decide +kernel
theorem dX9_work_8 : decode cX9_work 8 = .ok (.aload_n 0, 1) := by decide +kernel
theorem dX9_work_9 : decode cX9_work 9 = .ok (.iconst 0, 1) := by decide +kernel
theorem dX9_work_10 : decode cX9_work 10 = .ok (.putfield 27, 3) := by decide +kernel
theorem dX9_work_13 : decode cX9_work 13 = .ok (.aload_n 1, 1) := by decide +kernel
theorem dX9_work_14 : decode cX9_work 14 = .ok (.getfield 31, 3) := by decide +kernel
theorem dX9_work_17 : decode cX9_work 17 = .ok (.astore_n 2, 1) := by decide +kernel
theorem dX9_work_18 : decode cX9_work 18 = .ok (.iconst 0, 1) := by decide +kernel
theorem dX9_work_19 : decode cX9_work 19 = .ok (.istore_n 3, 1) := by decide +kernel
theorem dX9_work_20 : decode cX9_work 20 = .ok (.iload_n 3, 1) := by decide +kernel
theorem dX9_work_21 : decode cX9_work 21 = .ok (.aload_n 2, 1) := by decide +kernel
theorem dX9_work_22 : decode cX9_work 22 = .ok (.arraylength, 1) := by decide +kernel
theorem dX9_work_23 : decode cX9_work 23 = .ok (.if_icmp .ge 211, 3) := by decide +kernel
theorem dX9_work_26 : decode cX9_work 26 = .ok (.aload_n 2, 1) := by decide +kernel
theorem dX9_work_27 : decode cX9_work 27 = .ok (.iload_n 3, 1) := by decide +kernel
theorem dX9_work_28 : decode cX9_work 28 = .ok (.iaload, 1) := by decide +kernel
theorem dX9_work_29 : decode cX9_work 29 = .ok (.sipush 512, 3) := by decide +kernel
theorem dX9_work_32 : decode cX9_work 32 = .ok (.irem, 1) := by decide +kernel
theorem dX9_work_33 : decode cX9_work 33 = .ok (.istore 4, 2) := by decide +kernel
theorem dX9_work_35 : decode cX9_work 35 = .ok (.aload_n 2, 1) := by decide +kernel
theorem dX9_work_36 : decode cX9_work 36 = .ok (.iload_n 3, 1) := by decide +kernel
theorem dX9_work_37 : decode cX9_work 37 = .ok (.iaload, 1) := by decide +kernel
theorem dX9_work_38 : decode cX9_work 38 = .ok (.sipush 512, 3) := by decide +kernel
theorem dX9_work_41 : decode cX9_work 41 = .ok (.idiv, 1) := by decide +kernel
theorem dX9_work_42 : decode cX9_work 42 = .ok (.istore 5, 2) := by decide +kernel
theorem dX9_work_44 : decode cX9_work 44 = .ok (.iload 4, 2) := by decide +kernel
theorem dX9_work_46 : decode cX9_work 46 = .ok (.lookupswitch 161 #[(1, 58), (2, 68), (3, 81), (4, 95), (276, 126), (280, 140)], 58) := by decide +kernel
theorem dX9_work_104 : decode cX9_work 104 = .ok (.aload_n 0, 1) := by decide +kernel
theorem dX9_work_105 : decode cX9_work 105 = .ok (.iload 5, 2) := by decide +kernel
theorem dX9_work_107 : decode cX9_work 107 = .ok (.i2l, 1) := by decide +kernel
theorem dX9_work_108 : decode cX9_work 108 = .ok (.invokevirtual 37, 3) := by decide +kernel
theorem dX9_work_111 : decode cX9_work 111 = .ok (.goto 117, 3) := by decide +kernel
theorem dX9_work_114 : decode cX9_work 114 = .ok (.aload_n 0, 1) := by decide +kernel
theorem dX9_work_115 : decode cX9_work 115 = .ok (.aload_n 0, 1) := by decide +kernel
theorem dX9_work_116 : decode cX9_work 116 = .ok (.iload 5, 2) := by decide +kernel
theorem dX9_work_118 : decode cX9_work 118 = .ok (.invokevirtual 41, 3) := by decide +kernel
theorem dX9_work_121 : decode cX9_work 121 = .ok (.invokevirtual 37, 3) := by decide +kernel
theorem dX9_work_124 : decode cX9_work 124 = .ok (.goto 104, 3) := by decide +kernel
theorem dX9_work_127 : decode cX9_work 127 = .ok (.aload_n 0, 1) := by decide +kernel
theorem dX9_work_128 : decode cX9_work 128 = .ok (.iload 5, 2) := by decide +kernel
theorem dX9_work_130 : decode cX9_work 130 = .ok (.aload_n 0, 1) := by decide +kernel
theorem dX9_work_131 : decode cX9_work 131 = .ok (.invokevirtual 45, 3) := by decide +kernel
theorem dX9_work_134 : decode cX9_work 134 = .ok (.iconst 1, 1) := by decide +kernel
theorem dX9_work_135 : decode cX9_work 135 = .ok (.invokevirtual 49, 3) := by decide +kernel
theorem dX9_work_138 : decode cX9_work 138 = .ok (.goto 90, 3) := by decide +kernel
theorem dX9_work_141 : decode cX9_work 141 = .ok (.aload_n 0, 1) := by decide +kernel
theorem dX9_work_142 : decode cX9_work 142 = .ok (.invokevirtual 45, 3) := by decide +kernel
theorem dX9_work_145 : decode cX9_work 145 = .ok (.lconst 0, 1) := by decide +kernel
theorem dX9_work_146 : decode cX9_work 146 = .ok (.lcmp, 1) := by decide +kernel
theorem dX9_work_147 : decode cX9_work 147 = .ok (.ifCond .eq 7, 3) := by decide +kernel
theorem dX9_work_150 : decode cX9_work 150 = .ok (.iconst 1, 1) := by decide +kernel
theorem dX9_work_151 : decode cX9_work 151 = .ok (.goto 4, 3) := by decide +kernel
theorem dX9_work_154 : decode cX9_work 154 = .ok (.iconst 0, 1) := by decide +kernel
theorem dX9_work_155 : decode cX9_work 155 = .ok (.istore 6, 2) := by decide +kernel
theorem dX9_work_157 : decode cX9_work 157 = .ok (.aload_n 0, 1) := by decide +kernel
theorem dX9_work_158 : decode cX9_work 158 = .ok (.iload 5, 2) := by decide +kernel
theorem dX9_work_160 : decode cX9_work 160 = .ok (.aload_n 0, 1) := by decide +kernel
theorem dX9_work_161 : decode cX9_work 161 = .ok (.invokevirtual 45, 3) := by decide +kernel
theorem dX9_work_164 : decode cX9_work 164 = .ok (.iload 6, 2) := by decide +kernel
theorem dX9_work_166 : decode cX9_work 166 = .ok (.invokevirtual 49, 3) := by decide +kernel
theorem dX9_work_169 : decode cX9_work 169 = .ok (.goto 59, 3) := by decide +kernel
theorem dX9_work_172 : decode cX9_work 172 = .ok (.aload_n 0, 1) := by decide +kernel
theorem dX9_work_173 : decode cX9_work 173 = .ok (.aload_n 0, 1) := by decide +kernel
theorem dX9_work_174 : decode cX9_work 174 = .ok (.invokevirtual 45, 3) := by decide +kernel
theorem dX9_work_177 : decode cX9_work 177 = .ok (.invokestatic 53, 3) := by decide +kernel
theorem dX9_work_180 : decode cX9_work 180 = .ok (.invokevirtual 37, 3) := by decide +kernel
theorem dX9_work_183 : decode cX9_work 183 = .ok (.goto 45, 3) := by decide +kernel
theorem dX9_work_186 : decode cX9_work 186 = .ok (.aload_n 0, 1) := by decide +kernel
theorem dX9_work_187 : decode cX9_work 187 = .ok (.aload_n 0, 1) := by decide +kernel
theorem dX9_work_188 : decode cX9_work 188 = .ok (.invokevirtual 45, 3) := by decide +kernel
theorem dX9_work_191 : decode cX9_work 191 = .ok (.lconst 0, 1) := by decide +kernel
theorem dX9_work_192 : decode cX9_work 192 = .ok (.lcmp, 1) := by decide +kernel
theorem dX9_work_193 : decode cX9_work 193 = .ok (.ifCond .ne 7, 3) := by decide +kernel
theorem dX9_work_196 : decode cX9_work 196 = .ok (.lconst 1, 1) := by decide +kernel
theorem dX9_work_197 : decode cX9_work 197 = .ok (.goto 4, 3) := by decide +kernel
theorem dX9_work_200 : decode cX9_work 200 = .ok (.lconst 0, 1) := by decide +kernel
theorem dX9_work_201 : decode cX9_work 201 = .ok (.invokevirtual 37, 3) := by decide +kernel
theorem dX9_work_204 : decode cX9_work 204 = .ok (.goto 24, 3) := by decide +kernel
theorem dX9_work_207 : decode cX9_work 207 = .ok (.aload_n 0, 1) := by decide +kernel
theorem dX9_work_208 : decode cX9_work 208 = .ok (.invokevirtual 45, 3) := by decide +kernel
theorem dX9_work_211 : decode cX9_work 211 = .ok (.lstore 7, 2) := by decide +kernel
theorem dX9_work_213 : decode cX9_work 213 = .ok (.aload_n 0, 1) := by decide +kernel
theorem dX9_work_214 : decode cX9_work 214 = .ok (.iload 4, 2) := by decide +kernel
theorem dX9_work_216 : decode cX9_work 216 = .ok (.aload_n 0, 1) := by decide +kernel
theorem dX9_work_217 : decode cX9_work 217 = .ok (.invokevirtual 45, 3) := by decide +kernel
theorem dX9_work_220 : decode cX9_work 220 = .ok (.lload 7, 2) := by decide +kernel
theorem dX9_work_222 : decode cX9_work 222 = .ok (.invokestatic 57, 3) := by decide +kernel
theorem dX9_work_225 : decode cX9_work 225 = .ok (.invokevirtual 37, 3) := by decide +kernel
theorem dX9_work_228 : decode cX9_work 228 = .ok (.iinc 3 1, 3) := by decide +kernel
theorem dX9_work_231 : decode cX9_work 231 = .ok (.goto (-211), 3) := by decide +kernel
theorem dX9_work_234 : decode cX9_work 234 = .ok (.return_, 1) := by decide +kernel
theorem dX9_joined_0 : decode cX9_joined 0 = .ok (.iload_n 0, 1) := by decide +kernel
theorem dX9_joined_1 : decode cX9_joined 1 = .ok (.lookupswitch 181 #[(42, 99), (43, 91), (45, 95), (47, 103), (60, 141), (61, 165), (62, 153), (274, 117), (275, 129), (279, 177)], 91) := by decide +kernel
theorem dX9_joined_92 : decode cX9_joined 92 = .ok (.lload_n 1, 1) := by decide +kernel
theorem dX9_joined_93 : decode cX9_joined 93 = .ok (.lload_n 3, 1) := by decide +kernel
theorem dX9_joined_94 : decode cX9_joined 94 = .ok (.ladd, 1) := by decide +kernel
theorem dX9_joined_95 : decode cX9_joined 95 = .ok (.lreturn, 1) := by decide +kernel
theorem dX9_joined_96 : decode cX9_joined 96 = .ok (.lload_n 1, 1) := by decide +kernel
theorem dX9_joined_97 : decode cX9_joined 97 = .ok (.lload_n 3, 1) := by decide +kernel
theorem dX9_joined_98 : decode cX9_joined 98 = .ok (.lsub, 1) := by decide +kernel
theorem dX9_joined_99 : decode cX9_joined 99 = .ok (.lreturn, 1) := by decide +kernel
theorem dX9_joined_100 : decode cX9_joined 100 = .ok (.lload_n 1, 1) := by decide +kernel
theorem dX9_joined_101 : decode cX9_joined 101 = .ok (.lload_n 3, 1) := by decide +kernel
theorem dX9_joined_102 : decode cX9_joined 102 = .ok (.lmul, 1) := by decide +kernel
theorem dX9_joined_103 : decode cX9_joined 103 = .ok (.lreturn, 1) := by decide +kernel
theorem dX9_joined_104 : decode cX9_joined 104 = .ok (.lload_n 3, 1) := by decide +kernel
theorem dX9_joined_105 : decode cX9_joined 105 = .ok (.lconst 0, 1) := by decide +kernel
theorem dX9_joined_106 : decode cX9_joined 106 = .ok (.lcmp, 1) := by decide +kernel
theorem dX9_joined_107 : decode cX9_joined 107 = .ok (.ifCond .ne 7, 3) := by decide +kernel
theorem dX9_joined_110 : decode cX9_joined 110 = .ok (.lconst 0, 1) := by decide +kernel
theorem dX9_joined_111 : decode cX9_joined 111 = .ok (.goto 6, 3) := by decide +kernel
theorem dX9_joined_114 : decode cX9_joined 114 = .ok (.lload_n 1, 1) := by decide +kernel
theorem dX9_joined_115 : decode cX9_joined 115 = .ok (.lload_n 3, 1) := by decide +kernel
theorem dX9_joined_116 : decode cX9_joined 116 = .ok (.ldiv, 1) := by decide +kernel
theorem dX9_joined_117 : decode cX9_joined 117 = .ok (.lreturn, 1) := by decide +kernel
theorem dX9_joined_118 : decode cX9_joined 118 = .ok (.lload_n 1, 1) := by decide +kernel
theorem dX9_joined_119 : decode cX9_joined 119 = .ok (.lload_n 3, 1) := by decide +kernel
theorem dX9_joined_120 : decode cX9_joined 120 = .ok (.lcmp, 1) := by decide +kernel
theorem dX9_joined_121 : decode cX9_joined 121 = .ok (.ifCond .gt 7, 3) := by decide +kernel
theorem dX9_joined_124 : decode cX9_joined 124 = .ok (.lload_n 1, 1) := by decide +kernel
theorem dX9_joined_125 : decode cX9_joined 125 = .ok (.goto 4, 3) := by decide +kernel
theorem dX9_joined_128 : decode cX9_joined 128 = .ok (.lload_n 3, 1) := by decide +kernel
theorem dX9_joined_129 : decode cX9_joined 129 = .ok (.lreturn, 1) := by decide +kernel
theorem dX9_joined_130 : decode cX9_joined 130 = .ok (.lload_n 1, 1) := by decide +kernel
theorem dX9_joined_131 : decode cX9_joined 131 = .ok (.lload_n 3, 1) := by decide +kernel
theorem dX9_joined_132 : decode cX9_joined 132 = .ok (.lcmp, 1) := by decide +kernel
theorem dX9_joined_133 : decode cX9_joined 133 = .ok (.ifCond .lt 7, 3) := by decide +kernel
theorem dX9_joined_136 : decode cX9_joined 136 = .ok (.lload_n 1, 1) := by decide +kernel
theorem dX9_joined_137 : decode cX9_joined 137 = .ok (.goto 4, 3) := by decide +kernel
theorem dX9_joined_140 : decode cX9_joined 140 = .ok (.lload_n 3, 1) := by decide +kernel
theorem dX9_joined_141 : decode cX9_joined 141 = .ok (.lreturn, 1) := by decide +kernel
theorem dX9_joined_142 : decode cX9_joined 142 = .ok (.lload_n 1, 1) := by decide +kernel
theorem dX9_joined_143 : decode cX9_joined 143 = .ok (.lload_n 3, 1) := by decide +kernel
theorem dX9_joined_144 : decode cX9_joined 144 = .ok (.lcmp, 1) := by decide +kernel
theorem dX9_joined_145 : decode cX9_joined 145 = .ok (.ifCond .ge 7, 3) := by decide +kernel
theorem dX9_joined_148 : decode cX9_joined 148 = .ok (.lconst 1, 1) := by decide +kernel
theorem dX9_joined_149 : decode cX9_joined 149 = .ok (.goto 4, 3) := by decide +kernel
theorem dX9_joined_152 : decode cX9_joined 152 = .ok (.lconst 0, 1) := by decide +kernel
theorem dX9_joined_153 : decode cX9_joined 153 = .ok (.lreturn, 1) := by decide +kernel
theorem dX9_joined_154 : decode cX9_joined 154 = .ok (.lload_n 1, 1) := by decide +kernel
theorem dX9_joined_155 : decode cX9_joined 155 = .ok (.lload_n 3, 1) := by decide +kernel
theorem dX9_joined_156 : decode cX9_joined 156 = .ok (.lcmp, 1) := by decide +kernel
theorem dX9_joined_157 : decode cX9_joined 157 = .ok (.ifCond .le 7, 3) := by decide +kernel
theorem dX9_joined_160 : decode cX9_joined 160 = .ok (.lconst 1, 1) := by decide +kernel
theorem dX9_joined_161 : decode cX9_joined 161 = .ok (.goto 4, 3) := by decide +kernel
theorem dX9_joined_164 : decode cX9_joined 164 = .ok (.lconst 0, 1) := by decide +kernel
theorem dX9_joined_165 : decode cX9_joined 165 = .ok (.lreturn, 1) := by decide +kernel
theorem dX9_joined_166 : decode cX9_joined 166 = .ok (.lload_n 1, 1) := by decide +kernel
theorem dX9_joined_167 : decode cX9_joined 167 = .ok (.lload_n 3, 1) := by decide +kernel
theorem dX9_joined_168 : decode cX9_joined 168 = .ok (.lcmp, 1) := by decide +kernel
theorem dX9_joined_169 : decode cX9_joined 169 = .ok (.ifCond .ne 7, 3) := by decide +kernel
theorem dX9_joined_172 : decode cX9_joined 172 = .ok (.lconst 1, 1) := by decide +kernel
theorem dX9_joined_173 : decode cX9_joined 173 = .ok (.goto 4, 3) := by decide +kernel
theorem dX9_joined_176 : decode cX9_joined 176 = .ok (.lconst 0, 1) := by decide +kernel
theorem dX9_joined_177 : decode cX9_joined 177 = .ok (.lreturn, 1) := by decide +kernel
theorem dX9_joined_178 : decode cX9_joined 178 = .ok (.lload_n 1, 1) := by decide +kernel
theorem dX9_joined_179 : decode cX9_joined 179 = .ok (.lload_n 3, 1) := by decide +kernel
theorem dX9_joined_180 : decode cX9_joined 180 = .ok (.land, 1) := by decide +kernel
theorem dX9_joined_181 : decode cX9_joined 181 = .ok (.lreturn, 1) := by decide +kernel
theorem dX9_joined_182 : decode cX9_joined 182 = .ok (.lload_n 1, 1) := by decide +kernel
theorem dX9_joined_183 : decode cX9_joined 183 = .ok (.lload_n 3, 1) := by decide +kernel
theorem dX9_joined_184 : decode cX9_joined 184 = .ok (.lor, 1) := by decide +kernel
theorem dX9_joined_185 : decode cX9_joined 185 = .ok (.lreturn, 1) := by decide +kernel
theorem dX9_push_0 : decode cX9_push 0 = .ok (.aload_n 0, 1) := by decide +kernel
theorem dX9_push_1 : decode cX9_push 1 = .ok (.getfield 27, 3) := by decide +kernel
theorem dX9_push_4 : decode cX9_push 4 = .ok (.aload_n 0, 1) := by decide +kernel
theorem dX9_push_5 : decode cX9_push 5 = .ok (.getfield 18, 3) := by decide +kernel
theorem dX9_push_8 : decode cX9_push 8 = .ok (.arraylength, 1) := by decide +kernel
theorem dX9_push_9 : decode cX9_push 9 = .ok (.if_icmp .ge 23, 3) := by decide +kernel
theorem dX9_push_12 : decode cX9_push 12 = .ok (.aload_n 0, 1) := by decide +kernel
theorem dX9_push_13 : decode cX9_push 13 = .ok (.getfield 18, 3) := by decide +kernel
theorem dX9_push_16 : decode cX9_push 16 = .ok (.aload_n 0, 1) := by decide +kernel
theorem dX9_push_17 : decode cX9_push 17 = .ok (.getfield 27, 3) := by decide +kernel
theorem dX9_push_20 : decode cX9_push 20 = .ok (.lload_n 1, 1) := by decide +kernel
theorem dX9_push_21 : decode cX9_push 21 = .ok (.lastore, 1) := by decide +kernel
theorem dX9_push_22 : decode cX9_push 22 = .ok (.aload_n 0, 1) := by decide +kernel
theorem dX9_push_23 : decode cX9_push 23 = .ok (.dup, 1) := by decide +kernel
theorem dX9_push_24 : decode cX9_push 24 = .ok (.getfield 27, 3) := by decide +kernel
theorem dX9_push_27 : decode cX9_push 27 = .ok (.iconst 1, 1) := by decide +kernel
theorem dX9_push_28 : decode cX9_push 28 = .ok (.iadd, 1) := by decide +kernel
theorem dX9_push_29 : decode cX9_push 29 = .ok (.putfield 27, 3) := by decide +kernel
theorem dX9_push_32 : decode cX9_push 32 = .ok (.return_, 1) := by decide +kernel
theorem dX9_pop_0 : decode cX9_pop 0 = .ok (.aload_n 0, 1) := by decide +kernel
theorem dX9_pop_1 : decode cX9_pop 1 = .ok (.getfield 27, 3) := by decide +kernel
theorem dX9_pop_4 : decode cX9_pop 4 = .ok (.ifCond .le 15, 3) := by decide +kernel
theorem dX9_pop_7 : decode cX9_pop 7 = .ok (.aload_n 0, 1) := by decide +kernel
theorem dX9_pop_8 : decode cX9_pop 8 = .ok (.getfield 27, 3) := by decide +kernel
theorem dX9_pop_11 : decode cX9_pop 11 = .ok (.aload_n 0, 1) := by decide +kernel
theorem dX9_pop_12 : decode cX9_pop 12 = .ok (.getfield 18, 3) := by decide +kernel
theorem dX9_pop_15 : decode cX9_pop 15 = .ok (.arraylength, 1) := by decide +kernel
theorem dX9_pop_16 : decode cX9_pop 16 = .ok (.if_icmp .le 5, 3) := by decide +kernel
theorem dX9_pop_19 : decode cX9_pop 19 = .ok (.lconst 0, 1) := by decide +kernel
theorem dX9_pop_20 : decode cX9_pop 20 = .ok (.lreturn, 1) := by decide +kernel
theorem dX9_pop_21 : decode cX9_pop 21 = .ok (.aload_n 0, 1) := by decide +kernel
theorem dX9_pop_22 : decode cX9_pop 22 = .ok (.dup, 1) := by decide +kernel
theorem dX9_pop_23 : decode cX9_pop 23 = .ok (.getfield 27, 3) := by decide +kernel
theorem dX9_pop_26 : decode cX9_pop 26 = .ok (.iconst 1, 1) := by decide +kernel
theorem dX9_pop_27 : decode cX9_pop 27 = .ok (.isub, 1) := by decide +kernel
theorem dX9_pop_28 : decode cX9_pop 28 = .ok (.putfield 27, 3) := by decide +kernel
theorem dX9_pop_31 : decode cX9_pop 31 = .ok (.aload_n 0, 1) := by decide +kernel
theorem dX9_pop_32 : decode cX9_pop 32 = .ok (.getfield 18, 3) := by decide +kernel
theorem dX9_pop_35 : decode cX9_pop 35 = .ok (.aload_n 0, 1) := by decide +kernel
theorem dX9_pop_36 : decode cX9_pop 36 = .ok (.getfield 27, 3) := by decide +kernel
theorem dX9_pop_39 : decode cX9_pop 39 = .ok (.laload, 1) := by decide +kernel
theorem dX9_pop_40 : decode cX9_pop 40 = .ok (.lreturn, 1) := by decide +kernel
theorem dX9_tell_0 : decode cX9_tell 0 = .ok (.iload 4, 2) := by decide +kernel
theorem dX9_tell_2 : decode cX9_tell 2 = .ok (.ifCond .eq 23, 3) := by decide +kernel
theorem dX9_tell_5 : decode cX9_tell 5 = .ok (.iload_n 1, 1) := by decide +kernel
theorem dX9_tell_6 : decode cX9_tell 6 = .ok (.ifCond .lt 19, 3) := by decide +kernel
theorem dX9_tell_9 : decode cX9_tell 9 = .ok (.iload_n 1, 1) := by decide +kernel
theorem dX9_tell_10 : decode cX9_tell 10 = .ok (.aload_n 0, 1) := by decide +kernel
theorem dX9_tell_11 : decode cX9_tell 11 = .ok (.getfield 15, 3) := by decide +kernel
theorem dX9_tell_14 : decode cX9_tell 14 = .ok (.arraylength, 1) := by decide +kernel
theorem dX9_tell_15 : decode cX9_tell 15 = .ok (.if_icmp .ge 10, 3) := by decide +kernel
theorem dX9_tell_18 : decode cX9_tell 18 = .ok (.aload_n 0, 1) := by decide +kernel
theorem dX9_tell_19 : decode cX9_tell 19 = .ok (.getfield 15, 3) := by decide +kernel
theorem dX9_tell_22 : decode cX9_tell 22 = .ok (.iload_n 1, 1) := by decide +kernel
theorem dX9_tell_23 : decode cX9_tell 23 = .ok (.lload_n 2, 1) := by decide +kernel
theorem dX9_tell_24 : decode cX9_tell 24 = .ok (.lastore, 1) := by decide +kernel
theorem dX9_tell_25 : decode cX9_tell 25 = .ok (.return_, 1) := by decide +kernel
theorem dX9_nameAt_0 : decode cX9_nameAt 0 = .ok (.iload_n 1, 1) := by decide +kernel
theorem dX9_nameAt_1 : decode cX9_nameAt 1 = .ok (.ifCond .lt 21, 3) := by decide +kernel
theorem dX9_nameAt_4 : decode cX9_nameAt 4 = .ok (.iload_n 1, 1) := by decide +kernel
theorem dX9_nameAt_5 : decode cX9_nameAt 5 = .ok (.aload_n 0, 1) := by decide +kernel
theorem dX9_nameAt_6 : decode cX9_nameAt 6 = .ok (.getfield 9, 3) := by decide +kernel
theorem dX9_nameAt_9 : decode cX9_nameAt 9 = .ok (.arraylength, 1) := by decide +kernel
theorem dX9_nameAt_10 : decode cX9_nameAt 10 = .ok (.if_icmp .ge 12, 3) := by decide +kernel
theorem dX9_nameAt_13 : decode cX9_nameAt 13 = .ok (.aload_n 0, 1) := by decide +kernel
theorem dX9_nameAt_14 : decode cX9_nameAt 14 = .ok (.getfield 9, 3) := by decide +kernel
theorem dX9_nameAt_17 : decode cX9_nameAt 17 = .ok (.iload_n 1, 1) := by decide +kernel
theorem dX9_nameAt_18 : decode cX9_nameAt 18 = .ok (.laload, 1) := by decide +kernel
theorem dX9_nameAt_19 : decode cX9_nameAt 19 = .ok (.goto 4, 3) := by decide +kernel
theorem dX9_nameAt_22 : decode cX9_nameAt 22 = .ok (.lconst 0, 1) := by decide +kernel
theorem dX9_nameAt_23 : decode cX9_nameAt 23 = .ok (.lreturn, 1) := by decide +kernel
theorem dX9_giveName_0 : decode cX9_giveName 0 = .ok (.iload_n 1, 1) := by decide +kernel
theorem dX9_giveName_1 : decode cX9_giveName 1 = .ok (.ifCond .lt 19, 3) := by decide +kernel
theorem dX9_giveName_4 : decode cX9_giveName 4 = .ok (.iload_n 1, 1) := by decide +kernel
theorem dX9_giveName_5 : decode cX9_giveName 5 = .ok (.aload_n 0, 1) := by decide +kernel
theorem dX9_giveName_6 : decode cX9_giveName 6 = .ok (.getfield 9, 3) := by decide +kernel
theorem dX9_giveName_9 : decode cX9_giveName 9 = .ok (.arraylength, 1) := by decide +kernel
theorem dX9_giveName_10 : decode cX9_giveName 10 = .ok (.if_icmp .ge 10, 3) := by decide +kernel
theorem dX9_giveName_13 : decode cX9_giveName 13 = .ok (.aload_n 0, 1) := by decide +kernel
theorem dX9_giveName_14 : decode cX9_giveName 14 = .ok (.getfield 9, 3) := by decide +kernel
theorem dX9_giveName_17 : decode cX9_giveName 17 = .ok (.iload_n 1, 1) := by decide +kernel
theorem dX9_giveName_18 : decode cX9_giveName 18 = .ok (.lload_n 2, 1) := by decide +kernel
theorem dX9_giveName_19 : decode cX9_giveName 19 = .ok (.lastore, 1) := by decide +kernel
theorem dX9_giveName_20 : decode cX9_giveName 20 = .ok (.return_, 1) := by decide +kernel
theorem dX9_toldOf_0 : decode cX9_toldOf 0 = .ok (.iload_n 1, 1) := by decide +kernel
theorem dX9_toldOf_1 : decode cX9_toldOf 1 = .ok (.ifCond .lt 23, 3) := by decide +kernel
theorem dX9_toldOf_4 : decode cX9_toldOf 4 = .ok (.iload_n 1, 1) := by decide +kernel
theorem dX9_toldOf_5 : decode cX9_toldOf 5 = .ok (.aload_n 0, 1) := by decide +kernel
theorem dX9_toldOf_6 : decode cX9_toldOf 6 = .ok (.getfield 15, 3) := by decide +kernel
theorem dX9_toldOf_9 : decode cX9_toldOf 9 = .ok (.arraylength, 1) := by decide +kernel
theorem dX9_toldOf_10 : decode cX9_toldOf 10 = .ok (.if_icmp .ge 14, 3) := by decide +kernel
theorem dX9_toldOf_13 : decode cX9_toldOf 13 = .ok (.aload_n 0, 1) := by decide +kernel
theorem dX9_toldOf_14 : decode cX9_toldOf 14 = .ok (.getfield 15, 3) := by decide +kernel
theorem dX9_toldOf_17 : decode cX9_toldOf 17 = .ok (.iload_n 1, 1) := by decide +kernel
theorem dX9_toldOf_18 : decode cX9_toldOf 18 = .ok (.laload, 1) := by decide +kernel
theorem dX9_toldOf_19 : decode cX9_toldOf 19 = .ok (.lconst 0, 1) := by decide +kernel
theorem dX9_toldOf_20 : decode cX9_toldOf 20 = .ok (.lcmp, 1) := by decide +kernel
theorem dX9_toldOf_21 : decode cX9_toldOf 21 = .ok (.ifCond .ge 5, 3) := by decide +kernel
theorem dX9_toldOf_24 : decode cX9_toldOf 24 = .ok (.lconst 0, 1) := by decide +kernel
theorem dX9_toldOf_25 : decode cX9_toldOf 25 = .ok (.lreturn, 1) := by decide +kernel
theorem dX9_toldOf_26 : decode cX9_toldOf 26 = .ok (.iload_n 1, 1) := by decide +kernel
theorem dX9_toldOf_27 : decode cX9_toldOf 27 = .ok (.iconst 4, 1) := by decide +kernel
theorem dX9_toldOf_28 : decode cX9_toldOf 28 = .ok (.if_icmp .eq 14, 3) := by decide +kernel
theorem dX9_toldOf_31 : decode cX9_toldOf 31 = .ok (.iload_n 1, 1) := by decide +kernel
theorem dX9_toldOf_32 : decode cX9_toldOf 32 = .ok (.iconst 3, 1) := by decide +kernel
theorem dX9_toldOf_33 : decode cX9_toldOf 33 = .ok (.if_icmp .eq 9, 3) := by decide +kernel
theorem dX9_toldOf_36 : decode cX9_toldOf 36 = .ok (.iload_n 1, 1) := by decide +kernel
theorem dX9_toldOf_37 : decode cX9_toldOf 37 = .ok (.bipush 7, 2) := by decide +kernel
theorem dX9_toldOf_39 : decode cX9_toldOf 39 = .ok (.if_icmp .ne 7, 3) := by decide +kernel
theorem dX9_toldOf_42 : decode cX9_toldOf 42 = .ok (.iconst 1, 1) := by decide +kernel
theorem dX9_toldOf_43 : decode cX9_toldOf 43 = .ok (.goto 4, 3) := by decide +kernel
theorem dX9_toldOf_46 : decode cX9_toldOf 46 = .ok (.iconst 0, 1) := by decide +kernel
theorem dX9_toldOf_47 : decode cX9_toldOf 47 = .ok (.istore_n 2, 1) := by decide +kernel
theorem dX9_toldOf_48 : decode cX9_toldOf 48 = .ok (.aload_n 0, 1) := by decide +kernel
theorem dX9_toldOf_49 : decode cX9_toldOf 49 = .ok (.getfield 15, 3) := by decide +kernel
theorem dX9_toldOf_52 : decode cX9_toldOf 52 = .ok (.iload_n 1, 1) := by decide +kernel
theorem dX9_toldOf_53 : decode cX9_toldOf 53 = .ok (.laload, 1) := by decide +kernel
theorem dX9_toldOf_54 : decode cX9_toldOf 54 = .ok (.iload_n 2, 1) := by decide +kernel
theorem dX9_toldOf_55 : decode cX9_toldOf 55 = .ok (.ifCond .eq 9, 3) := by decide +kernel
theorem dX9_toldOf_58 : decode cX9_toldOf 58 = .ok (.ldc2_w 61, 3) := by decide +kernel
theorem dX9_toldOf_61 : decode cX9_toldOf 61 = .ok (.goto 6, 3) := by decide +kernel
theorem dX9_toldOf_64 : decode cX9_toldOf 64 = .ok (.ldc2_w 63, 3) := by decide +kernel
theorem dX9_toldOf_67 : decode cX9_toldOf 67 = .ok (.invokestatic 65, 3) := by decide +kernel
theorem dX9_toldOf_70 : decode cX9_toldOf 70 = .ok (.lreturn, 1) := by decide +kernel
theorem dX9_addUp_0 : decode cX9_addUp 0 = .ok (.aload_n 0, 1) := by decide +kernel
theorem dX9_addUp_1 : decode cX9_addUp 1 = .ok (.iconst 0, 1) := by decide +kernel
theorem dX9_addUp_2 : decode cX9_addUp 2 = .ok (.invokevirtual 71, 3) := by decide +kernel
theorem dX9_addUp_5 : decode cX9_addUp 5 = .ok (.lstore_n 1, 1) := by decide +kernel
theorem dX9_addUp_6 : decode cX9_addUp 6 = .ok (.aload_n 0, 1) := by decide +kernel
theorem dX9_addUp_7 : decode cX9_addUp 7 = .ok (.lload_n 1, 1) := by decide +kernel
theorem dX9_addUp_8 : decode cX9_addUp 8 = .ok (.lload_n 1, 1) := by decide +kernel
theorem dX9_addUp_9 : decode cX9_addUp 9 = .ok (.aload_n 0, 1) := by decide +kernel
theorem dX9_addUp_10 : decode cX9_addUp 10 = .ok (.iconst 4, 1) := by decide +kernel
theorem dX9_addUp_11 : decode cX9_addUp 11 = .ok (.invokevirtual 71, 3) := by decide +kernel
theorem dX9_addUp_14 : decode cX9_addUp 14 = .ok (.invokestatic 74, 3) := by decide +kernel
theorem dX9_addUp_17 : decode cX9_addUp 17 = .ok (.ladd, 1) := by decide +kernel
theorem dX9_addUp_18 : decode cX9_addUp 18 = .ok (.putfield 77, 3) := by decide +kernel
theorem dX9_addUp_21 : decode cX9_addUp 21 = .ok (.aload_n 0, 1) := by decide +kernel
theorem dX9_addUp_22 : decode cX9_addUp 22 = .ok (.aload_n 0, 1) := by decide +kernel
theorem dX9_addUp_23 : decode cX9_addUp 23 = .ok (.getfield 77, 3) := by decide +kernel
theorem dX9_addUp_26 : decode cX9_addUp 26 = .ok (.aload_n 0, 1) := by decide +kernel
theorem dX9_addUp_27 : decode cX9_addUp 27 = .ok (.iconst 1, 1) := by decide +kernel
theorem dX9_addUp_28 : decode cX9_addUp 28 = .ok (.invokevirtual 71, 3) := by decide +kernel
theorem dX9_addUp_31 : decode cX9_addUp 31 = .ok (.ladd, 1) := by decide +kernel
theorem dX9_addUp_32 : decode cX9_addUp 32 = .ok (.aload_n 0, 1) := by decide +kernel
theorem dX9_addUp_33 : decode cX9_addUp 33 = .ok (.iconst 2, 1) := by decide +kernel
theorem dX9_addUp_34 : decode cX9_addUp 34 = .ok (.invokevirtual 71, 3) := by decide +kernel
theorem dX9_addUp_37 : decode cX9_addUp 37 = .ok (.ladd, 1) := by decide +kernel
theorem dX9_addUp_38 : decode cX9_addUp 38 = .ok (.putfield 81, 3) := by decide +kernel
theorem dX9_addUp_41 : decode cX9_addUp 41 = .ok (.aload_n 0, 1) := by decide +kernel
theorem dX9_addUp_42 : decode cX9_addUp 42 = .ok (.getfield 81, 3) := by decide +kernel
theorem dX9_addUp_45 : decode cX9_addUp 45 = .ok (.aload_n 0, 1) := by decide +kernel
theorem dX9_addUp_46 : decode cX9_addUp 46 = .ok (.getfield 81, 3) := by decide +kernel
theorem dX9_addUp_49 : decode cX9_addUp 49 = .ok (.aload_n 0, 1) := by decide +kernel
theorem dX9_addUp_50 : decode cX9_addUp 50 = .ok (.iconst 3, 1) := by decide +kernel
theorem dX9_addUp_51 : decode cX9_addUp 51 = .ok (.invokevirtual 71, 3) := by decide +kernel
theorem dX9_addUp_54 : decode cX9_addUp 54 = .ok (.invokestatic 74, 3) := by decide +kernel
theorem dX9_addUp_57 : decode cX9_addUp 57 = .ok (.ladd, 1) := by decide +kernel
theorem dX9_addUp_58 : decode cX9_addUp 58 = .ok (.lreturn, 1) := by decide +kernel
theorem dX10_init_0 : decode cX10_init 0 = .ok (.aload_n 0, 1) := by decide +kernel
theorem dX10_init_1 : decode cX10_init 1 = .ok (.invokespecial 3, 3) := by decide +kernel
theorem dX10_init_4 : decode cX10_init 4 = .ok (.aload_n 0, 1) := by decide +kernel
theorem dX10_init_5 : decode cX10_init 5 = .ok (.bipush 6, 2) := by decide +kernel
theorem dX10_init_7 : decode cX10_init 7 = .ok (.anewarray 9, 3) := by decide +kernel
theorem dX10_init_10 : decode cX10_init 10 = .ok (.putfield 11, 3) := by decide +kernel
theorem dX10_init_13 : decode cX10_init 13 = .ok (.iconst 0, 1) := by decide +kernel
theorem dX10_init_14 : decode cX10_init 14 = .ok (.istore_n 1, 1) := by decide +kernel
theorem dX10_init_15 : decode cX10_init 15 = .ok (.iload_n 1, 1) := by decide +kernel
theorem dX10_init_16 : decode cX10_init 16 = .ok (.aload_n 0, 1) := by decide +kernel
theorem dX10_init_17 : decode cX10_init 17 = .ok (.getfield 11, 3) := by decide +kernel
theorem dX10_init_20 : decode cX10_init 20 = .ok (.arraylength, 1) := by decide +kernel
theorem dX10_init_21 : decode cX10_init 21 = .ok (.if_icmp .ge 22, 3) := by decide +kernel
theorem dX10_init_24 : decode cX10_init 24 = .ok (.aload_n 0, 1) := by decide +kernel
theorem dX10_init_25 : decode cX10_init 25 = .ok (.getfield 11, 3) := by decide +kernel
theorem dX10_init_28 : decode cX10_init 28 = .ok (.iload_n 1, 1) := by decide +kernel
theorem dX10_init_29 : decode cX10_init 29 = .ok (.new 9, 3) := by decide +kernel
theorem dX10_init_32 : decode cX10_init 32 = .ok (.dup, 1) := by decide +kernel
theorem dX10_init_33 : decode cX10_init 33 = .ok (.invokespecial 17, 3) := by decide +kernel
theorem dX10_init_36 : decode cX10_init 36 = .ok (.aastore, 1) := by decide +kernel
theorem dX10_init_37 : decode cX10_init 37 = .ok (.iinc 1 1, 3) := by decide +kernel
theorem dX10_init_40 : decode cX10_init 40 = .ok (.goto (-25), 3) := by decide +kernel
theorem dX10_init_43 : decode cX10_init 43 = .ok (.aload_n 0, 1) := by decide +kernel
theorem dX10_init_44 : decode cX10_init 44 = .ok (.new 18, 3) := by decide +kernel
theorem dX10_init_47 : decode cX10_init 47 = .ok (.dup, 1) := by decide +kernel
theorem dX10_init_48 : decode cX10_init 48 = .ok (.iconst 4, 1) := by decide +kernel
theorem dX10_init_49 : decode cX10_init 49 = .ok (.invokespecial 20, 3) := by decide +kernel
theorem dX10_init_52 : decode cX10_init 52 = .ok (.putfield 23, 3) := by decide +kernel
theorem dX10_init_55 : decode cX10_init 55 = .ok (.aload_n 0, 1) := by decide +kernel
theorem dX10_init_56 : decode cX10_init 56 = .ok (.new 18, 3) := by decide +kernel
theorem dX10_init_59 : decode cX10_init 59 = .ok (.dup, 1) := by decide +kernel
theorem dX10_init_60 : decode cX10_init 60 = .ok (.iconst 4, 1) := by decide +kernel
theorem dX10_init_61 : decode cX10_init 61 = .ok (.invokespecial 20, 3) := by decide +kernel
theorem dX10_init_64 : decode cX10_init 64 = .ok (.putfield 27, 3) := by decide +kernel
theorem dX10_init_67 : decode cX10_init 67 = .ok (.aload_n 0, 1) := by decide +kernel
theorem dX10_init_68 : decode cX10_init 68 = .ok (.new 30, 3) := by decide +kernel
theorem dX10_init_71 : decode cX10_init 71 = .ok (.dup, 1) := by decide +kernel
theorem dX10_init_72 : decode cX10_init 72 = .ok (.invokespecial 32, 3) := by decide +kernel
theorem dX10_init_75 : decode cX10_init 75 = .ok (.putfield 33, 3) := by decide +kernel
theorem dX10_init_78 : decode cX10_init 78 = .ok (.aload_n 0, 1) := by decide +kernel
theorem dX10_init_79 : decode cX10_init 79 = .ok (.new 18, 3) := by decide +kernel
theorem dX10_init_82 : decode cX10_init 82 = .ok (.dup, 1) := by decide +kernel
theorem dX10_init_83 : decode cX10_init 83 = .ok (.sipush 420, 3) := by decide +kernel
theorem dX10_init_86 : decode cX10_init 86 = .ok (.invokespecial 20, 3) := by decide +kernel
theorem dX10_init_89 : decode cX10_init 89 = .ok (.putfield 37, 3) := by decide +kernel
theorem dX10_init_92 : decode cX10_init 92 = .ok (.aload_n 0, 1) := by decide +kernel
theorem dX10_init_93 : decode cX10_init 93 = .ok (.new 40, 3) := by decide +kernel
theorem dX10_init_96 : decode cX10_init 96 = .ok (.dup, 1) := by decide +kernel
theorem dX10_init_97 : decode cX10_init 97 = .ok (.invokespecial 42, 3) := by decide +kernel
theorem dX10_init_100 : decode cX10_init 100 = .ok (.putfield 43, 3) := by decide +kernel
theorem dX10_init_103 : decode cX10_init 103 = .ok (.aload_n 0, 1) := by decide +kernel
theorem dX10_init_104 : decode cX10_init 104 = .ok (.new 18, 3) := by decide +kernel
theorem dX10_init_107 : decode cX10_init 107 = .ok (.dup, 1) := by decide +kernel
theorem dX10_init_108 : decode cX10_init 108 = .ok (.bipush 6, 2) := by decide +kernel
theorem dX10_init_110 : decode cX10_init 110 = .ok (.invokespecial 20, 3) := by decide +kernel
theorem dX10_init_113 : decode cX10_init 113 = .ok (.putfield 47, 3) := by decide +kernel
theorem dX10_init_116 : decode cX10_init 116 = .ok (.aload_n 0, 1) := by decide +kernel
theorem dX10_init_117 : decode cX10_init 117 = .ok (.new 18, 3) := by decide +kernel
theorem dX10_init_120 : decode cX10_init 120 = .ok (.dup, 1) := by decide +kernel
theorem dX10_init_121 : decode cX10_init 121 = .ok (.bipush 8, 2) := by decide +kernel
theorem dX10_init_123 : decode cX10_init 123 = .ok (.invokespecial 20, 3) := by decide +kernel
theorem dX10_init_126 : decode cX10_init 126 = .ok (.putfield 50, 3) := by decide +kernel
theorem dX10_init_129 : decode cX10_init 129 = .ok (.aload_n 0, 1) := by decide +kernel
theorem dX10_init_130 : decode cX10_init 130 = .ok (.new 18, 3) := by decide +kernel
theorem dX10_init_133 : decode cX10_init 133 = .ok (.dup, 1) := by decide +kernel
theorem dX10_init_134 : decode cX10_init 134 = .ok (.bipush 8, 2) := by decide +kernel
theorem dX10_init_136 : decode cX10_init 136 = .ok (.invokespecial 20, 3) := by decide +kernel
theorem dX10_init_139 : decode cX10_init 139 = .ok (.putfield 53, 3) := by decide +kernel
theorem dX10_init_142 : decode cX10_init 142 = .ok (.aload_n 0, 1) := by decide +kernel
theorem dX10_init_143 : decode cX10_init 143 = .ok (.iconst 1, 1) := by decide +kernel
theorem dX10_init_144 : decode cX10_init 144 = .ok (.putfield 56, 3) := by decide +kernel
theorem dX10_init_147 : decode cX10_init 147 = .ok (.return_, 1) := by decide +kernel
theorem dX10_copyFrom_0 : decode cX10_copyFrom 0 = .ok (.iconst 0, 1) := by decide +kernel
theorem dX10_copyFrom_1 : decode cX10_copyFrom 1 = .ok (.istore_n 2, 1) := by decide +kernel
theorem dX10_copyFrom_2 : decode cX10_copyFrom 2 = .ok (.iload_n 2, 1) := by decide +kernel
theorem dX10_copyFrom_3 : decode cX10_copyFrom 3 = .ok (.aload_n 0, 1) := by decide +kernel
theorem dX10_copyFrom_4 : decode cX10_copyFrom 4 = .ok (.getfield 11, 3) := by decide +kernel
theorem dX10_copyFrom_7 : decode cX10_copyFrom 7 = .ok (.arraylength, 1) := by decide +kernel
theorem dX10_copyFrom_8 : decode cX10_copyFrom 8 = .ok (.if_icmp .ge 33, 3) := by decide +kernel
theorem dX10_copyFrom_11 : decode cX10_copyFrom 11 = .ok (.iload_n 2, 1) := by decide +kernel
theorem dX10_copyFrom_12 : decode cX10_copyFrom 12 = .ok (.aload_n 1, 1) := by decide +kernel
theorem dX10_copyFrom_13 : decode cX10_copyFrom 13 = .ok (.getfield 11, 3) := by decide +kernel
theorem dX10_copyFrom_16 : decode cX10_copyFrom 16 = .ok (.arraylength, 1) := by decide +kernel
theorem dX10_copyFrom_17 : decode cX10_copyFrom 17 = .ok (.if_icmp .ge 24, 3) := by decide +kernel
theorem dX10_copyFrom_20 : decode cX10_copyFrom 20 = .ok (.aload_n 0, 1) := by decide +kernel
theorem dX10_copyFrom_21 : decode cX10_copyFrom 21 = .ok (.getfield 11, 3) := by decide +kernel
theorem dX10_copyFrom_24 : decode cX10_copyFrom 24 = .ok (.iload_n 2, 1) := by decide +kernel
theorem dX10_copyFrom_25 : decode cX10_copyFrom 25 = .ok (.aaload, 1) := by decide +kernel
theorem dX10_copyFrom_26 : decode cX10_copyFrom 26 = .ok (.aload_n 1, 1) := by decide +kernel
theorem dX10_copyFrom_27 : decode cX10_copyFrom 27 = .ok (.getfield 11, 3) := by decide +kernel
theorem dX10_copyFrom_30 : decode cX10_copyFrom 30 = .ok (.iload_n 2, 1) := by decide +kernel
theorem dX10_copyFrom_31 : decode cX10_copyFrom 31 = .ok (.aaload, 1) := by decide +kernel
theorem dX10_copyFrom_32 : decode cX10_copyFrom 32 = .ok (.invokevirtual 60, 3) := by decide +kernel
theorem dX10_copyFrom_35 : decode cX10_copyFrom 35 = .ok (.iinc 2 1, 3) := by decide +kernel
theorem dX10_copyFrom_38 : decode cX10_copyFrom 38 = .ok (.goto (-36), 3) := by decide +kernel
theorem dX10_copyFrom_41 : decode cX10_copyFrom 41 = .ok (.aload_n 0, 1) := by decide +kernel
theorem dX10_copyFrom_42 : decode cX10_copyFrom 42 = .ok (.aload_n 1, 1) := by decide +kernel
theorem dX10_copyFrom_43 : decode cX10_copyFrom 43 = .ok (.getfield 64, 3) := by decide +kernel
theorem dX10_copyFrom_46 : decode cX10_copyFrom 46 = .ok (.putfield 64, 3) := by decide +kernel
theorem dX10_copyFrom_49 : decode cX10_copyFrom 49 = .ok (.aload_n 0, 1) := by decide +kernel
theorem dX10_copyFrom_50 : decode cX10_copyFrom 50 = .ok (.getfield 23, 3) := by decide +kernel
theorem dX10_copyFrom_53 : decode cX10_copyFrom 53 = .ok (.aload_n 1, 1) := by decide +kernel
theorem dX10_copyFrom_54 : decode cX10_copyFrom 54 = .ok (.getfield 23, 3) := by decide +kernel
theorem dX10_copyFrom_57 : decode cX10_copyFrom 57 = .ok (.invokevirtual 67, 3) := by decide +kernel
theorem dX10_copyFrom_60 : decode cX10_copyFrom 60 = .ok (.aload_n 0, 1) := by decide +kernel
theorem dX10_copyFrom_61 : decode cX10_copyFrom 61 = .ok (.getfield 27, 3) := by decide +kernel
theorem dX10_copyFrom_64 : decode cX10_copyFrom 64 = .ok (.aload_n 1, 1) := by decide +kernel
theorem dX10_copyFrom_65 : decode cX10_copyFrom 65 = .ok (.getfield 27, 3) := by decide +kernel
theorem dX10_copyFrom_68 : decode cX10_copyFrom 68 = .ok (.invokevirtual 67, 3) := by decide +kernel
theorem dX10_copyFrom_71 : decode cX10_copyFrom 71 = .ok (.aload_n 0, 1) := by decide +kernel
theorem dX10_copyFrom_72 : decode cX10_copyFrom 72 = .ok (.getfield 33, 3) := by decide +kernel
theorem dX10_copyFrom_75 : decode cX10_copyFrom 75 = .ok (.aload_n 1, 1) := by decide +kernel
theorem dX10_copyFrom_76 : decode cX10_copyFrom 76 = .ok (.getfield 33, 3) := by decide +kernel
theorem dX10_copyFrom_79 : decode cX10_copyFrom 79 = .ok (.invokevirtual 70, 3) := by decide +kernel
theorem dX10_copyFrom_82 : decode cX10_copyFrom 82 = .ok (.aload_n 0, 1) := by decide +kernel
theorem dX10_copyFrom_83 : decode cX10_copyFrom 83 = .ok (.getfield 37, 3) := by decide +kernel
theorem dX10_copyFrom_86 : decode cX10_copyFrom 86 = .ok (.aload_n 1, 1) := by decide +kernel
theorem dX10_copyFrom_87 : decode cX10_copyFrom 87 = .ok (.getfield 37, 3) := by decide +kernel
theorem dX10_copyFrom_90 : decode cX10_copyFrom 90 = .ok (.invokevirtual 67, 3) := by decide +kernel
theorem dX10_copyFrom_93 : decode cX10_copyFrom 93 = .ok (.aload_n 0, 1) := by decide +kernel
theorem dX10_copyFrom_94 : decode cX10_copyFrom 94 = .ok (.getfield 43, 3) := by decide +kernel
theorem dX10_copyFrom_97 : decode cX10_copyFrom 97 = .ok (.aload_n 1, 1) := by decide +kernel
theorem dX10_copyFrom_98 : decode cX10_copyFrom 98 = .ok (.getfield 43, 3) := by decide +kernel
theorem dX10_copyFrom_101 : decode cX10_copyFrom 101 = .ok (.invokevirtual 73, 3) := by decide +kernel
theorem dX10_copyFrom_104 : decode cX10_copyFrom 104 = .ok (.aload_n 0, 1) := by decide +kernel
theorem dX10_copyFrom_105 : decode cX10_copyFrom 105 = .ok (.getfield 47, 3) := by decide +kernel
theorem dX10_copyFrom_108 : decode cX10_copyFrom 108 = .ok (.aload_n 1, 1) := by decide +kernel
theorem dX10_copyFrom_109 : decode cX10_copyFrom 109 = .ok (.getfield 47, 3) := by decide +kernel
theorem dX10_copyFrom_112 : decode cX10_copyFrom 112 = .ok (.invokevirtual 67, 3) := by decide +kernel
theorem dX10_copyFrom_115 : decode cX10_copyFrom 115 = .ok (.aload_n 0, 1) := by decide +kernel
theorem dX10_copyFrom_116 : decode cX10_copyFrom 116 = .ok (.getfield 50, 3) := by decide +kernel
theorem dX10_copyFrom_119 : decode cX10_copyFrom 119 = .ok (.aload_n 1, 1) := by decide +kernel
theorem dX10_copyFrom_120 : decode cX10_copyFrom 120 = .ok (.getfield 50, 3) := by decide +kernel
theorem dX10_copyFrom_123 : decode cX10_copyFrom 123 = .ok (.invokevirtual 67, 3) := by decide +kernel
theorem dX10_copyFrom_126 : decode cX10_copyFrom 126 = .ok (.aload_n 0, 1) := by decide +kernel
theorem dX10_copyFrom_127 : decode cX10_copyFrom 127 = .ok (.getfield 53, 3) := by decide +kernel
theorem dX10_copyFrom_130 : decode cX10_copyFrom 130 = .ok (.aload_n 1, 1) := by decide +kernel
theorem dX10_copyFrom_131 : decode cX10_copyFrom 131 = .ok (.getfield 53, 3) := by decide +kernel
theorem dX10_copyFrom_134 : decode cX10_copyFrom 134 = .ok (.invokevirtual 67, 3) := by decide +kernel
theorem dX10_copyFrom_137 : decode cX10_copyFrom 137 = .ok (.aload_n 0, 1) := by decide +kernel
theorem dX10_copyFrom_138 : decode cX10_copyFrom 138 = .ok (.aload_n 1, 1) := by decide +kernel
theorem dX10_copyFrom_139 : decode cX10_copyFrom 139 = .ok (.getfield 56, 3) := by decide +kernel
theorem dX10_copyFrom_142 : decode cX10_copyFrom 142 = .ok (.putfield 56, 3) := by decide +kernel
theorem dX10_copyFrom_145 : decode cX10_copyFrom 145 = .ok (.return_, 1) := by decide +kernel
theorem dX10_hullAt_0 : decode cX10_hullAt 0 = .ok (.iload_n 1, 1) := by decide +kernel
theorem dX10_hullAt_1 : decode cX10_hullAt 1 = .ok (.ifCond .lt 24, 3) := by decide +kernel
theorem dX10_hullAt_4 : decode cX10_hullAt 4 = .ok (.iload_n 1, 1) := by decide +kernel
theorem dX10_hullAt_5 : decode cX10_hullAt 5 = .ok (.aload_n 0, 1) := by decide +kernel
theorem dX10_hullAt_6 : decode cX10_hullAt 6 = .ok (.getfield 64, 3) := by decide +kernel
theorem dX10_hullAt_9 : decode cX10_hullAt 9 = .ok (.if_icmp .ge 16, 3) := by decide +kernel
theorem dX10_hullAt_12 : decode cX10_hullAt 12 = .ok (.iload_n 1, 1) := by decide +kernel
theorem dX10_hullAt_13 : decode cX10_hullAt 13 = .ok (.aload_n 0, 1) := by decide +kernel
theorem dX10_hullAt_14 : decode cX10_hullAt 14 = .ok (.getfield 11, 3) := by decide +kernel
theorem dX10_hullAt_17 : decode cX10_hullAt 17 = .ok (.arraylength, 1) := by decide +kernel
theorem dX10_hullAt_18 : decode cX10_hullAt 18 = .ok (.if_icmp .ge 7, 3) := by decide +kernel
theorem dX10_hullAt_21 : decode cX10_hullAt 21 = .ok (.iconst 1, 1) := by decide +kernel
theorem dX10_hullAt_22 : decode cX10_hullAt 22 = .ok (.goto 4, 3) := by decide +kernel
theorem dX10_hullAt_25 : decode cX10_hullAt 25 = .ok (.iconst 0, 1) := by decide +kernel
theorem dX10_hullAt_26 : decode cX10_hullAt 26 = .ok (.istore_n 2, 1) := by decide +kernel
theorem dX10_hullAt_27 : decode cX10_hullAt 27 = .ok (.iload_n 2, 1) := by decide +kernel
theorem dX10_hullAt_28 : decode cX10_hullAt 28 = .ok (.ifCond .eq 12, 3) := by decide +kernel
theorem dX10_hullAt_31 : decode cX10_hullAt 31 = .ok (.aload_n 0, 1) := by decide +kernel
theorem dX10_hullAt_32 : decode cX10_hullAt 32 = .ok (.getfield 11, 3) := by decide +kernel
theorem dX10_hullAt_35 : decode cX10_hullAt 35 = .ok (.iload_n 1, 1) := by decide +kernel
theorem dX10_hullAt_36 : decode cX10_hullAt 36 = .ok (.aaload, 1) := by decide +kernel
theorem dX10_hullAt_37 : decode cX10_hullAt 37 = .ok (.goto 4, 3) := by decide +kernel
theorem dX10_hullAt_40 : decode cX10_hullAt 40 = .ok (.aconst_null, 1) := by decide +kernel
theorem dX10_hullAt_41 : decode cX10_hullAt 41 = .ok (.areturn, 1) := by decide +kernel
theorem dX10_addHull_0 : decode cX10_addHull 0 = .ok (.aload_n 0, 1) := by decide +kernel
theorem dX10_addHull_1 : decode cX10_addHull 1 = .ok (.getfield 64, 3) := by decide +kernel
theorem dX10_addHull_4 : decode cX10_addHull 4 = .ok (.aload_n 0, 1) := by decide +kernel
theorem dX10_addHull_5 : decode cX10_addHull 5 = .ok (.getfield 11, 3) := by decide +kernel
theorem dX10_addHull_8 : decode cX10_addHull 8 = .ok (.arraylength, 1) := by decide +kernel
theorem dX10_addHull_9 : decode cX10_addHull 9 = .ok (.if_icmp .lt 5, 3) := by decide +kernel
theorem dX10_addHull_12 : decode cX10_addHull 12 = .ok (.iconst (-1), 1) := by decide +kernel
theorem dX10_addHull_13 : decode cX10_addHull 13 = .ok (.ireturn, 1) := by decide +kernel
theorem dX10_addHull_14 : decode cX10_addHull 14 = .ok (.aload_n 0, 1) := by decide +kernel
theorem dX10_addHull_15 : decode cX10_addHull 15 = .ok (.getfield 11, 3) := by decide +kernel
theorem dX10_addHull_18 : decode cX10_addHull 18 = .ok (.aload_n 0, 1) := by decide +kernel
theorem dX10_addHull_19 : decode cX10_addHull 19 = .ok (.getfield 64, 3) := by decide +kernel
theorem dX10_addHull_22 : decode cX10_addHull 22 = .ok (.aaload, 1) := by decide +kernel
theorem dX10_addHull_23 : decode cX10_addHull 23 = .ok (.iload_n 1, 1) := by decide +kernel
theorem dX10_addHull_24 : decode cX10_addHull 24 = .ok (.iload_n 2, 1) := by decide +kernel
theorem dX10_addHull_25 : decode cX10_addHull 25 = .ok (.invokevirtual 76, 3) := by decide +kernel
theorem dX10_addHull_28 : decode cX10_addHull 28 = .ok (.aload_n 0, 1) := by decide +kernel
theorem dX10_addHull_29 : decode cX10_addHull 29 = .ok (.dup, 1) := by decide +kernel
theorem dX10_addHull_30 : decode cX10_addHull 30 = .ok (.getfield 64, 3) := by decide +kernel
theorem dX10_addHull_33 : decode cX10_addHull 33 = .ok (.iconst 1, 1) := by decide +kernel
theorem dX10_addHull_34 : decode cX10_addHull 34 = .ok (.iadd, 1) := by decide +kernel
theorem dX10_addHull_35 : decode cX10_addHull 35 = .ok (.putfield 64, 3) := by decide +kernel
theorem dX10_addHull_38 : decode cX10_addHull 38 = .ok (.aload_n 0, 1) := by decide +kernel
theorem dX10_addHull_39 : decode cX10_addHull 39 = .ok (.getfield 64, 3) := by decide +kernel
theorem dX10_addHull_42 : decode cX10_addHull 42 = .ok (.iconst 1, 1) := by decide +kernel
theorem dX10_addHull_43 : decode cX10_addHull 43 = .ok (.isub, 1) := by decide +kernel
theorem dX10_addHull_44 : decode cX10_addHull 44 = .ok (.ireturn, 1) := by decide +kernel
theorem dX10_addTank_0 : decode cX10_addTank 0 = .ok (.aload_n 0, 1) := by decide +kernel
theorem dX10_addTank_1 : decode cX10_addTank 1 = .ok (.getfield 23, 3) := by decide +kernel
theorem dX10_addTank_4 : decode cX10_addTank 4 = .ok (.invokevirtual 80, 3) := by decide +kernel
theorem dX10_addTank_7 : decode cX10_addTank 7 = .ok (.ifCond .eq 5, 3) := by decide +kernel
theorem dX10_addTank_10 : decode cX10_addTank 10 = .ok (.iconst (-1), 1) := by decide +kernel
theorem dX10_addTank_11 : decode cX10_addTank 11 = .ok (.ireturn, 1) := by decide +kernel
theorem dX10_addTank_12 : decode cX10_addTank 12 = .ok (.aload_n 0, 1) := by decide +kernel
theorem dX10_addTank_13 : decode cX10_addTank 13 = .ok (.getfield 23, 3) := by decide +kernel
theorem dX10_addTank_16 : decode cX10_addTank 16 = .ok (.iload_n 1, 1) := by decide +kernel
theorem dX10_addTank_17 : decode cX10_addTank 17 = .ok (.invokevirtual 84, 3) := by decide +kernel
theorem dX10_addTank_20 : decode cX10_addTank 20 = .ok (.aload_n 0, 1) := by decide +kernel
theorem dX10_addTank_21 : decode cX10_addTank 21 = .ok (.getfield 27, 3) := by decide +kernel
theorem dX10_addTank_24 : decode cX10_addTank 24 = .ok (.iload_n 2, 1) := by decide +kernel
theorem dX10_addTank_25 : decode cX10_addTank 25 = .ok (.invokevirtual 84, 3) := by decide +kernel
theorem dX10_addTank_28 : decode cX10_addTank 28 = .ok (.aload_n 0, 1) := by decide +kernel
theorem dX10_addTank_29 : decode cX10_addTank 29 = .ok (.getfield 23, 3) := by decide +kernel
theorem dX10_addTank_32 : decode cX10_addTank 32 = .ok (.invokevirtual 87, 3) := by decide +kernel
theorem dX10_addTank_35 : decode cX10_addTank 35 = .ok (.iconst 1, 1) := by decide +kernel
theorem dX10_addTank_36 : decode cX10_addTank 36 = .ok (.isub, 1) := by decide +kernel
theorem dX10_addTank_37 : decode cX10_addTank 37 = .ok (.ireturn, 1) := by decide +kernel
theorem dX10_runCount_0 : decode cX10_runCount 0 = .ok (.aload_n 0, 1) := by decide +kernel
theorem dX10_runCount_1 : decode cX10_runCount 1 = .ok (.getfield 37, 3) := by decide +kernel
theorem dX10_runCount_4 : decode cX10_runCount 4 = .ok (.invokevirtual 87, 3) := by decide +kernel
theorem dX10_runCount_7 : decode cX10_runCount 7 = .ok (.bipush 7, 2) := by decide +kernel
theorem dX10_runCount_9 : decode cX10_runCount 9 = .ok (.idiv, 1) := by decide +kernel
theorem dX10_runCount_10 : decode cX10_runCount 10 = .ok (.ireturn, 1) := by decide +kernel
theorem dX10_runCell_0 : decode cX10_runCell 0 = .ok (.aload_n 0, 1) := by decide +kernel
theorem dX10_runCell_1 : decode cX10_runCell 1 = .ok (.getfield 37, 3) := by decide +kernel
theorem dX10_runCell_4 : decode cX10_runCell 4 = .ok (.iload_n 1, 1) := by decide +kernel
theorem dX10_runCell_5 : decode cX10_runCell 5 = .ok (.bipush 7, 2) := by decide +kernel
theorem dX10_runCell_7 : decode cX10_runCell 7 = .ok (.imul, 1) := by decide +kernel
theorem dX10_runCell_8 : decode cX10_runCell 8 = .ok (.iload_n 2, 1) := by decide +kernel
theorem dX10_runCell_9 : decode cX10_runCell 9 = .ok (.iadd, 1) := by decide +kernel
theorem dX10_runCell_10 : decode cX10_runCell 10 = .ok (.invokevirtual 91, 3) := by decide +kernel
theorem dX10_runCell_13 : decode cX10_runCell 13 = .ok (.ireturn, 1) := by decide +kernel
theorem dX10_addRun_0 : decode cX10_addRun 0 = .ok (.aload_n 0, 1) := by decide +kernel
theorem dX10_addRun_1 : decode cX10_addRun 1 = .ok (.getfield 37, 3) := by decide +kernel
theorem dX10_addRun_4 : decode cX10_addRun 4 = .ok (.invokevirtual 80, 3) := by decide +kernel
theorem dX10_addRun_7 : decode cX10_addRun 7 = .ok (.ifCond .eq 5, 3) := by decide +kernel
theorem dX10_addRun_10 : decode cX10_addRun 10 = .ok (.iconst (-1), 1) := by decide +kernel
theorem dX10_addRun_11 : decode cX10_addRun 11 = .ok (.ireturn, 1) := by decide +kernel
theorem dX10_addRun_12 : decode cX10_addRun 12 = .ok (.aload_n 0, 1) := by decide +kernel
theorem dX10_addRun_13 : decode cX10_addRun 13 = .ok (.getfield 37, 3) := by decide +kernel
theorem dX10_addRun_16 : decode cX10_addRun 16 = .ok (.aload_n 0, 1) := by decide +kernel
theorem dX10_addRun_17 : decode cX10_addRun 17 = .ok (.getfield 33, 3) := by decide +kernel
theorem dX10_addRun_20 : decode cX10_addRun 20 = .ok (.getfield 95, 3) := by decide +kernel
theorem dX10_addRun_23 : decode cX10_addRun 23 = .ok (.invokevirtual 84, 3) := by decide +kernel
theorem dX10_addRun_26 : decode cX10_addRun 26 = .ok (.aload_n 0, 1) := by decide +kernel
theorem dX10_addRun_27 : decode cX10_addRun 27 = .ok (.getfield 37, 3) := by decide +kernel
theorem dX10_addRun_30 : decode cX10_addRun 30 = .ok (.aload_n 0, 1) := by decide +kernel
theorem dX10_addRun_31 : decode cX10_addRun 31 = .ok (.getfield 33, 3) := by decide +kernel
theorem dX10_addRun_34 : decode cX10_addRun 34 = .ok (.getfield 98, 3) := by decide +kernel
theorem dX10_addRun_37 : decode cX10_addRun 37 = .ok (.invokevirtual 84, 3) := by decide +kernel
theorem dX10_addRun_40 : decode cX10_addRun 40 = .ok (.aload_n 0, 1) := by decide +kernel
theorem dX10_addRun_41 : decode cX10_addRun 41 = .ok (.getfield 37, 3) := by decide +kernel
theorem dX10_addRun_44 : decode cX10_addRun 44 = .ok (.aload_n 0, 1) := by decide +kernel
theorem dX10_addRun_45 : decode cX10_addRun 45 = .ok (.getfield 33, 3) := by decide +kernel
theorem dX10_addRun_48 : decode cX10_addRun 48 = .ok (.getfield 101, 3) := by decide +kernel
theorem dX10_addRun_51 : decode cX10_addRun 51 = .ok (.invokevirtual 84, 3) := by decide +kernel
theorem dX10_addRun_54 : decode cX10_addRun 54 = .ok (.aload_n 0, 1) := by decide +kernel
theorem dX10_addRun_55 : decode cX10_addRun 55 = .ok (.getfield 37, 3) := by decide +kernel
theorem dX10_addRun_58 : decode cX10_addRun 58 = .ok (.aload_n 0, 1) := by decide +kernel
theorem dX10_addRun_59 : decode cX10_addRun 59 = .ok (.getfield 33, 3) := by decide +kernel
theorem dX10_addRun_62 : decode cX10_addRun 62 = .ok (.getfield 104, 3) := by decide +kernel
theorem dX10_addRun_65 : decode cX10_addRun 65 = .ok (.invokevirtual 84, 3) := by decide +kernel
theorem dX10_addRun_68 : decode cX10_addRun 68 = .ok (.aload_n 0, 1) := by decide +kernel
theorem dX10_addRun_69 : decode cX10_addRun 69 = .ok (.getfield 37, 3) := by decide +kernel
theorem dX10_addRun_72 : decode cX10_addRun 72 = .ok (.aload_n 0, 1) := by decide +kernel
theorem dX10_addRun_73 : decode cX10_addRun 73 = .ok (.getfield 33, 3) := by decide +kernel
theorem dX10_addRun_76 : decode cX10_addRun 76 = .ok (.getfield 107, 3) := by decide +kernel
theorem dX10_addRun_79 : decode cX10_addRun 79 = .ok (.ifCond .eq 7, 3) := by decide +kernel
theorem dX10_addRun_82 : decode cX10_addRun 82 = .ok (.iconst 1, 1) := by decide +kernel
theorem dX10_addRun_83 : decode cX10_addRun 83 = .ok (.goto 4, 3) := by decide +kernel
theorem dX10_addRun_86 : decode cX10_addRun 86 = .ok (.iconst 0, 1) := by decide +kernel
theorem dX10_addRun_87 : decode cX10_addRun 87 = .ok (.invokevirtual 84, 3) := by decide +kernel
theorem dX10_addRun_90 : decode cX10_addRun 90 = .ok (.aload_n 0, 1) := by decide +kernel
theorem dX10_addRun_91 : decode cX10_addRun 91 = .ok (.getfield 37, 3) := by decide +kernel
theorem dX10_addRun_94 : decode cX10_addRun 94 = .ok (.aload_n 0, 1) := by decide +kernel
theorem dX10_addRun_95 : decode cX10_addRun 95 = .ok (.getfield 33, 3) := by decide +kernel
theorem dX10_addRun_98 : decode cX10_addRun 98 = .ok (.getfield 111, 3) := by decide +kernel
theorem dX10_addRun_101 : decode cX10_addRun 101 = .ok (.invokevirtual 84, 3) := by decide +kernel
theorem dX10_addRun_104 : decode cX10_addRun 104 = .ok (.aload_n 0, 1) := by decide +kernel
theorem dX10_addRun_105 : decode cX10_addRun 105 = .ok (.getfield 37, 3) := by decide +kernel
theorem dX10_addRun_108 : decode cX10_addRun 108 = .ok (.iload_n 1, 1) := by decide +kernel
theorem dX10_addRun_109 : decode cX10_addRun 109 = .ok (.invokevirtual 84, 3) := by decide +kernel
theorem dX10_addRun_112 : decode cX10_addRun 112 = .ok (.aload_n 0, 1) := by decide +kernel
theorem dX10_addRun_113 : decode cX10_addRun 113 = .ok (.invokevirtual 114, 3) := by decide +kernel
theorem dX10_addRun_116 : decode cX10_addRun 116 = .ok (.iconst 1, 1) := by decide +kernel
theorem dX10_addRun_117 : decode cX10_addRun 117 = .ok (.isub, 1) := by decide +kernel
theorem dX10_addRun_118 : decode cX10_addRun 118 = .ok (.ireturn, 1) := by decide +kernel
theorem dX10_fetchRun_0 : decode cX10_fetchRun 0 = .ok (.aload_n 2, 1) := by decide +kernel
theorem dX10_fetchRun_1 : decode cX10_fetchRun 1 = .ok (.aload_n 0, 1) := by decide +kernel
theorem dX10_fetchRun_2 : decode cX10_fetchRun 2 = .ok (.iload_n 1, 1) := by decide +kernel
theorem dX10_fetchRun_3 : decode cX10_fetchRun 3 = .ok (.iconst 0, 1) := by decide +kernel
theorem dX10_fetchRun_4 : decode cX10_fetchRun 4 = .ok (.invokevirtual 117, 3) := by decide +kernel
theorem dX10_fetchRun_7 : decode cX10_fetchRun 7 = .ok (.aload_n 0, 1) := by decide +kernel
theorem dX10_fetchRun_8 : decode cX10_fetchRun 8 = .ok (.iload_n 1, 1) := by decide +kernel
theorem dX10_fetchRun_9 : decode cX10_fetchRun 9 = .ok (.iconst 1, 1) := by decide +kernel
theorem dX10_fetchRun_10 : decode cX10_fetchRun 10 = .ok (.invokevirtual 117, 3) := by decide +kernel
theorem dX10_fetchRun_13 : decode cX10_fetchRun 13 = .ok (.aload_n 0, 1) := by decide +kernel
theorem dX10_fetchRun_14 : decode cX10_fetchRun 14 = .ok (.iload_n 1, 1) := by decide +kernel
theorem dX10_fetchRun_15 : decode cX10_fetchRun 15 = .ok (.iconst 2, 1) := by decide +kernel
theorem dX10_fetchRun_16 : decode cX10_fetchRun 16 = .ok (.invokevirtual 117, 3) := by decide +kernel
theorem dX10_fetchRun_19 : decode cX10_fetchRun 19 = .ok (.aload_n 0, 1) := by decide +kernel
theorem dX10_fetchRun_20 : decode cX10_fetchRun 20 = .ok (.iload_n 1, 1) := by decide +kernel
theorem dX10_fetchRun_21 : decode cX10_fetchRun 21 = .ok (.iconst 3, 1) := by decide +kernel
theorem dX10_fetchRun_22 : decode cX10_fetchRun 22 = .ok (.invokevirtual 117, 3) := by decide +kernel
theorem dX10_fetchRun_25 : decode cX10_fetchRun 25 = .ok (.invokevirtual 121, 3) := by decide +kernel
theorem dX10_fetchRun_28 : decode cX10_fetchRun 28 = .ok (.aload_n 2, 1) := by decide +kernel
theorem dX10_fetchRun_29 : decode cX10_fetchRun 29 = .ok (.aload_n 0, 1) := by decide +kernel
theorem dX10_fetchRun_30 : decode cX10_fetchRun 30 = .ok (.iload_n 1, 1) := by decide +kernel
theorem dX10_fetchRun_31 : decode cX10_fetchRun 31 = .ok (.iconst 4, 1) := by decide +kernel
theorem dX10_fetchRun_32 : decode cX10_fetchRun 32 = .ok (.invokevirtual 117, 3) := by decide +kernel
theorem dX10_fetchRun_35 : decode cX10_fetchRun 35 = .ok (.iconst 1, 1) := by decide +kernel
theorem dX10_fetchRun_36 : decode cX10_fetchRun 36 = .ok (.if_icmp .ne 7, 3) := by decide +kernel
theorem dX10_fetchRun_39 : decode cX10_fetchRun 39 = .ok (.iconst 1, 1) := by decide +kernel
theorem dX10_fetchRun_40 : decode cX10_fetchRun 40 = .ok (.goto 4, 3) := by decide +kernel
theorem dX10_fetchRun_43 : decode cX10_fetchRun 43 = .ok (.iconst 0, 1) := by decide +kernel
theorem dX10_fetchRun_44 : decode cX10_fetchRun 44 = .ok (.aload_n 0, 1) := by decide +kernel
theorem dX10_fetchRun_45 : decode cX10_fetchRun 45 = .ok (.iload_n 1, 1) := by decide +kernel
theorem dX10_fetchRun_46 : decode cX10_fetchRun 46 = .ok (.iconst 5, 1) := by decide +kernel
theorem dX10_fetchRun_47 : decode cX10_fetchRun 47 = .ok (.invokevirtual 117, 3) := by decide +kernel
theorem dX10_fetchRun_50 : decode cX10_fetchRun 50 = .ok (.invokevirtual 125, 3) := by decide +kernel
theorem dX10_fetchRun_53 : decode cX10_fetchRun 53 = .ok (.return_, 1) := by decide +kernel
theorem dX10_drawOf_0 : decode cX10_drawOf 0 = .ok (.aload_n 0, 1) := by decide +kernel
theorem dX10_drawOf_1 : decode cX10_drawOf 1 = .ok (.aload_n 0, 1) := by decide +kernel
theorem dX10_drawOf_2 : decode cX10_drawOf 2 = .ok (.getfield 56, 3) := by decide +kernel
theorem dX10_drawOf_5 : decode cX10_drawOf 5 = .ok (.ldc 129, 2) := by decide +kernel
theorem dX10_drawOf_7 : decode cX10_drawOf 7 = .ok (.imul, 1) := by decide +kernel
theorem dX10_drawOf_8 : decode cX10_drawOf 8 = .ok (.sipush 12345, 3) := by decide +kernel
theorem dX10_drawOf_11 : decode cX10_drawOf 11 = .ok (.iadd, 1) := by decide +kernel
theorem dX10_drawOf_12 : decode cX10_drawOf 12 = .ok (.putfield 56, 3) := by decide +kernel
theorem dX10_drawOf_15 : decode cX10_drawOf 15 = .ok (.iload_n 1, 1) := by decide +kernel
theorem dX10_drawOf_16 : decode cX10_drawOf 16 = .ok (.ifCond .le 19, 3) := by decide +kernel
theorem dX10_drawOf_19 : decode cX10_drawOf 19 = .ok (.aload_n 0, 1) := by decide +kernel
theorem dX10_drawOf_20 : decode cX10_drawOf 20 = .ok (.getfield 56, 3) := by decide +kernel
theorem dX10_drawOf_23 : decode cX10_drawOf 23 = .ok (.bipush 16, 2) := by decide +kernel
theorem dX10_drawOf_25 : decode cX10_drawOf 25 = .ok (.iushr, 1) := by decide +kernel
theorem dX10_drawOf_26 : decode cX10_drawOf 26 = .ok (.sipush 32767, 3) := by decide +kernel
theorem dX10_drawOf_29 : decode cX10_drawOf 29 = .ok (.iand, 1) := by decide +kernel
theorem dX10_drawOf_30 : decode cX10_drawOf 30 = .ok (.iload_n 1, 1) := by decide +kernel
theorem dX10_drawOf_31 : decode cX10_drawOf 31 = .ok (.irem, 1) := by decide +kernel
theorem dX10_drawOf_32 : decode cX10_drawOf 32 = .ok (.goto 4, 3) := by decide +kernel
theorem dX10_drawOf_35 : decode cX10_drawOf 35 = .ok (.iconst 0, 1) := by decide +kernel
theorem dX10_drawOf_36 : decode cX10_drawOf 36 = .ok (.ireturn, 1) := by decide +kernel
theorem dX10_mileSum_0 : decode cX10_mileSum 0 = .ok (.aload_n 0, 1) := by decide +kernel
theorem dX10_mileSum_1 : decode cX10_mileSum 1 = .ok (.getfield 47, 3) := by decide +kernel
theorem dX10_mileSum_4 : decode cX10_mileSum 4 = .ok (.invokevirtual 87, 3) := by decide +kernel
theorem dX10_mileSum_7 : decode cX10_mileSum 7 = .ok (.iconst 1, 1) := by decide +kernel
theorem dX10_mileSum_8 : decode cX10_mileSum 8 = .ok (.isub, 1) := by decide +kernel
theorem dX10_mileSum_9 : decode cX10_mileSum 9 = .ok (.istore_n 2, 1) := by decide +kernel
theorem dX10_mileSum_10 : decode cX10_mileSum 10 = .ok (.iconst 1, 1) := by decide +kernel
theorem dX10_mileSum_11 : decode cX10_mileSum 11 = .ok (.istore_n 3, 1) := by decide +kernel
theorem dX10_mileSum_12 : decode cX10_mileSum 12 = .ok (.iconst 0, 1) := by decide +kernel
theorem dX10_mileSum_13 : decode cX10_mileSum 13 = .ok (.istore 4, 2) := by decide +kernel
theorem dX10_mileSum_15 : decode cX10_mileSum 15 = .ok (.iconst 0, 1) := by decide +kernel
theorem dX10_mileSum_16 : decode cX10_mileSum 16 = .ok (.istore 5, 2) := by decide +kernel
theorem dX10_mileSum_18 : decode cX10_mileSum 18 = .ok (.iload 5, 2) := by decide +kernel
theorem dX10_mileSum_20 : decode cX10_mileSum 20 = .ok (.iload_n 2, 1) := by decide +kernel
theorem dX10_mileSum_21 : decode cX10_mileSum 21 = .ok (.if_icmp .gt 59, 3) := by decide +kernel
theorem dX10_mileSum_24 : decode cX10_mileSum 24 = .ok (.iload_n 3, 1) := by decide +kernel
theorem dX10_mileSum_25 : decode cX10_mileSum 25 = .ok (.aload_n 0, 1) := by decide +kernel
theorem dX10_mileSum_26 : decode cX10_mileSum 26 = .ok (.getfield 47, 3) := by decide +kernel
theorem dX10_mileSum_29 : decode cX10_mileSum 29 = .ok (.iload 5, 2) := by decide +kernel
theorem dX10_mileSum_31 : decode cX10_mileSum 31 = .ok (.invokevirtual 91, 3) := by decide +kernel
theorem dX10_mileSum_34 : decode cX10_mileSum 34 = .ok (.imul, 1) := by decide +kernel
theorem dX10_mileSum_35 : decode cX10_mileSum 35 = .ok (.istore 6, 2) := by decide +kernel
theorem dX10_mileSum_37 : decode cX10_mileSum 37 = .ok (.iload 4, 2) := by decide +kernel
theorem dX10_mileSum_39 : decode cX10_mileSum 39 = .ok (.iload_n 1, 1) := by decide +kernel
theorem dX10_mileSum_40 : decode cX10_mileSum 40 = .ok (.ifCond .eq 17, 3) := by decide +kernel
theorem dX10_mileSum_43 : decode cX10_mileSum 43 = .ok (.iload 5, 2) := by decide +kernel
theorem dX10_mileSum_45 : decode cX10_mileSum 45 = .ok (.iconst 2, 1) := by decide +kernel
theorem dX10_mileSum_46 : decode cX10_mileSum 46 = .ok (.irem, 1) := by decide +kernel
theorem dX10_mileSum_47 : decode cX10_mileSum 47 = .ok (.iconst 1, 1) := by decide +kernel
theorem dX10_mileSum_48 : decode cX10_mileSum 48 = .ok (.if_icmp .ne 9, 3) := by decide +kernel
theorem dX10_mileSum_51 : decode cX10_mileSum 51 = .ok (.iload 6, 2) := by decide +kernel
theorem dX10_mileSum_53 : decode cX10_mileSum 53 = .ok (.ineg, 1) := by decide +kernel
theorem dX10_mileSum_54 : decode cX10_mileSum 54 = .ok (.goto 5, 3) := by decide +kernel
theorem dX10_mileSum_57 : decode cX10_mileSum 57 = .ok (.iload 6, 2) := by decide +kernel
theorem dX10_mileSum_59 : decode cX10_mileSum 59 = .ok (.iadd, 1) := by decide +kernel
theorem dX10_mileSum_60 : decode cX10_mileSum 60 = .ok (.istore 4, 2) := by decide +kernel
theorem dX10_mileSum_62 : decode cX10_mileSum 62 = .ok (.iload_n 3, 1) := by decide +kernel
theorem dX10_mileSum_63 : decode cX10_mileSum 63 = .ok (.iload_n 2, 1) := by decide +kernel
theorem dX10_mileSum_64 : decode cX10_mileSum 64 = .ok (.iload 5, 2) := by decide +kernel
theorem dX10_mileSum_66 : decode cX10_mileSum 66 = .ok (.isub, 1) := by decide +kernel
theorem dX10_mileSum_67 : decode cX10_mileSum 67 = .ok (.imul, 1) := by decide +kernel
theorem dX10_mileSum_68 : decode cX10_mileSum 68 = .ok (.iload 5, 2) := by decide +kernel
theorem dX10_mileSum_70 : decode cX10_mileSum 70 = .ok (.iconst 1, 1) := by decide +kernel
theorem dX10_mileSum_71 : decode cX10_mileSum 71 = .ok (.iadd, 1) := by decide +kernel
theorem dX10_mileSum_72 : decode cX10_mileSum 72 = .ok (.idiv, 1) := by decide +kernel
theorem dX10_mileSum_73 : decode cX10_mileSum 73 = .ok (.istore_n 3, 1) := by decide +kernel
theorem dX10_mileSum_74 : decode cX10_mileSum 74 = .ok (.iinc 5 1, 3) := by decide +kernel
theorem dX10_mileSum_77 : decode cX10_mileSum 77 = .ok (.goto (-59), 3) := by decide +kernel
theorem dX10_mileSum_80 : decode cX10_mileSum 80 = .ok (.iload 4, 2) := by decide +kernel
theorem dX10_mileSum_82 : decode cX10_mileSum 82 = .ok (.ireturn, 1) := by decide +kernel
theorem dX10_addFouling_0 : decode cX10_addFouling 0 = .ok (.aload_n 0, 1) := by decide +kernel
theorem dX10_addFouling_1 : decode cX10_addFouling 1 = .ok (.getfield 50, 3) := by decide +kernel
theorem dX10_addFouling_4 : decode cX10_addFouling 4 = .ok (.invokevirtual 80, 3) := by decide +kernel
theorem dX10_addFouling_7 : decode cX10_addFouling 7 = .ok (.ifCond .eq 5, 3) := by decide +kernel
theorem dX10_addFouling_10 : decode cX10_addFouling 10 = .ok (.iconst (-1), 1) := by decide +kernel
theorem dX10_addFouling_11 : decode cX10_addFouling 11 = .ok (.ireturn, 1) := by decide +kernel
theorem dX10_addFouling_12 : decode cX10_addFouling 12 = .ok (.aload_n 0, 1) := by decide +kernel
theorem dX10_addFouling_13 : decode cX10_addFouling 13 = .ok (.getfield 50, 3) := by decide +kernel
theorem dX10_addFouling_16 : decode cX10_addFouling 16 = .ok (.invokevirtual 87, 3) := by decide +kernel
theorem dX10_addFouling_19 : decode cX10_addFouling 19 = .ok (.istore_n 3, 1) := by decide +kernel
theorem dX10_addFouling_20 : decode cX10_addFouling 20 = .ok (.iload_n 3, 1) := by decide +kernel
theorem dX10_addFouling_21 : decode cX10_addFouling 21 = .ok (.ifCond .le 20, 3) := by decide +kernel
theorem dX10_addFouling_24 : decode cX10_addFouling 24 = .ok (.iload_n 1, 1) := by decide +kernel
theorem dX10_addFouling_25 : decode cX10_addFouling 25 = .ok (.aload_n 0, 1) := by decide +kernel
theorem dX10_addFouling_26 : decode cX10_addFouling 26 = .ok (.getfield 50, 3) := by decide +kernel
theorem dX10_addFouling_29 : decode cX10_addFouling 29 = .ok (.iload_n 3, 1) := by decide +kernel
theorem dX10_addFouling_30 : decode cX10_addFouling 30 = .ok (.iconst 1, 1) := by decide +kernel
theorem dX10_addFouling_31 : decode cX10_addFouling 31 = .ok (.isub, 1) := by decide +kernel
theorem dX10_addFouling_32 : decode cX10_addFouling 32 = .ok (.invokevirtual 91, 3) := by decide +kernel
theorem dX10_addFouling_35 : decode cX10_addFouling 35 = .ok (.if_icmp .gt 6, 3) := by decide +kernel
theorem dX10_addFouling_38 : decode cX10_addFouling 38 = .ok (.bipush (-2), 2) := by decide +kernel
theorem dX10_addFouling_40 : decode cX10_addFouling 40 = .ok (.ireturn, 1) := by decide +kernel
theorem dX10_addFouling_41 : decode cX10_addFouling 41 = .ok (.aload_n 0, 1) := by decide +kernel
theorem dX10_addFouling_42 : decode cX10_addFouling 42 = .ok (.getfield 50, 3) := by decide +kernel
theorem dX10_addFouling_45 : decode cX10_addFouling 45 = .ok (.iload_n 1, 1) := by decide +kernel
theorem dX10_addFouling_46 : decode cX10_addFouling 46 = .ok (.invokevirtual 84, 3) := by decide +kernel
theorem dX10_addFouling_49 : decode cX10_addFouling 49 = .ok (.aload_n 0, 1) := by decide +kernel
theorem dX10_addFouling_50 : decode cX10_addFouling 50 = .ok (.getfield 53, 3) := by decide +kernel
theorem dX10_addFouling_53 : decode cX10_addFouling 53 = .ok (.iload_n 2, 1) := by decide +kernel
theorem dX10_addFouling_54 : decode cX10_addFouling 54 = .ok (.invokevirtual 84, 3) := by decide +kernel
theorem dX10_addFouling_57 : decode cX10_addFouling 57 = .ok (.aload_n 0, 1) := by decide +kernel
theorem dX10_addFouling_58 : decode cX10_addFouling 58 = .ok (.getfield 50, 3) := by decide +kernel
theorem dX10_addFouling_61 : decode cX10_addFouling 61 = .ok (.invokevirtual 87, 3) := by decide +kernel
theorem dX10_addFouling_64 : decode cX10_addFouling 64 = .ok (.ireturn, 1) := by decide +kernel
theorem dX10_fouledBy_0 : decode cX10_fouledBy 0 = .ok (.aload_n 0, 1) := by decide +kernel
theorem dX10_fouledBy_1 : decode cX10_fouledBy 1 = .ok (.getfield 50, 3) := by decide +kernel
theorem dX10_fouledBy_4 : decode cX10_fouledBy 4 = .ok (.invokevirtual 87, 3) := by decide +kernel
theorem dX10_fouledBy_7 : decode cX10_fouledBy 7 = .ok (.istore_n 2, 1) := by decide +kernel
theorem dX10_fouledBy_8 : decode cX10_fouledBy 8 = .ok (.iconst 0, 1) := by decide +kernel
theorem dX10_fouledBy_9 : decode cX10_fouledBy 9 = .ok (.istore_n 3, 1) := by decide +kernel
theorem dX10_fouledBy_10 : decode cX10_fouledBy 10 = .ok (.iconst 0, 1) := by decide +kernel
theorem dX10_fouledBy_11 : decode cX10_fouledBy 11 = .ok (.istore 4, 2) := by decide +kernel
theorem dX10_fouledBy_13 : decode cX10_fouledBy 13 = .ok (.iload 4, 2) := by decide +kernel
theorem dX10_fouledBy_15 : decode cX10_fouledBy 15 = .ok (.iload_n 2, 1) := by decide +kernel
theorem dX10_fouledBy_16 : decode cX10_fouledBy 16 = .ok (.if_icmp .ge 25, 3) := by decide +kernel
theorem dX10_fouledBy_19 : decode cX10_fouledBy 19 = .ok (.aload_n 0, 1) := by decide +kernel
theorem dX10_fouledBy_20 : decode cX10_fouledBy 20 = .ok (.getfield 50, 3) := by decide +kernel
theorem dX10_fouledBy_23 : decode cX10_fouledBy 23 = .ok (.iload 4, 2) := by decide +kernel
theorem dX10_fouledBy_25 : decode cX10_fouledBy 25 = .ok (.invokevirtual 91, 3) := by decide +kernel
theorem dX10_fouledBy_28 : decode cX10_fouledBy 28 = .ok (.iload_n 1, 1) := by decide +kernel
theorem dX10_fouledBy_29 : decode cX10_fouledBy 29 = .ok (.if_icmp .gt 12, 3) := by decide +kernel
theorem dX10_fouledBy_32 : decode cX10_fouledBy 32 = .ok (.iinc 3 1, 3) := by decide +kernel
theorem dX10_fouledBy_35 : decode cX10_fouledBy 35 = .ok (.iinc 4 1, 3) := by decide +kernel
theorem dX10_fouledBy_38 : decode cX10_fouledBy 38 = .ok (.goto (-25), 3) := by decide +kernel
theorem dX10_fouledBy_41 : decode cX10_fouledBy 41 = .ok (.iload_n 3, 1) := by decide +kernel
theorem dX10_fouledBy_42 : decode cX10_fouledBy 42 = .ok (.ifCond .ne 12, 3) := by decide +kernel
theorem dX10_fouledBy_45 : decode cX10_fouledBy 45 = .ok (.aload_n 0, 1) := by decide +kernel
theorem dX10_fouledBy_46 : decode cX10_fouledBy 46 = .ok (.getfield 53, 3) := by decide +kernel
theorem dX10_fouledBy_49 : decode cX10_fouledBy 49 = .ok (.iconst 0, 1) := by decide +kernel
theorem dX10_fouledBy_50 : decode cX10_fouledBy 50 = .ok (.invokevirtual 91, 3) := by decide +kernel
theorem dX10_fouledBy_53 : decode cX10_fouledBy 53 = .ok (.ireturn, 1) := by decide +kernel
theorem dX10_fouledBy_54 : decode cX10_fouledBy 54 = .ok (.aload_n 0, 1) := by decide +kernel
theorem dX10_fouledBy_55 : decode cX10_fouledBy 55 = .ok (.getfield 53, 3) := by decide +kernel
theorem dX10_fouledBy_58 : decode cX10_fouledBy 58 = .ok (.iload_n 3, 1) := by decide +kernel
theorem dX10_fouledBy_59 : decode cX10_fouledBy 59 = .ok (.iconst 1, 1) := by decide +kernel
theorem dX10_fouledBy_60 : decode cX10_fouledBy 60 = .ok (.isub, 1) := by decide +kernel
theorem dX10_fouledBy_61 : decode cX10_fouledBy 61 = .ok (.invokevirtual 91, 3) := by decide +kernel
theorem dX10_fouledBy_64 : decode cX10_fouledBy 64 = .ok (.istore 4, 2) := by decide +kernel
theorem dX10_fouledBy_66 : decode cX10_fouledBy 66 = .ok (.iload_n 3, 1) := by decide +kernel
theorem dX10_fouledBy_67 : decode cX10_fouledBy 67 = .ok (.iload_n 2, 1) := by decide +kernel
theorem dX10_fouledBy_68 : decode cX10_fouledBy 68 = .ok (.if_icmp .ne 6, 3) := by decide +kernel
theorem dX10_fouledBy_71 : decode cX10_fouledBy 71 = .ok (.iload 4, 2) := by decide +kernel
theorem dX10_fouledBy_73 : decode cX10_fouledBy 73 = .ok (.ireturn, 1) := by decide +kernel
theorem dX10_fouledBy_74 : decode cX10_fouledBy 74 = .ok (.aload_n 0, 1) := by decide +kernel
theorem dX10_fouledBy_75 : decode cX10_fouledBy 75 = .ok (.getfield 50, 3) := by decide +kernel
theorem dX10_fouledBy_78 : decode cX10_fouledBy 78 = .ok (.iload_n 3, 1) := by decide +kernel
theorem dX10_fouledBy_79 : decode cX10_fouledBy 79 = .ok (.iconst 1, 1) := by decide +kernel
theorem dX10_fouledBy_80 : decode cX10_fouledBy 80 = .ok (.isub, 1) := by decide +kernel
theorem dX10_fouledBy_81 : decode cX10_fouledBy 81 = .ok (.invokevirtual 91, 3) := by decide +kernel
theorem dX10_fouledBy_84 : decode cX10_fouledBy 84 = .ok (.istore 5, 2) := by decide +kernel
theorem dX10_fouledBy_86 : decode cX10_fouledBy 86 = .ok (.aload_n 0, 1) := by decide +kernel
theorem dX10_fouledBy_87 : decode cX10_fouledBy 87 = .ok (.getfield 53, 3) := by decide +kernel
theorem dX10_fouledBy_90 : decode cX10_fouledBy 90 = .ok (.iload_n 3, 1) := by decide +kernel
theorem dX10_fouledBy_91 : decode cX10_fouledBy 91 = .ok (.invokevirtual 91, 3) := by decide +kernel
theorem dX10_fouledBy_94 : decode cX10_fouledBy 94 = .ok (.iload 4, 2) := by decide +kernel
theorem dX10_fouledBy_96 : decode cX10_fouledBy 96 = .ok (.isub, 1) := by decide +kernel
theorem dX10_fouledBy_97 : decode cX10_fouledBy 97 = .ok (.i2l, 1) := by decide +kernel
theorem dX10_fouledBy_98 : decode cX10_fouledBy 98 = .ok (.iload_n 1, 1) := by decide +kernel
theorem dX10_fouledBy_99 : decode cX10_fouledBy 99 = .ok (.iload 5, 2) := by decide +kernel
theorem dX10_fouledBy_101 : decode cX10_fouledBy 101 = .ok (.isub, 1) := by decide +kernel
theorem dX10_fouledBy_102 : decode cX10_fouledBy 102 = .ok (.i2l, 1) := by decide +kernel
theorem dX10_fouledBy_103 : decode cX10_fouledBy 103 = .ok (.lmul, 1) := by decide +kernel
theorem dX10_fouledBy_104 : decode cX10_fouledBy 104 = .ok (.lstore 6, 2) := by decide +kernel
theorem dX10_fouledBy_106 : decode cX10_fouledBy 106 = .ok (.iload 4, 2) := by decide +kernel
theorem dX10_fouledBy_108 : decode cX10_fouledBy 108 = .ok (.lload 6, 2) := by decide +kernel
theorem dX10_fouledBy_110 : decode cX10_fouledBy 110 = .ok (.aload_n 0, 1) := by decide +kernel
theorem dX10_fouledBy_111 : decode cX10_fouledBy 111 = .ok (.getfield 50, 3) := by decide +kernel
theorem dX10_fouledBy_114 : decode cX10_fouledBy 114 = .ok (.iload_n 3, 1) := by decide +kernel
theorem dX10_fouledBy_115 : decode cX10_fouledBy 115 = .ok (.invokevirtual 91, 3) := by decide +kernel
theorem dX10_fouledBy_118 : decode cX10_fouledBy 118 = .ok (.iload 5, 2) := by decide +kernel
theorem dX10_fouledBy_120 : decode cX10_fouledBy 120 = .ok (.isub, 1) := by decide +kernel
theorem dX10_fouledBy_121 : decode cX10_fouledBy 121 = .ok (.i2l, 1) := by decide +kernel
theorem dX10_fouledBy_122 : decode cX10_fouledBy 122 = .ok (.invokestatic 130, 3) := by decide +kernel
theorem dX10_fouledBy_125 : decode cX10_fouledBy 125 = .ok (.l2i, 1) := by decide +kernel
theorem dX10_fouledBy_126 : decode cX10_fouledBy 126 = .ok (.iadd, 1) := by decide +kernel
theorem dX10_fouledBy_127 : decode cX10_fouledBy 127 = .ok (.ireturn, 1) := by decide +kernel
theorem dX11_init_0 : decode cX11_init 0 = .ok (.aload_n 0, 1) := by decide +kernel
theorem dX11_init_1 : decode cX11_init 1 = .ok (.invokespecial 3, 3) := by decide +kernel
theorem dX11_init_4 : decode cX11_init 4 = .ok (.new 9, 3) := by decide +kernel
theorem dX11_init_7 : decode cX11_init 7 = .ok (.dup, 1) := by decide +kernel
theorem dX11_init_8 : decode cX11_init 8 = .ok (.invokespecial 11, 3) := by decide +kernel
theorem dX11_init_11 : decode cX11_init 11 = .ok (.astore_n 1, 1) := by decide +kernel
theorem dX11_init_12 : decode cX11_init 12 = .ok (.aload_n 0, 1) := by decide +kernel
theorem dX11_init_13 : decode cX11_init 13 = .ok (.aload_n 1, 1) := by decide +kernel
theorem dX11_init_14 : decode cX11_init 14 = .ok (.putfield 12, 3) := by decide +kernel
theorem dX11_init_17 : decode cX11_init 17 = .ok (.aload_n 0, 1) := by decide +kernel
theorem dX11_init_18 : decode cX11_init 18 = .ok (.iconst 3, 1) := by decide +kernel
theorem dX11_init_19 : decode cX11_init 19 = .ok (.anewarray 9, 3) := by decide +kernel
theorem dX11_init_22 : decode cX11_init 22 = .ok (.putfield 16, 3) := by decide +kernel
theorem dX11_init_25 : decode cX11_init 25 = .ok (.iconst 0, 1) := by decide +kernel
theorem dX11_init_26 : decode cX11_init 26 = .ok (.istore_n 2, 1) := by decide +kernel
theorem dX11_init_27 : decode cX11_init 27 = .ok (.iload_n 2, 1) := by decide +kernel
theorem dX11_init_28 : decode cX11_init 28 = .ok (.aload_n 0, 1) := by decide +kernel
theorem dX11_init_29 : decode cX11_init 29 = .ok (.getfield 16, 3) := by decide +kernel
theorem dX11_init_32 : decode cX11_init 32 = .ok (.arraylength, 1) := by decide +kernel
theorem dX11_init_33 : decode cX11_init 33 = .ok (.if_icmp .ge 22, 3) := by decide +kernel
theorem dX11_init_36 : decode cX11_init 36 = .ok (.aload_n 0, 1) := by decide +kernel
theorem dX11_init_37 : decode cX11_init 37 = .ok (.getfield 16, 3) := by decide +kernel
theorem dX11_init_40 : decode cX11_init 40 = .ok (.iload_n 2, 1) := by decide +kernel
theorem dX11_init_41 : decode cX11_init 41 = .ok (.new 9, 3) := by decide +kernel
theorem dX11_init_44 : decode cX11_init 44 = .ok (.dup, 1) := by decide +kernel
theorem dX11_init_45 : decode cX11_init 45 = .ok (.invokespecial 11, 3) := by decide +kernel
theorem dX11_init_48 : decode cX11_init 48 = .ok (.aastore, 1) := by decide +kernel
theorem dX11_init_49 : decode cX11_init 49 = .ok (.iinc 2 1, 3) := by decide +kernel
theorem dX11_init_52 : decode cX11_init 52 = .ok (.goto (-25), 3) := by decide +kernel
theorem dX11_init_55 : decode cX11_init 55 = .ok (.aload_n 0, 1) := by decide +kernel
theorem dX11_init_56 : decode cX11_init 56 = .ok (.new 20, 3) := by decide +kernel
theorem dX11_init_59 : decode cX11_init 59 = .ok (.dup, 1) := by decide +kernel
theorem dX11_init_60 : decode cX11_init 60 = .ok (.sipush 400, 3) := by decide +kernel
theorem dX11_init_63 : decode cX11_init 63 = .ok (.invokespecial 22, 3) := by decide +kernel
theorem dX11_init_66 : decode cX11_init 66 = .ok (.putfield 25, 3) := by decide +kernel
theorem dX11_init_69 : decode cX11_init 69 = .ok (.aload_n 0, 1) := by decide +kernel
theorem dX11_init_70 : decode cX11_init 70 = .ok (.new 29, 3) := by decide +kernel
theorem dX11_init_73 : decode cX11_init 73 = .ok (.dup, 1) := by decide +kernel
theorem dX11_init_74 : decode cX11_init 74 = .ok (.invokespecial 31, 3) := by decide +kernel
theorem dX11_init_77 : decode cX11_init 77 = .ok (.putfield 32, 3) := by decide +kernel
theorem dX11_init_80 : decode cX11_init 80 = .ok (.aload_n 0, 1) := by decide +kernel
theorem dX11_init_81 : decode cX11_init 81 = .ok (.new 36, 3) := by decide +kernel
theorem dX11_init_84 : decode cX11_init 84 = .ok (.dup, 1) := by decide +kernel
theorem dX11_init_85 : decode cX11_init 85 = .ok (.iconst 4, 1) := by decide +kernel
theorem dX11_init_86 : decode cX11_init 86 = .ok (.invokespecial 38, 3) := by decide +kernel
theorem dX11_init_89 : decode cX11_init 89 = .ok (.putfield 39, 3) := by decide +kernel
theorem dX11_init_92 : decode cX11_init 92 = .ok (.aload_n 0, 1) := by decide +kernel
theorem dX11_init_93 : decode cX11_init 93 = .ok (.new 36, 3) := by decide +kernel
theorem dX11_init_96 : decode cX11_init 96 = .ok (.dup, 1) := by decide +kernel
theorem dX11_init_97 : decode cX11_init 97 = .ok (.iconst 3, 1) := by decide +kernel
theorem dX11_init_98 : decode cX11_init 98 = .ok (.invokespecial 38, 3) := by decide +kernel
theorem dX11_init_101 : decode cX11_init 101 = .ok (.putfield 43, 3) := by decide +kernel
theorem dX11_init_104 : decode cX11_init 104 = .ok (.aload_n 0, 1) := by decide +kernel
theorem dX11_init_105 : decode cX11_init 105 = .ok (.new 46, 3) := by decide +kernel
theorem dX11_init_108 : decode cX11_init 108 = .ok (.dup, 1) := by decide +kernel
theorem dX11_init_109 : decode cX11_init 109 = .ok (.aload_n 1, 1) := by decide +kernel
theorem dX11_init_110 : decode cX11_init 110 = .ok (.invokespecial 48, 3) := by decide +kernel
theorem dX11_init_113 : decode cX11_init 113 = .ok (.putfield 51, 3) := by decide +kernel
theorem dX11_init_116 : decode cX11_init 116 = .ok (.aload_n 0, 1) := by decide +kernel
theorem dX11_init_117 : decode cX11_init 117 = .ok (.iconst (-1), 1) := by decide +kernel
theorem dX11_init_118 : decode cX11_init 118 = .ok (.putfield 55, 3) := by decide +kernel
theorem dX11_init_121 : decode cX11_init 121 = .ok (.return_, 1) := by decide +kernel
theorem dX11_hull_0 : decode cX11_hull 0 = .ok (.iload_n 1, 1) := by decide +kernel
theorem dX11_hull_1 : decode cX11_hull 1 = .ok (.bipush 10, 2) := by decide +kernel
theorem dX11_hull_3 : decode cX11_hull 3 = .ok (.sipush 400, 3) := by decide +kernel
theorem dX11_hull_6 : decode cX11_hull 6 = .ok (.invokestatic 59, 3) := by decide +kernel
theorem dX11_hull_9 : decode cX11_hull 9 = .ok (.invokestatic 63, 3) := by decide +kernel
theorem dX11_hull_12 : decode cX11_hull 12 = .ok (.iload_n 2, 1) := by decide +kernel
theorem dX11_hull_13 : decode cX11_hull 13 = .ok (.iconst 2, 1) := by decide +kernel
theorem dX11_hull_14 : decode cX11_hull 14 = .ok (.bipush 12, 2) := by decide +kernel
theorem dX11_hull_16 : decode cX11_hull 16 = .ok (.invokestatic 59, 3) := by decide +kernel
theorem dX11_hull_19 : decode cX11_hull 19 = .ok (.invokestatic 63, 3) := by decide +kernel
theorem dX11_hull_22 : decode cX11_hull 22 = .ok (.aload_n 0, 1) := by decide +kernel
theorem dX11_hull_23 : decode cX11_hull 23 = .ok (.getfield 12, 3) := by decide +kernel
theorem dX11_hull_26 : decode cX11_hull 26 = .ok (.iload_n 1, 1) := by decide +kernel
theorem dX11_hull_27 : decode cX11_hull 27 = .ok (.iload_n 2, 1) := by decide +kernel
theorem dX11_hull_28 : decode cX11_hull 28 = .ok (.invokevirtual 67, 3) := by decide +kernel
theorem dX11_hull_31 : decode cX11_hull 31 = .ok (.ireturn, 1) := by decide +kernel
theorem dX11_station_0 : decode cX11_station 0 = .ok (.aload_n 0, 1) := by decide +kernel
theorem dX11_station_1 : decode cX11_station 1 = .ok (.iload_n 1, 1) := by decide +kernel
theorem dX11_station_2 : decode cX11_station 2 = .ok (.invokevirtual 71, 3) := by decide +kernel
theorem dX11_station_5 : decode cX11_station 5 = .ok (.astore 5, 2) := by decide +kernel
theorem dX11_station_7 : decode cX11_station 7 = .ok (.aload 5, 2) := by decide +kernel
theorem dX11_station_9 : decode cX11_station 9 = .ok (.iload_n 2, 1) := by decide +kernel
theorem dX11_station_10 : decode cX11_station 10 = .ok (.invokevirtual 75, 3) := by decide +kernel
theorem dX11_station_13 : decode cX11_station 13 = .ok (.invokestatic 63, 3) := by decide +kernel
theorem dX11_station_16 : decode cX11_station 16 = .ok (.iload_n 3, 1) := by decide +kernel
theorem dX11_station_17 : decode cX11_station 17 = .ok (.iconst 0, 1) := by decide +kernel
theorem dX11_station_18 : decode cX11_station 18 = .ok (.bipush 60, 2) := by decide +kernel
theorem dX11_station_20 : decode cX11_station 20 = .ok (.invokestatic 59, 3) := by decide +kernel
theorem dX11_station_23 : decode cX11_station 23 = .ok (.ifCond .eq 18, 3) := by decide +kernel
theorem dX11_station_26 : decode cX11_station 26 = .ok (.iload 4, 2) := by decide +kernel
theorem dX11_station_28 : decode cX11_station 28 = .ok (.iconst 0, 1) := by decide +kernel
theorem dX11_station_29 : decode cX11_station 29 = .ok (.bipush 60, 2) := by decide +kernel
theorem dX11_station_31 : decode cX11_station 31 = .ok (.invokestatic 59, 3) := by decide +kernel
theorem dX11_station_34 : decode cX11_station 34 = .ok (.ifCond .eq 7, 3) := by decide +kernel
theorem dX11_station_37 : decode cX11_station 37 = .ok (.iconst 1, 1) := by decide +kernel
theorem dX11_station_38 : decode cX11_station 38 = .ok (.goto 4, 3) := by decide +kernel
theorem dX11_station_41 : decode cX11_station 41 = .ok (.iconst 0, 1) := by decide +kernel
theorem dX11_station_42 : decode cX11_station 42 = .ok (.invokestatic 63, 3) := by decide +kernel
theorem dX11_station_45 : decode cX11_station 45 = .ok (.bipush 100, 2) := by decide +kernel
theorem dX11_station_47 : decode cX11_station 47 = .ok (.aload 5, 2) := by decide +kernel
theorem dX11_station_49 : decode cX11_station 49 = .ok (.iload_n 2, 1) := by decide +kernel
theorem dX11_station_50 : decode cX11_station 50 = .ok (.invokevirtual 81, 3) := by decide +kernel
theorem dX11_station_53 : decode cX11_station 53 = .ok (.imul, 1) := by decide +kernel
theorem dX11_station_54 : decode cX11_station 54 = .ok (.aload 5, 2) := by decide +kernel
theorem dX11_station_56 : decode cX11_station 56 = .ok (.iload_n 2, 1) := by decide +kernel
theorem dX11_station_57 : decode cX11_station 57 = .ok (.invokevirtual 85, 3) := by decide +kernel
theorem dX11_station_60 : decode cX11_station 60 = .ok (.iadd, 1) := by decide +kernel
theorem dX11_station_61 : decode cX11_station 61 = .ok (.istore 6, 2) := by decide +kernel
theorem dX11_station_63 : decode cX11_station 63 = .ok (.aload 5, 2) := by decide +kernel
theorem dX11_station_65 : decode cX11_station 65 = .ok (.iload_n 2, 1) := by decide +kernel
theorem dX11_station_66 : decode cX11_station 66 = .ok (.iload_n 3, 1) := by decide +kernel
theorem dX11_station_67 : decode cX11_station 67 = .ok (.iload 4, 2) := by decide +kernel
theorem dX11_station_69 : decode cX11_station 69 = .ok (.invokevirtual 88, 3) := by decide +kernel
theorem dX11_station_72 : decode cX11_station 72 = .ok (.iload 6, 2) := by decide +kernel
theorem dX11_station_74 : decode cX11_station 74 = .ok (.ireturn, 1) := by decide +kernel
theorem dX11_model_0 : decode cX11_model 0 = .ok (.aload_n 0, 1) := by decide +kernel
theorem dX11_model_1 : decode cX11_model 1 = .ok (.iload_n 1, 1) := by decide +kernel
theorem dX11_model_2 : decode cX11_model 2 = .ok (.invokevirtual 71, 3) := by decide +kernel
theorem dX11_model_5 : decode cX11_model 5 = .ok (.astore 4, 2) := by decide +kernel
theorem dX11_model_7 : decode cX11_model 7 = .ok (.iload_n 2, 1) := by decide +kernel
theorem dX11_model_8 : decode cX11_model 8 = .ok (.iconst 1, 1) := by decide +kernel
theorem dX11_model_9 : decode cX11_model 9 = .ok (.bipush 40, 2) := by decide +kernel
theorem dX11_model_11 : decode cX11_model 11 = .ok (.invokestatic 59, 3) := by decide +kernel
theorem dX11_model_14 : decode cX11_model 14 = .ok (.ifCond .eq 16, 3) := by decide +kernel
theorem dX11_model_17 : decode cX11_model 17 = .ok (.iload_n 3, 1) := by decide +kernel
theorem dX11_model_18 : decode cX11_model 18 = .ok (.iconst 0, 1) := by decide +kernel
theorem dX11_model_19 : decode cX11_model 19 = .ok (.iconst 5, 1) := by decide +kernel
theorem dX11_model_20 : decode cX11_model 20 = .ok (.invokestatic 59, 3) := by decide +kernel
theorem dX11_model_23 : decode cX11_model 23 = .ok (.ifCond .eq 7, 3) := by decide +kernel
theorem dX11_model_26 : decode cX11_model 26 = .ok (.iconst 1, 1) := by decide +kernel
theorem dX11_model_27 : decode cX11_model 27 = .ok (.goto 4, 3) := by decide +kernel
theorem dX11_model_30 : decode cX11_model 30 = .ok (.iconst 0, 1) := by decide +kernel
theorem dX11_model_31 : decode cX11_model 31 = .ok (.invokestatic 63, 3) := by decide +kernel
theorem dX11_model_34 : decode cX11_model 34 = .ok (.aload_n 0, 1) := by decide +kernel
theorem dX11_model_35 : decode cX11_model 35 = .ok (.getfield 51, 3) := by decide +kernel
theorem dX11_model_38 : decode cX11_model 38 = .ok (.aload 4, 2) := by decide +kernel
theorem dX11_model_40 : decode cX11_model 40 = .ok (.iload_n 2, 1) := by decide +kernel
theorem dX11_model_41 : decode cX11_model 41 = .ok (.iload_n 3, 1) := by decide +kernel
theorem dX11_model_42 : decode cX11_model 42 = .ok (.invokevirtual 92, 3) := by decide +kernel
theorem dX11_model_45 : decode cX11_model 45 = .ok (.ireturn, 1) := by decide +kernel
theorem dX11_tank_0 : decode cX11_tank 0 = .ok (.iload_n 1, 1) := by decide +kernel
theorem dX11_tank_1 : decode cX11_tank 1 = .ok (.iconst 1, 1) := by decide +kernel
theorem dX11_tank_2 : decode cX11_tank 2 = .ok (.sipush 200, 3) := by decide +kernel
theorem dX11_tank_5 : decode cX11_tank 5 = .ok (.invokestatic 59, 3) := by decide +kernel
theorem dX11_tank_8 : decode cX11_tank 8 = .ok (.ifCond .eq 18, 3) := by decide +kernel
theorem dX11_tank_11 : decode cX11_tank 11 = .ok (.iload_n 2, 1) := by decide +kernel
theorem dX11_tank_12 : decode cX11_tank 12 = .ok (.iconst 1, 1) := by decide +kernel
theorem dX11_tank_13 : decode cX11_tank 13 = .ok (.sipush 200, 3) := by decide +kernel
theorem dX11_tank_16 : decode cX11_tank 16 = .ok (.invokestatic 59, 3) := by decide +kernel
theorem dX11_tank_19 : decode cX11_tank 19 = .ok (.ifCond .eq 7, 3) := by decide +kernel
theorem dX11_tank_22 : decode cX11_tank 22 = .ok (.iconst 1, 1) := by decide +kernel
theorem dX11_tank_23 : decode cX11_tank 23 = .ok (.goto 4, 3) := by decide +kernel
theorem dX11_tank_26 : decode cX11_tank 26 = .ok (.iconst 0, 1) := by decide +kernel
theorem dX11_tank_27 : decode cX11_tank 27 = .ok (.invokestatic 63, 3) := by decide +kernel
theorem dX11_tank_30 : decode cX11_tank 30 = .ok (.aload_n 0, 1) := by decide +kernel
theorem dX11_tank_31 : decode cX11_tank 31 = .ok (.getfield 12, 3) := by decide +kernel
theorem dX11_tank_34 : decode cX11_tank 34 = .ok (.iload_n 1, 1) := by decide +kernel
theorem dX11_tank_35 : decode cX11_tank 35 = .ok (.iload_n 2, 1) := by decide +kernel
theorem dX11_tank_36 : decode cX11_tank 36 = .ok (.invokevirtual 96, 3) := by decide +kernel
theorem dX11_tank_39 : decode cX11_tank 39 = .ok (.ireturn, 1) := by decide +kernel
theorem dX11_feed_0 : decode cX11_feed 0 = .ok (.aload_n 0, 1) := by decide +kernel
theorem dX11_feed_1 : decode cX11_feed 1 = .ok (.getfield 25, 3) := by decide +kernel
theorem dX11_feed_4 : decode cX11_feed 4 = .ok (.invokevirtual 99, 3) := by decide +kernel
theorem dX11_feed_7 : decode cX11_feed 7 = .ok (.bipush 20, 2) := by decide +kernel
theorem dX11_feed_9 : decode cX11_feed 9 = .ok (.iadd, 1) := by decide +kernel
theorem dX11_feed_10 : decode cX11_feed 10 = .ok (.sipush 400, 3) := by decide +kernel
theorem dX11_feed_13 : decode cX11_feed 13 = .ok (.if_icmp .le 5, 3) := by decide +kernel
theorem dX11_feed_16 : decode cX11_feed 16 = .ok (.iconst (-1), 1) := by decide +kernel
theorem dX11_feed_17 : decode cX11_feed 17 = .ok (.ireturn, 1) := by decide +kernel
theorem dX11_feed_18 : decode cX11_feed 18 = .ok (.aload_n 0, 1) := by decide +kernel
theorem dX11_feed_19 : decode cX11_feed 19 = .ok (.iload_n 1, 1) := by decide +kernel
theorem dX11_feed_20 : decode cX11_feed 20 = .ok (.invokevirtual 103, 3) := by decide +kernel
theorem dX11_feed_23 : decode cX11_feed 23 = .ok (.aload_n 0, 1) := by decide +kernel
theorem dX11_feed_24 : decode cX11_feed 24 = .ok (.iload_n 2, 1) := by decide +kernel
theorem dX11_feed_25 : decode cX11_feed 25 = .ok (.invokevirtual 103, 3) := by decide +kernel
theorem dX11_feed_28 : decode cX11_feed 28 = .ok (.aload_n 0, 1) := by decide +kernel
theorem dX11_feed_29 : decode cX11_feed 29 = .ok (.iload_n 3, 1) := by decide +kernel
theorem dX11_feed_30 : decode cX11_feed 30 = .ok (.invokevirtual 103, 3) := by decide +kernel
theorem dX11_feed_33 : decode cX11_feed 33 = .ok (.aload_n 0, 1) := by decide +kernel
theorem dX11_feed_34 : decode cX11_feed 34 = .ok (.iload 4, 2) := by decide +kernel
theorem dX11_feed_36 : decode cX11_feed 36 = .ok (.invokevirtual 103, 3) := by decide +kernel
theorem dX11_feed_39 : decode cX11_feed 39 = .ok (.aload_n 0, 1) := by decide +kernel
theorem dX11_feed_40 : decode cX11_feed 40 = .ok (.iload 5, 2) := by decide +kernel
theorem dX11_feed_42 : decode cX11_feed 42 = .ok (.invokevirtual 103, 3) := by decide +kernel
theorem dX11_feed_45 : decode cX11_feed 45 = .ok (.aload_n 0, 1) := by decide +kernel
theorem dX11_feed_46 : decode cX11_feed 46 = .ok (.getfield 25, 3) := by decide +kernel
theorem dX11_feed_49 : decode cX11_feed 49 = .ok (.invokevirtual 99, 3) := by decide +kernel
theorem dX11_feed_52 : decode cX11_feed 52 = .ok (.ireturn, 1) := by decide +kernel
theorem dX11_law_0 : decode cX11_law 0 = .ok (.iload_n 1, 1) := by decide +kernel
theorem dX11_law_1 : decode cX11_law 1 = .ok (.iconst 0, 1) := by decide +kernel
theorem dX11_law_2 : decode cX11_law 2 = .ok (.aload_n 0, 1) := by decide +kernel
theorem dX11_law_3 : decode cX11_law 3 = .ok (.getfield 25, 3) := by decide +kernel
theorem dX11_law_6 : decode cX11_law 6 = .ok (.invokevirtual 99, 3) := by decide +kernel
theorem dX11_law_9 : decode cX11_law 9 = .ok (.invokestatic 59, 3) := by decide +kernel
theorem dX11_law_12 : decode cX11_law 12 = .ok (.invokestatic 63, 3) := by decide +kernel
theorem dX11_law_15 : decode cX11_law 15 = .ok (.iload_n 2, 1) := by decide +kernel
theorem dX11_law_16 : decode cX11_law 16 = .ok (.ifCond .eq 10, 3) := by decide +kernel
theorem dX11_law_19 : decode cX11_law 19 = .ok (.aload_n 0, 1) := by decide +kernel
theorem dX11_law_20 : decode cX11_law 20 = .ok (.getfield 43, 3) := by decide +kernel
theorem dX11_law_23 : decode cX11_law 23 = .ok (.goto 7, 3) := by decide +kernel
theorem dX11_law_26 : decode cX11_law 26 = .ok (.aload_n 0, 1) := by decide +kernel
theorem dX11_law_27 : decode cX11_law 27 = .ok (.getfield 39, 3) := by decide +kernel
theorem dX11_law_30 : decode cX11_law 30 = .ok (.astore_n 3, 1) := by decide +kernel
theorem dX11_law_31 : decode cX11_law 31 = .ok (.aload_n 3, 1) := by decide +kernel
theorem dX11_law_32 : decode cX11_law 32 = .ok (.invokevirtual 106, 3) := by decide +kernel
theorem dX11_law_35 : decode cX11_law 35 = .ok (.ifCond .eq 17, 3) := by decide +kernel
theorem dX11_law_38 : decode cX11_law 38 = .ok (.aload_n 0, 1) := by decide +kernel
theorem dX11_law_39 : decode cX11_law 39 = .ok (.getfield 25, 3) := by decide +kernel
theorem dX11_law_42 : decode cX11_law 42 = .ok (.invokevirtual 110, 3) := by decide +kernel
theorem dX11_law_45 : decode cX11_law 45 = .ok (.aload_n 0, 1) := by decide +kernel
theorem dX11_law_46 : decode cX11_law 46 = .ok (.iconst (-1), 1) := by decide +kernel
theorem dX11_law_47 : decode cX11_law 47 = .ok (.putfield 55, 3) := by decide +kernel
theorem dX11_law_50 : decode cX11_law 50 = .ok (.iconst (-1), 1) := by decide +kernel
theorem dX11_law_51 : decode cX11_law 51 = .ok (.ireturn, 1) := by decide +kernel
theorem dX11_law_52 : decode cX11_law 52 = .ok (.aload_n 0, 1) := by decide +kernel
theorem dX11_law_53 : decode cX11_law 53 = .ok (.getfield 32, 3) := by decide +kernel
theorem dX11_law_56 : decode cX11_law 56 = .ok (.aload_n 0, 1) := by decide +kernel
theorem dX11_law_57 : decode cX11_law 57 = .ok (.getfield 25, 3) := by decide +kernel
theorem dX11_law_60 : decode cX11_law 60 = .ok (.iload_n 1, 1) := by decide +kernel
theorem dX11_law_61 : decode cX11_law 61 = .ok (.iload_n 2, 1) := by decide +kernel
theorem dX11_law_62 : decode cX11_law 62 = .ok (.invokevirtual 113, 3) := by decide +kernel
theorem dX11_law_65 : decode cX11_law 65 = .ok (.istore 4, 2) := by decide +kernel
theorem dX11_law_67 : decode cX11_law 67 = .ok (.aload_n 0, 1) := by decide +kernel
theorem dX11_law_68 : decode cX11_law 68 = .ok (.getfield 25, 3) := by decide +kernel
theorem dX11_law_71 : decode cX11_law 71 = .ok (.invokevirtual 110, 3) := by decide +kernel
theorem dX11_law_74 : decode cX11_law 74 = .ok (.aload_n 0, 1) := by decide +kernel
theorem dX11_law_75 : decode cX11_law 75 = .ok (.aload_n 0, 1) := by decide +kernel
theorem dX11_law_76 : decode cX11_law 76 = .ok (.getfield 32, 3) := by decide +kernel
theorem dX11_law_79 : decode cX11_law 79 = .ok (.invokevirtual 117, 3) := by decide +kernel
theorem dX11_law_82 : decode cX11_law 82 = .ok (.putfield 55, 3) := by decide +kernel
theorem dX11_law_85 : decode cX11_law 85 = .ok (.iload 4, 2) := by decide +kernel
theorem dX11_law_87 : decode cX11_law 87 = .ok (.ifCond .eq 11, 3) := by decide +kernel
theorem dX11_law_90 : decode cX11_law 90 = .ok (.iload 4, 2) := by decide +kernel
theorem dX11_law_92 : decode cX11_law 92 = .ok (.bipush 10, 2) := by decide +kernel
theorem dX11_law_94 : decode cX11_law 94 = .ok (.isub, 1) := by decide +kernel
theorem dX11_law_95 : decode cX11_law 95 = .ok (.goto 14, 3) := by decide +kernel
theorem dX11_law_98 : decode cX11_law 98 = .ok (.aload_n 3, 1) := by decide +kernel
theorem dX11_law_99 : decode cX11_law 99 = .ok (.aload_n 0, 1) := by decide +kernel
theorem dX11_law_100 : decode cX11_law 100 = .ok (.getfield 32, 3) := by decide +kernel
theorem dX11_law_103 : decode cX11_law 103 = .ok (.invokevirtual 120, 3) := by decide +kernel
theorem dX11_law_106 : decode cX11_law 106 = .ok (.invokevirtual 124, 3) := by decide +kernel
theorem dX11_law_109 : decode cX11_law 109 = .ok (.ireturn, 1) := by decide +kernel
theorem dX11_fault_0 : decode cX11_fault 0 = .ok (.aload_n 0, 1) := by decide +kernel
theorem dX11_fault_1 : decode cX11_fault 1 = .ok (.getfield 55, 3) := by decide +kernel
theorem dX11_fault_4 : decode cX11_fault 4 = .ok (.ireturn, 1) := by decide +kernel
theorem dX11_set_0 : decode cX11_set 0 = .ok (.aload_n 0, 1) := by decide +kernel
theorem dX11_set_1 : decode cX11_set 1 = .ok (.iload_n 1, 1) := by decide +kernel
theorem dX11_set_2 : decode cX11_set 2 = .ok (.invokevirtual 71, 3) := by decide +kernel
theorem dX11_set_5 : decode cX11_set 5 = .ok (.pop, 1) := by decide +kernel
theorem dX11_set_6 : decode cX11_set 6 = .ok (.aload_n 0, 1) := by decide +kernel
theorem dX11_set_7 : decode cX11_set 7 = .ok (.iload 4, 2) := by decide +kernel
theorem dX11_set_9 : decode cX11_set 9 = .ok (.invokevirtual 128, 3) := by decide +kernel
theorem dX11_set_12 : decode cX11_set 12 = .ok (.iload_n 2, 1) := by decide +kernel
theorem dX11_set_13 : decode cX11_set 13 = .ok (.iconst 1, 1) := by decide +kernel
theorem dX11_set_14 : decode cX11_set 14 = .ok (.bipush 40, 2) := by decide +kernel
theorem dX11_set_16 : decode cX11_set 16 = .ok (.invokestatic 59, 3) := by decide +kernel
theorem dX11_set_19 : decode cX11_set 19 = .ok (.ifCond .eq 17, 3) := by decide +kernel
theorem dX11_set_22 : decode cX11_set 22 = .ok (.iload_n 3, 1) := by decide +kernel
theorem dX11_set_23 : decode cX11_set 23 = .ok (.iconst 1, 1) := by decide +kernel
theorem dX11_set_24 : decode cX11_set 24 = .ok (.bipush 99, 2) := by decide +kernel
theorem dX11_set_26 : decode cX11_set 26 = .ok (.invokestatic 59, 3) := by decide +kernel
theorem dX11_set_29 : decode cX11_set 29 = .ok (.ifCond .eq 7, 3) := by decide +kernel
theorem dX11_set_32 : decode cX11_set 32 = .ok (.iconst 1, 1) := by decide +kernel
theorem dX11_set_33 : decode cX11_set 33 = .ok (.goto 4, 3) := by decide +kernel
theorem dX11_set_36 : decode cX11_set 36 = .ok (.iconst 0, 1) := by decide +kernel
theorem dX11_set_37 : decode cX11_set 37 = .ok (.invokestatic 63, 3) := by decide +kernel
theorem dX11_set_40 : decode cX11_set 40 = .ok (.aload_n 0, 1) := by decide +kernel
theorem dX11_set_41 : decode cX11_set 41 = .ok (.getfield 12, 3) := by decide +kernel
theorem dX11_set_44 : decode cX11_set 44 = .ok (.getfield 131, 3) := by decide +kernel
theorem dX11_set_47 : decode cX11_set 47 = .ok (.getfield 135, 3) := by decide +kernel
theorem dX11_set_50 : decode cX11_set 50 = .ok (.istore 5, 2) := by decide +kernel
theorem dX11_set_52 : decode cX11_set 52 = .ok (.aload_n 0, 1) := by decide +kernel
theorem dX11_set_53 : decode cX11_set 53 = .ok (.getfield 12, 3) := by decide +kernel
theorem dX11_set_56 : decode cX11_set 56 = .ok (.getfield 131, 3) := by decide +kernel
theorem dX11_set_59 : decode cX11_set 59 = .ok (.iload_n 1, 1) := by decide +kernel
theorem dX11_set_60 : decode cX11_set 60 = .ok (.iload_n 2, 1) := by decide +kernel
theorem dX11_set_61 : decode cX11_set 61 = .ok (.iload_n 3, 1) := by decide +kernel
theorem dX11_set_62 : decode cX11_set 62 = .ok (.iload 4, 2) := by decide +kernel
theorem dX11_set_64 : decode cX11_set 64 = .ok (.invokevirtual 140, 3) := by decide +kernel
theorem dX11_set_67 : decode cX11_set 67 = .ok (.iload 5, 2) := by decide +kernel
theorem dX11_set_69 : decode cX11_set 69 = .ok (.ireturn, 1) := by decide +kernel
theorem dX11_trim_0 : decode cX11_trim 0 = .ok (.iload_n 2, 1) := by decide +kernel
theorem dX11_trim_1 : decode cX11_trim 1 = .ok (.iconst 0, 1) := by decide +kernel
theorem dX11_trim_2 : decode cX11_trim 2 = .ok (.bipush 99, 2) := by decide +kernel
theorem dX11_trim_4 : decode cX11_trim 4 = .ok (.invokestatic 59, 3) := by decide +kernel
theorem dX11_trim_7 : decode cX11_trim 7 = .ok (.invokestatic 63, 3) := by decide +kernel
theorem dX11_trim_10 : decode cX11_trim 10 = .ok (.aload_n 0, 1) := by decide +kernel
theorem dX11_trim_11 : decode cX11_trim 11 = .ok (.getfield 12, 3) := by decide +kernel
theorem dX11_trim_14 : decode cX11_trim 14 = .ok (.getfield 131, 3) := by decide +kernel
theorem dX11_trim_17 : decode cX11_trim 17 = .ok (.getfield 144, 3) := by decide +kernel
theorem dX11_trim_20 : decode cX11_trim 20 = .ok (.istore_n 3, 1) := by decide +kernel
theorem dX11_trim_21 : decode cX11_trim 21 = .ok (.aload_n 0, 1) := by decide +kernel
theorem dX11_trim_22 : decode cX11_trim 22 = .ok (.getfield 12, 3) := by decide +kernel
theorem dX11_trim_25 : decode cX11_trim 25 = .ok (.getfield 131, 3) := by decide +kernel
theorem dX11_trim_28 : decode cX11_trim 28 = .ok (.iload_n 1, 1) := by decide +kernel
theorem dX11_trim_29 : decode cX11_trim 29 = .ok (.iload_n 2, 1) := by decide +kernel
theorem dX11_trim_30 : decode cX11_trim 30 = .ok (.invokevirtual 147, 3) := by decide +kernel
theorem dX11_trim_33 : decode cX11_trim 33 = .ok (.iload_n 3, 1) := by decide +kernel
theorem dX11_trim_34 : decode cX11_trim 34 = .ok (.ireturn, 1) := by decide +kernel
theorem dX11_name_0 : decode cX11_name 0 = .ok (.aload_n 0, 1) := by decide +kernel
theorem dX11_name_1 : decode cX11_name 1 = .ok (.invokevirtual 151, 3) := by decide +kernel
theorem dX11_name_4 : decode cX11_name 4 = .ok (.iload_n 1, 1) := by decide +kernel
theorem dX11_name_5 : decode cX11_name 5 = .ok (.iconst 0, 1) := by decide +kernel
theorem dX11_name_6 : decode cX11_name 6 = .ok (.bipush 9, 2) := by decide +kernel
theorem dX11_name_8 : decode cX11_name 8 = .ok (.invokestatic 59, 3) := by decide +kernel
theorem dX11_name_11 : decode cX11_name 11 = .ok (.invokestatic 63, 3) := by decide +kernel
theorem dX11_name_14 : decode cX11_name 14 = .ok (.aload_n 0, 1) := by decide +kernel
theorem dX11_name_15 : decode cX11_name 15 = .ok (.getfield 51, 3) := by decide +kernel
theorem dX11_name_18 : decode cX11_name 18 = .ok (.iload_n 1, 1) := by decide +kernel
theorem dX11_name_19 : decode cX11_name 19 = .ok (.invokevirtual 154, 3) := by decide +kernel
theorem dX11_name_22 : decode cX11_name 22 = .ok (.ireturn, 1) := by decide +kernel
theorem dX11_pull_0 : decode cX11_pull 0 = .ok (.aload_n 0, 1) := by decide +kernel
theorem dX11_pull_1 : decode cX11_pull 1 = .ok (.invokevirtual 151, 3) := by decide +kernel
theorem dX11_pull_4 : decode cX11_pull 4 = .ok (.aload_n 0, 1) := by decide +kernel
theorem dX11_pull_5 : decode cX11_pull 5 = .ok (.getfield 39, 3) := by decide +kernel
theorem dX11_pull_8 : decode cX11_pull 8 = .ok (.iload_n 1, 1) := by decide +kernel
theorem dX11_pull_9 : decode cX11_pull 9 = .ok (.invokestatic 157, 3) := by decide +kernel
theorem dX11_pull_12 : decode cX11_pull 12 = .ok (.astore_n 3, 1) := by decide +kernel
theorem dX11_pull_13 : decode cX11_pull 13 = .ok (.iload_n 2, 1) := by decide +kernel
theorem dX11_pull_14 : decode cX11_pull 14 = .ok (.iconst 0, 1) := by decide +kernel
theorem dX11_pull_15 : decode cX11_pull 15 = .ok (.iconst 4, 1) := by decide +kernel
theorem dX11_pull_16 : decode cX11_pull 16 = .ok (.invokestatic 59, 3) := by decide +kernel
theorem dX11_pull_19 : decode cX11_pull 19 = .ok (.invokestatic 63, 3) := by decide +kernel
theorem dX11_pull_22 : decode cX11_pull 22 = .ok (.aload_n 0, 1) := by decide +kernel
theorem dX11_pull_23 : decode cX11_pull 23 = .ok (.getfield 51, 3) := by decide +kernel
theorem dX11_pull_26 : decode cX11_pull 26 = .ok (.aload_n 3, 1) := by decide +kernel
theorem dX11_pull_27 : decode cX11_pull 27 = .ok (.iload_n 2, 1) := by decide +kernel
theorem dX11_pull_28 : decode cX11_pull 28 = .ok (.invokevirtual 161, 3) := by decide +kernel
theorem dX11_pull_31 : decode cX11_pull 31 = .ok (.lreturn, 1) := by decide +kernel
theorem dX11_need_0 : decode cX11_need 0 = .ok (.aload_n 0, 1) := by decide +kernel
theorem dX11_need_1 : decode cX11_need 1 = .ok (.invokevirtual 151, 3) := by decide +kernel
theorem dX11_need_4 : decode cX11_need 4 = .ok (.aload_n 0, 1) := by decide +kernel
theorem dX11_need_5 : decode cX11_need 5 = .ok (.getfield 43, 3) := by decide +kernel
theorem dX11_need_8 : decode cX11_need 8 = .ok (.iload_n 1, 1) := by decide +kernel
theorem dX11_need_9 : decode cX11_need 9 = .ok (.invokestatic 157, 3) := by decide +kernel
theorem dX11_need_12 : decode cX11_need 12 = .ok (.astore 4, 2) := by decide +kernel
theorem dX11_need_14 : decode cX11_need 14 = .ok (.iload_n 2, 1) := by decide +kernel
theorem dX11_need_15 : decode cX11_need 15 = .ok (.iconst 0, 1) := by decide +kernel
theorem dX11_need_16 : decode cX11_need 16 = .ok (.ldc 165, 2) := by decide +kernel
theorem dX11_need_18 : decode cX11_need 18 = .ok (.invokestatic 59, 3) := by decide +kernel
theorem dX11_need_21 : decode cX11_need 21 = .ok (.ifCond .eq 16, 3) := by decide +kernel
theorem dX11_need_24 : decode cX11_need 24 = .ok (.iload_n 3, 1) := by decide +kernel
theorem dX11_need_25 : decode cX11_need 25 = .ok (.iconst 0, 1) := by decide +kernel
theorem dX11_need_26 : decode cX11_need 26 = .ok (.iconst 3, 1) := by decide +kernel
theorem dX11_need_27 : decode cX11_need 27 = .ok (.invokestatic 59, 3) := by decide +kernel
theorem dX11_need_30 : decode cX11_need 30 = .ok (.ifCond .eq 7, 3) := by decide +kernel
theorem dX11_need_33 : decode cX11_need 33 = .ok (.iconst 1, 1) := by decide +kernel
theorem dX11_need_34 : decode cX11_need 34 = .ok (.goto 4, 3) := by decide +kernel
theorem dX11_need_37 : decode cX11_need 37 = .ok (.iconst 0, 1) := by decide +kernel
theorem dX11_need_38 : decode cX11_need 38 = .ok (.invokestatic 63, 3) := by decide +kernel
theorem dX11_need_41 : decode cX11_need 41 = .ok (.aload_n 0, 1) := by decide +kernel
theorem dX11_need_42 : decode cX11_need 42 = .ok (.getfield 51, 3) := by decide +kernel
theorem dX11_need_45 : decode cX11_need 45 = .ok (.aload 4, 2) := by decide +kernel
theorem dX11_need_47 : decode cX11_need 47 = .ok (.aload_n 0, 1) := by decide +kernel
theorem dX11_need_48 : decode cX11_need 48 = .ok (.getfield 12, 3) := by decide +kernel
theorem dX11_need_51 : decode cX11_need 51 = .ok (.getfield 131, 3) := by decide +kernel
theorem dX11_need_54 : decode cX11_need 54 = .ok (.iload_n 2, 1) := by decide +kernel
theorem dX11_need_55 : decode cX11_need 55 = .ok (.i2l, 1) := by decide +kernel
theorem dX11_need_56 : decode cX11_need 56 = .ok (.iload_n 3, 1) := by decide +kernel
theorem dX11_need_57 : decode cX11_need 57 = .ok (.invokevirtual 166, 3) := by decide +kernel
theorem dX11_need_60 : decode cX11_need 60 = .ok (.lreturn, 1) := by decide +kernel
theorem dX11_error_0 : decode cX11_error 0 = .ok (.aload_n 0, 1) := by decide +kernel
theorem dX11_error_1 : decode cX11_error 1 = .ok (.invokevirtual 151, 3) := by decide +kernel
theorem dX11_error_4 : decode cX11_error 4 = .ok (.aload_n 0, 1) := by decide +kernel
theorem dX11_error_5 : decode cX11_error 5 = .ok (.getfield 39, 3) := by decide +kernel
theorem dX11_error_8 : decode cX11_error 8 = .ok (.iload_n 1, 1) := by decide +kernel
theorem dX11_error_9 : decode cX11_error 9 = .ok (.invokestatic 157, 3) := by decide +kernel
theorem dX11_error_12 : decode cX11_error 12 = .ok (.astore 5, 2) := by decide +kernel
theorem dX11_error_14 : decode cX11_error 14 = .ok (.aload_n 0, 1) := by decide +kernel
theorem dX11_error_15 : decode cX11_error 15 = .ok (.getfield 43, 3) := by decide +kernel
theorem dX11_error_18 : decode cX11_error 18 = .ok (.iload_n 2, 1) := by decide +kernel
theorem dX11_error_19 : decode cX11_error 19 = .ok (.invokestatic 157, 3) := by decide +kernel
theorem dX11_error_22 : decode cX11_error 22 = .ok (.astore 6, 2) := by decide +kernel
theorem dX11_error_24 : decode cX11_error 24 = .ok (.iload_n 3, 1) := by decide +kernel
theorem dX11_error_25 : decode cX11_error 25 = .ok (.iconst 1, 1) := by decide +kernel
theorem dX11_error_26 : decode cX11_error 26 = .ok (.bipush 99, 2) := by decide +kernel
theorem dX11_error_28 : decode cX11_error 28 = .ok (.invokestatic 59, 3) := by decide +kernel
theorem dX11_error_31 : decode cX11_error 31 = .ok (.ifCond .eq 18, 3) := by decide +kernel
theorem dX11_error_34 : decode cX11_error 34 = .ok (.iload 4, 2) := by decide +kernel
theorem dX11_error_36 : decode cX11_error 36 = .ok (.iconst 1, 1) := by decide +kernel
theorem dX11_error_37 : decode cX11_error 37 = .ok (.bipush 40, 2) := by decide +kernel
theorem dX11_error_39 : decode cX11_error 39 = .ok (.invokestatic 59, 3) := by decide +kernel
theorem dX11_error_42 : decode cX11_error 42 = .ok (.ifCond .eq 7, 3) := by decide +kernel
theorem dX11_error_45 : decode cX11_error 45 = .ok (.iconst 1, 1) := by decide +kernel
theorem dX11_error_46 : decode cX11_error 46 = .ok (.goto 4, 3) := by decide +kernel
theorem dX11_error_49 : decode cX11_error 49 = .ok (.iconst 0, 1) := by decide +kernel
theorem dX11_error_50 : decode cX11_error 50 = .ok (.invokestatic 63, 3) := by decide +kernel
theorem dX11_error_53 : decode cX11_error 53 = .ok (.aload_n 0, 1) := by decide +kernel
theorem dX11_error_54 : decode cX11_error 54 = .ok (.getfield 51, 3) := by decide +kernel
theorem dX11_error_57 : decode cX11_error 57 = .ok (.aload 5, 2) := by decide +kernel
theorem dX11_error_59 : decode cX11_error 59 = .ok (.aload 6, 2) := by decide +kernel
theorem dX11_error_61 : decode cX11_error 61 = .ok (.iload_n 3, 1) := by decide +kernel
theorem dX11_error_62 : decode cX11_error 62 = .ok (.iload 4, 2) := by decide +kernel
theorem dX11_error_64 : decode cX11_error 64 = .ok (.invokevirtual 170, 3) := by decide +kernel
theorem dX11_error_67 : decode cX11_error 67 = .ok (.lreturn, 1) := by decide +kernel
theorem dX11_size_0 : decode cX11_size 0 = .ok (.aload_n 0, 1) := by decide +kernel
theorem dX11_size_1 : decode cX11_size 1 = .ok (.invokevirtual 151, 3) := by decide +kernel
theorem dX11_size_4 : decode cX11_size 4 = .ok (.aload_n 0, 1) := by decide +kernel
theorem dX11_size_5 : decode cX11_size 5 = .ok (.getfield 39, 3) := by decide +kernel
theorem dX11_size_8 : decode cX11_size 8 = .ok (.iload_n 1, 1) := by decide +kernel
theorem dX11_size_9 : decode cX11_size 9 = .ok (.invokestatic 157, 3) := by decide +kernel
theorem dX11_size_12 : decode cX11_size 12 = .ok (.astore 5, 2) := by decide +kernel
theorem dX11_size_14 : decode cX11_size 14 = .ok (.aload_n 0, 1) := by decide +kernel
theorem dX11_size_15 : decode cX11_size 15 = .ok (.getfield 43, 3) := by decide +kernel
theorem dX11_size_18 : decode cX11_size 18 = .ok (.iload_n 2, 1) := by decide +kernel
theorem dX11_size_19 : decode cX11_size 19 = .ok (.invokestatic 157, 3) := by decide +kernel
theorem dX11_size_22 : decode cX11_size 22 = .ok (.astore 6, 2) := by decide +kernel
theorem dX11_size_24 : decode cX11_size 24 = .ok (.iload_n 3, 1) := by decide +kernel
theorem dX11_size_25 : decode cX11_size 25 = .ok (.iconst 1, 1) := by decide +kernel
theorem dX11_size_26 : decode cX11_size 26 = .ok (.bipush 99, 2) := by decide +kernel
theorem dX11_size_28 : decode cX11_size 28 = .ok (.invokestatic 59, 3) := by decide +kernel
theorem dX11_size_31 : decode cX11_size 31 = .ok (.ifCond .eq 19, 3) := by decide +kernel
theorem dX11_size_34 : decode cX11_size 34 = .ok (.iload 4, 2) := by decide +kernel
theorem dX11_size_36 : decode cX11_size 36 = .ok (.iconst 0, 1) := by decide +kernel
theorem dX11_size_37 : decode cX11_size 37 = .ok (.sipush 9999, 3) := by decide +kernel
theorem dX11_size_40 : decode cX11_size 40 = .ok (.invokestatic 59, 3) := by decide +kernel
theorem dX11_size_43 : decode cX11_size 43 = .ok (.ifCond .eq 7, 3) := by decide +kernel
theorem dX11_size_46 : decode cX11_size 46 = .ok (.iconst 1, 1) := by decide +kernel
theorem dX11_size_47 : decode cX11_size 47 = .ok (.goto 4, 3) := by decide +kernel
theorem dX11_size_50 : decode cX11_size 50 = .ok (.iconst 0, 1) := by decide +kernel
theorem dX11_size_51 : decode cX11_size 51 = .ok (.invokestatic 63, 3) := by decide +kernel
theorem dX11_size_54 : decode cX11_size 54 = .ok (.aload_n 0, 1) := by decide +kernel
theorem dX11_size_55 : decode cX11_size 55 = .ok (.getfield 51, 3) := by decide +kernel
theorem dX11_size_58 : decode cX11_size 58 = .ok (.aload 5, 2) := by decide +kernel
theorem dX11_size_60 : decode cX11_size 60 = .ok (.aload 6, 2) := by decide +kernel
theorem dX11_size_62 : decode cX11_size 62 = .ok (.iload_n 3, 1) := by decide +kernel
theorem dX11_size_63 : decode cX11_size 63 = .ok (.iload 4, 2) := by decide +kernel
theorem dX11_size_65 : decode cX11_size 65 = .ok (.invokevirtual 174, 3) := by decide +kernel
theorem dX11_size_68 : decode cX11_size 68 = .ok (.ireturn, 1) := by decide +kernel
theorem dX11_sides_0 : decode cX11_sides 0 = .ok (.aload_n 0, 1) := by decide +kernel
theorem dX11_sides_1 : decode cX11_sides 1 = .ok (.invokevirtual 151, 3) := by decide +kernel
theorem dX11_sides_4 : decode cX11_sides 4 = .ok (.aload_n 0, 1) := by decide +kernel
theorem dX11_sides_5 : decode cX11_sides 5 = .ok (.getfield 39, 3) := by decide +kernel
theorem dX11_sides_8 : decode cX11_sides 8 = .ok (.iload_n 1, 1) := by decide +kernel
theorem dX11_sides_9 : decode cX11_sides 9 = .ok (.invokestatic 157, 3) := by decide +kernel
theorem dX11_sides_12 : decode cX11_sides 12 = .ok (.astore_n 2, 1) := by decide +kernel
theorem dX11_sides_13 : decode cX11_sides 13 = .ok (.aload_n 0, 1) := by decide +kernel
theorem dX11_sides_14 : decode cX11_sides 14 = .ok (.getfield 51, 3) := by decide +kernel
theorem dX11_sides_17 : decode cX11_sides 17 = .ok (.aload_n 2, 1) := by decide +kernel
theorem dX11_sides_18 : decode cX11_sides 18 = .ok (.invokevirtual 178, 3) := by decide +kernel
theorem dX11_sides_21 : decode cX11_sides 21 = .ok (.lreturn, 1) := by decide +kernel
theorem dX11_widest_0 : decode cX11_widest 0 = .ok (.aload_n 0, 1) := by decide +kernel
theorem dX11_widest_1 : decode cX11_widest 1 = .ok (.invokevirtual 151, 3) := by decide +kernel
theorem dX11_widest_4 : decode cX11_widest 4 = .ok (.aload_n 0, 1) := by decide +kernel
theorem dX11_widest_5 : decode cX11_widest 5 = .ok (.getfield 39, 3) := by decide +kernel
theorem dX11_widest_8 : decode cX11_widest 8 = .ok (.iload_n 1, 1) := by decide +kernel
theorem dX11_widest_9 : decode cX11_widest 9 = .ok (.invokestatic 157, 3) := by decide +kernel
theorem dX11_widest_12 : decode cX11_widest 12 = .ok (.astore_n 3, 1) := by decide +kernel
theorem dX11_widest_13 : decode cX11_widest 13 = .ok (.iload_n 2, 1) := by decide +kernel
theorem dX11_widest_14 : decode cX11_widest 14 = .ok (.iconst 0, 1) := by decide +kernel
theorem dX11_widest_15 : decode cX11_widest 15 = .ok (.bipush 99, 2) := by decide +kernel
theorem dX11_widest_17 : decode cX11_widest 17 = .ok (.invokestatic 59, 3) := by decide +kernel
theorem dX11_widest_20 : decode cX11_widest 20 = .ok (.invokestatic 63, 3) := by decide +kernel
theorem dX11_widest_23 : decode cX11_widest 23 = .ok (.aload_n 0, 1) := by decide +kernel
theorem dX11_widest_24 : decode cX11_widest 24 = .ok (.getfield 51, 3) := by decide +kernel
theorem dX11_widest_27 : decode cX11_widest 27 = .ok (.aload_n 3, 1) := by decide +kernel
theorem dX11_widest_28 : decode cX11_widest 28 = .ok (.iload_n 2, 1) := by decide +kernel
theorem dX11_widest_29 : decode cX11_widest 29 = .ok (.invokevirtual 182, 3) := by decide +kernel
theorem dX11_widest_32 : decode cX11_widest 32 = .ok (.ireturn, 1) := by decide +kernel
theorem dX11_run_0 : decode cX11_run 0 = .ok (.aload_n 0, 1) := by decide +kernel
theorem dX11_run_1 : decode cX11_run 1 = .ok (.invokevirtual 151, 3) := by decide +kernel
theorem dX11_run_4 : decode cX11_run 4 = .ok (.iload_n 1, 1) := by decide +kernel
theorem dX11_run_5 : decode cX11_run 5 = .ok (.iconst 0, 1) := by decide +kernel
theorem dX11_run_6 : decode cX11_run 6 = .ok (.ldc 165, 2) := by decide +kernel
theorem dX11_run_8 : decode cX11_run 8 = .ok (.invokestatic 59, 3) := by decide +kernel
theorem dX11_run_11 : decode cX11_run 11 = .ok (.invokestatic 63, 3) := by decide +kernel
theorem dX11_run_14 : decode cX11_run 14 = .ok (.aload_n 0, 1) := by decide +kernel
theorem dX11_run_15 : decode cX11_run 15 = .ok (.getfield 12, 3) := by decide +kernel
theorem dX11_run_18 : decode cX11_run 18 = .ok (.iload_n 1, 1) := by decide +kernel
theorem dX11_run_19 : decode cX11_run 19 = .ok (.invokevirtual 186, 3) := by decide +kernel
theorem dX11_run_22 : decode cX11_run 22 = .ok (.ireturn, 1) := by decide +kernel
theorem dX11_tow_0 : decode cX11_tow 0 = .ok (.aload_n 0, 1) := by decide +kernel
theorem dX11_tow_1 : decode cX11_tow 1 = .ok (.invokevirtual 151, 3) := by decide +kernel
theorem dX11_tow_4 : decode cX11_tow 4 = .ok (.aload_n 0, 1) := by decide +kernel
theorem dX11_tow_5 : decode cX11_tow 5 = .ok (.getfield 39, 3) := by decide +kernel
theorem dX11_tow_8 : decode cX11_tow 8 = .ok (.iload_n 1, 1) := by decide +kernel
theorem dX11_tow_9 : decode cX11_tow 9 = .ok (.invokestatic 157, 3) := by decide +kernel
theorem dX11_tow_12 : decode cX11_tow 12 = .ok (.astore_n 3, 1) := by decide +kernel
theorem dX11_tow_13 : decode cX11_tow 13 = .ok (.iload_n 2, 1) := by decide +kernel
theorem dX11_tow_14 : decode cX11_tow 14 = .ok (.iconst 0, 1) := by decide +kernel
theorem dX11_tow_15 : decode cX11_tow 15 = .ok (.bipush 50, 2) := by decide +kernel
theorem dX11_tow_17 : decode cX11_tow 17 = .ok (.invokestatic 59, 3) := by decide +kernel
theorem dX11_tow_20 : decode cX11_tow 20 = .ok (.invokestatic 63, 3) := by decide +kernel
theorem dX11_tow_23 : decode cX11_tow 23 = .ok (.aload_n 0, 1) := by decide +kernel
theorem dX11_tow_24 : decode cX11_tow 24 = .ok (.getfield 12, 3) := by decide +kernel
theorem dX11_tow_27 : decode cX11_tow 27 = .ok (.getfield 189, 3) := by decide +kernel
theorem dX11_tow_30 : decode cX11_tow 30 = .ok (.invokevirtual 192, 3) := by decide +kernel
theorem dX11_tow_33 : decode cX11_tow 33 = .ok (.ifCond .eq 5, 3) := by decide +kernel
theorem dX11_tow_36 : decode cX11_tow 36 = .ok (.iconst (-1), 1) := by decide +kernel
theorem dX11_tow_37 : decode cX11_tow 37 = .ok (.ireturn, 1) := by decide +kernel
theorem dX11_tow_38 : decode cX11_tow 38 = .ok (.aload_n 0, 1) := by decide +kernel
theorem dX11_tow_39 : decode cX11_tow 39 = .ok (.getfield 12, 3) := by decide +kernel
theorem dX11_tow_42 : decode cX11_tow 42 = .ok (.aload_n 0, 1) := by decide +kernel
theorem dX11_tow_43 : decode cX11_tow 43 = .ok (.getfield 51, 3) := by decide +kernel
theorem dX11_tow_46 : decode cX11_tow 46 = .ok (.aload_n 3, 1) := by decide +kernel
theorem dX11_tow_47 : decode cX11_tow 47 = .ok (.iload_n 2, 1) := by decide +kernel
theorem dX11_tow_48 : decode cX11_tow 48 = .ok (.invokevirtual 193, 3) := by decide +kernel
theorem dX11_tow_51 : decode cX11_tow 51 = .ok (.invokevirtual 186, 3) := by decide +kernel
theorem dX11_tow_54 : decode cX11_tow 54 = .ok (.ireturn, 1) := by decide +kernel
theorem dX11_ran_0 : decode cX11_ran 0 = .ok (.iload_n 1, 1) := by decide +kernel
theorem dX11_ran_1 : decode cX11_ran 1 = .ok (.iconst 0, 1) := by decide +kernel
theorem dX11_ran_2 : decode cX11_ran 2 = .ok (.aload_n 0, 1) := by decide +kernel
theorem dX11_ran_3 : decode cX11_ran 3 = .ok (.getfield 12, 3) := by decide +kernel
theorem dX11_ran_6 : decode cX11_ran 6 = .ok (.invokevirtual 196, 3) := by decide +kernel
theorem dX11_ran_9 : decode cX11_ran 9 = .ok (.iconst 1, 1) := by decide +kernel
theorem dX11_ran_10 : decode cX11_ran 10 = .ok (.isub, 1) := by decide +kernel
theorem dX11_ran_11 : decode cX11_ran 11 = .ok (.invokestatic 59, 3) := by decide +kernel
theorem dX11_ran_14 : decode cX11_ran 14 = .ok (.ifCond .ne 11, 3) := by decide +kernel
theorem dX11_ran_17 : decode cX11_ran 17 = .ok (.new 199, 3) := by decide +kernel
theorem dX11_ran_20 : decode cX11_ran 20 = .ok (.dup, 1) := by decide +kernel
theorem dX11_ran_21 : decode cX11_ran 21 = .ok (.invokespecial 201, 3) := by decide +kernel
theorem dX11_ran_24 : decode cX11_ran 24 = .ok (.athrow, 1) := by decide +kernel
theorem dX11_ran_25 : decode cX11_ran 25 = .ok (.iload_n 2, 1) := by decide +kernel
theorem dX11_ran_26 : decode cX11_ran 26 = .ok (.iconst 0, 1) := by decide +kernel
theorem dX11_ran_27 : decode cX11_ran 27 = .ok (.bipush 6, 2) := by decide +kernel
theorem dX11_ran_29 : decode cX11_ran 29 = .ok (.invokestatic 59, 3) := by decide +kernel
theorem dX11_ran_32 : decode cX11_ran 32 = .ok (.invokestatic 63, 3) := by decide +kernel
theorem dX11_ran_35 : decode cX11_ran 35 = .ok (.aload_n 0, 1) := by decide +kernel
theorem dX11_ran_36 : decode cX11_ran 36 = .ok (.getfield 12, 3) := by decide +kernel
theorem dX11_ran_39 : decode cX11_ran 39 = .ok (.iload_n 1, 1) := by decide +kernel
theorem dX11_ran_40 : decode cX11_ran 40 = .ok (.iload_n 2, 1) := by decide +kernel
theorem dX11_ran_41 : decode cX11_ran 41 = .ok (.invokevirtual 202, 3) := by decide +kernel
