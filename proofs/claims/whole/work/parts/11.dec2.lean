theorem dX8_init_0 : decode cX8_init 0 = .ok (.aload_n 0, 1) := by decide +kernel
theorem dX8_init_1 : decode cX8_init 1 = .ok (.invokespecial 1, 3) := by decide +kernel
theorem dX8_init_4 : decode cX8_init 4 = .ok (.aload_n 0, 1) := by decide +kernel
theorem dX8_init_5 : decode cX8_init 5 = .ok (.bipush 100, 2) := by decide +kernel
theorem dX8_init_7 : decode cX8_init 7 = .ok (.newarray .int, 2) := by decide +kernel
theorem dX8_init_9 : decode cX8_init 9 = .ok (.putfield 9, 3) := by decide +kernel
theorem dX8_init_12 : decode cX8_init 12 = .ok (.aload_n 0, 1) := by decide +kernel
theorem dX8_init_13 : decode cX8_init 13 = .ok (.iconst 0, 1) := by decide +kernel
theorem dX8_init_14 : decode cX8_init 14 = .ok (.putfield 13, 3) := by decide +kernel
theorem dX8_init_17 : decode cX8_init 17 = .ok (.aload_n 0, 1) := by decide +kernel
theorem dX8_init_18 : decode cX8_init 18 = .ok (.iconst 0, 1) := by decide +kernel
theorem dX8_init_19 : decode cX8_init 19 = .ok (.putfield 17, 3) := by decide +kernel
theorem dX8_init_22 : decode cX8_init 22 = .ok (.aload_n 0, 1) := by decide +kernel
theorem dX8_init_23 : decode cX8_init 23 = .ok (.new 20, 3) := by decide +kernel
theorem dX8_init_26 : decode cX8_init 26 = .ok (.dup, 1) := by decide +kernel
theorem dX8_init_27 : decode cX8_init 27 = .ok (.invokespecial 22, 3) := by decide +kernel
theorem dX8_init_30 : decode cX8_init 30 = .ok (.putfield 23, 3) := by decide +kernel
theorem dX8_init_33 : decode cX8_init 33 = .ok (.aload_n 0, 1) := by decide +kernel
theorem dX8_init_34 : decode cX8_init 34 = .ok (.new 27, 3) := by decide +kernel
theorem dX8_init_37 : decode cX8_init 37 = .ok (.dup, 1) := by decide +kernel
theorem dX8_init_38 : decode cX8_init 38 = .ok (.invokespecial 29, 3) := by decide +kernel
theorem dX8_init_41 : decode cX8_init 41 = .ok (.putfield 30, 3) := by decide +kernel
theorem dX8_init_44 : decode cX8_init 44 = .ok (.aload_n 0, 1) := by decide +kernel
theorem dX8_init_45 : decode cX8_init 45 = .ok (.new 34, 3) := by decide +kernel
theorem dX8_init_48 : decode cX8_init 48 = .ok (.dup, 1) := by decide +kernel
theorem dX8_init_49 : decode cX8_init 49 = .ok (.invokespecial 36, 3) := by decide +kernel
theorem dX8_init_52 : decode cX8_init 52 = .ok (.putfield 37, 3) := by decide +kernel
theorem dX8_init_55 : decode cX8_init 55 = .ok (.aload_n 0, 1) := by decide +kernel
theorem dX8_init_56 : decode cX8_init 56 = .ok (.new 41, 3) := by decide +kernel
theorem dX8_init_59 : decode cX8_init 59 = .ok (.dup, 1) := by decide +kernel
theorem dX8_init_60 : decode cX8_init 60 = .ok (.invokespecial 43, 3) := by decide +kernel
theorem dX8_init_63 : decode cX8_init 63 = .ok (.putfield 44, 3) := by decide +kernel
theorem dX8_init_66 : decode cX8_init 66 = .ok (.aload_n 0, 1) := by decide +kernel
theorem dX8_init_67 : decode cX8_init 67 = .ok (.new 48, 3) := by decide +kernel
theorem dX8_init_70 : decode cX8_init 70 = .ok (.dup, 1) := by decide +kernel
theorem dX8_init_71 : decode cX8_init 71 = .ok (.invokespecial 50, 3) := by decide +kernel
theorem dX8_init_74 : decode cX8_init 74 = .ok (.putfield 51, 3) := by decide +kernel
theorem dX8_init_77 : decode cX8_init 77 = .ok (.aload_n 0, 1) := by decide +kernel
theorem dX8_init_78 : decode cX8_init 78 = .ok (.bipush 8, 2) := by decide +kernel
theorem dX8_init_80 : decode cX8_init 80 = .ok (.anewarray 55, 3) := by decide +kernel
theorem dX8_init_83 : decode cX8_init 83 = .ok (.putfield 57, 3) := by decide +kernel
theorem dX8_init_86 : decode cX8_init 86 = .ok (.aload_n 0, 1) := by decide +kernel
theorem dX8_init_87 : decode cX8_init 87 = .ok (.new 61, 3) := by decide +kernel
theorem dX8_init_90 : decode cX8_init 90 = .ok (.dup, 1) := by decide +kernel
theorem dX8_init_91 : decode cX8_init 91 = .ok (.invokespecial 63, 3) := by decide +kernel
theorem dX8_init_94 : decode cX8_init 94 = .ok (.putfield 64, 3) := by decide +kernel
theorem dX8_init_97 : decode cX8_init 97 = .ok (.aload_n 0, 1) := by decide +kernel
theorem dX8_init_98 : decode cX8_init 98 = .ok (.new 61, 3) := by decide +kernel
theorem dX8_init_101 : decode cX8_init 101 = .ok (.dup, 1) := by decide +kernel
theorem dX8_init_102 : decode cX8_init 102 = .ok (.invokespecial 63, 3) := by decide +kernel
theorem dX8_init_105 : decode cX8_init 105 = .ok (.putfield 68, 3) := by decide +kernel
theorem dX8_init_108 : decode cX8_init 108 = .ok (.aload_n 0, 1) := by decide +kernel
theorem dX8_init_109 : decode cX8_init 109 = .ok (.new 61, 3) := by decide +kernel
theorem dX8_init_112 : decode cX8_init 112 = .ok (.dup, 1) := by decide +kernel
theorem dX8_init_113 : decode cX8_init 113 = .ok (.invokespecial 63, 3) := by decide +kernel
theorem dX8_init_116 : decode cX8_init 116 = .ok (.putfield 71, 3) := by decide +kernel
theorem dX8_init_119 : decode cX8_init 119 = .ok (.aload_n 0, 1) := by decide +kernel
theorem dX8_init_120 : decode cX8_init 120 = .ok (.new 61, 3) := by decide +kernel
theorem dX8_init_123 : decode cX8_init 123 = .ok (.dup, 1) := by decide +kernel
theorem dX8_init_124 : decode cX8_init 124 = .ok (.invokespecial 63, 3) := by decide +kernel
theorem dX8_init_127 : decode cX8_init 127 = .ok (.putfield 74, 3) := by decide +kernel
theorem dX8_init_130 : decode cX8_init 130 = .ok (.return_, 1) := by decide +kernel
theorem dX8_unit_0 : decode cX8_unit 0 = .ok (.aload_n 0, 1) := by decide +kernel
theorem dX8_unit_1 : decode cX8_unit 1 = .ok (.getfield 13, 3) := by decide +kernel
theorem dX8_unit_4 : decode cX8_unit 4 = .ok (.bipush 100, 2) := by decide +kernel
theorem dX8_unit_6 : decode cX8_unit 6 = .ok (.if_icmp .lt 6, 3) := by decide +kernel
theorem dX8_unit_9 : decode cX8_unit 9 = .ok (.bipush (-2), 2) := by decide +kernel
theorem dX8_unit_11 : decode cX8_unit 11 = .ok (.ireturn, 1) := by decide +kernel
theorem dX8_unit_12 : decode cX8_unit 12 = .ok (.aload_n 0, 1) := by decide +kernel
theorem dX8_unit_13 : decode cX8_unit 13 = .ok (.getfield 9, 3) := by decide +kernel
theorem dX8_unit_16 : decode cX8_unit 16 = .ok (.aload_n 0, 1) := by decide +kernel
theorem dX8_unit_17 : decode cX8_unit 17 = .ok (.getfield 13, 3) := by decide +kernel
theorem dX8_unit_20 : decode cX8_unit 20 = .ok (.iload_n 1, 1) := by decide +kernel
theorem dX8_unit_21 : decode cX8_unit 21 = .ok (.ldc 77, 2) := by decide +kernel
theorem dX8_unit_23 : decode cX8_unit 23 = .ok (.iand, 1) := by decide +kernel
theorem dX8_unit_24 : decode cX8_unit 24 = .ok (.iastore, 1) := by decide +kernel
theorem dX8_unit_25 : decode cX8_unit 25 = .ok (.aload_n 0, 1) := by decide +kernel
theorem dX8_unit_26 : decode cX8_unit 26 = .ok (.dup, 1) := by decide +kernel
theorem dX8_unit_27 : decode cX8_unit 27 = .ok (.getfield 13, 3) := by decide +kernel
theorem dX8_unit_30 : decode cX8_unit 30 = .ok (.iconst 1, 1) := by decide +kernel
theorem dX8_unit_31 : decode cX8_unit 31 = .ok (.iadd, 1) := by decide +kernel
theorem dX8_unit_32 : decode cX8_unit 32 = .ok (.putfield 13, 3) := by decide +kernel
theorem dX8_unit_35 : decode cX8_unit 35 = .ok (.aload_n 0, 1) := by decide +kernel
theorem dX8_unit_36 : decode cX8_unit 36 = .ok (.getfield 13, 3) := by decide +kernel
theorem dX8_unit_39 : decode cX8_unit 39 = .ok (.ireturn, 1) := by decide +kernel
theorem dX8_mark_0 : decode cX8_mark 0 = .ok (.aload_n 0, 1) := by decide +kernel
theorem dX8_mark_1 : decode cX8_mark 1 = .ok (.aload_n 0, 1) := by decide +kernel
theorem dX8_mark_2 : decode cX8_mark 2 = .ok (.getfield 13, 3) := by decide +kernel
theorem dX8_mark_5 : decode cX8_mark 5 = .ok (.putfield 17, 3) := by decide +kernel
theorem dX8_mark_8 : decode cX8_mark 8 = .ok (.aload_n 0, 1) := by decide +kernel
theorem dX8_mark_9 : decode cX8_mark 9 = .ok (.getfield 17, 3) := by decide +kernel
theorem dX8_mark_12 : decode cX8_mark 12 = .ok (.ireturn, 1) := by decide +kernel
theorem dX8_text_0 : decode cX8_text 0 = .ok (.aload_n 0, 1) := by decide +kernel
theorem dX8_text_1 : decode cX8_text 1 = .ok (.iconst 0, 1) := by decide +kernel
theorem dX8_text_2 : decode cX8_text 2 = .ok (.aload_n 0, 1) := by decide +kernel
theorem dX8_text_3 : decode cX8_text 3 = .ok (.getfield 13, 3) := by decide +kernel
theorem dX8_text_6 : decode cX8_text 6 = .ok (.aload_n 0, 1) := by decide +kernel
theorem dX8_text_7 : decode cX8_text 7 = .ok (.getfield 64, 3) := by decide +kernel
theorem dX8_text_10 : decode cX8_text 10 = .ok (.invokevirtual 78, 3) := by decide +kernel
theorem dX8_text_13 : decode cX8_text 13 = .ok (.aload_n 0, 1) := by decide +kernel
theorem dX8_text_14 : decode cX8_text 14 = .ok (.invokevirtual 82, 3) := by decide +kernel
theorem dX8_text_17 : decode cX8_text 17 = .ok (.aload_n 0, 1) := by decide +kernel
theorem dX8_text_18 : decode cX8_text 18 = .ok (.getfield 64, 3) := by decide +kernel
theorem dX8_text_21 : decode cX8_text 21 = .ok (.invokevirtual 85, 3) := by decide +kernel
theorem dX8_text_24 : decode cX8_text 24 = .ok (.ireturn, 1) := by decide +kernel
theorem dX8_string_0 : decode cX8_string 0 = .ok (.aload_n 0, 1) := by decide +kernel
theorem dX8_string_1 : decode cX8_string 1 = .ok (.getfield 17, 3) := by decide +kernel
theorem dX8_string_4 : decode cX8_string 4 = .ok (.ifCond .gt 5, 3) := by decide +kernel
theorem dX8_string_7 : decode cX8_string 7 = .ok (.iconst (-1), 1) := by decide +kernel
theorem dX8_string_8 : decode cX8_string 8 = .ok (.ireturn, 1) := by decide +kernel
theorem dX8_string_9 : decode cX8_string 9 = .ok (.aload_n 0, 1) := by decide +kernel
theorem dX8_string_10 : decode cX8_string 10 = .ok (.iconst 0, 1) := by decide +kernel
theorem dX8_string_11 : decode cX8_string 11 = .ok (.aload_n 0, 1) := by decide +kernel
theorem dX8_string_12 : decode cX8_string 12 = .ok (.getfield 17, 3) := by decide +kernel
theorem dX8_string_15 : decode cX8_string 15 = .ok (.aload_n 0, 1) := by decide +kernel
theorem dX8_string_16 : decode cX8_string 16 = .ok (.getfield 71, 3) := by decide +kernel
theorem dX8_string_19 : decode cX8_string 19 = .ok (.invokevirtual 78, 3) := by decide +kernel
theorem dX8_string_22 : decode cX8_string 22 = .ok (.aload_n 0, 1) := by decide +kernel
theorem dX8_string_23 : decode cX8_string 23 = .ok (.aload_n 0, 1) := by decide +kernel
theorem dX8_string_24 : decode cX8_string 24 = .ok (.getfield 17, 3) := by decide +kernel
theorem dX8_string_27 : decode cX8_string 27 = .ok (.aload_n 0, 1) := by decide +kernel
theorem dX8_string_28 : decode cX8_string 28 = .ok (.getfield 13, 3) := by decide +kernel
theorem dX8_string_31 : decode cX8_string 31 = .ok (.aload_n 0, 1) := by decide +kernel
theorem dX8_string_32 : decode cX8_string 32 = .ok (.getfield 74, 3) := by decide +kernel
theorem dX8_string_35 : decode cX8_string 35 = .ok (.invokevirtual 78, 3) := by decide +kernel
theorem dX8_string_38 : decode cX8_string 38 = .ok (.aload_n 0, 1) := by decide +kernel
theorem dX8_string_39 : decode cX8_string 39 = .ok (.getfield 51, 3) := by decide +kernel
theorem dX8_string_42 : decode cX8_string 42 = .ok (.aload_n 0, 1) := by decide +kernel
theorem dX8_string_43 : decode cX8_string 43 = .ok (.getfield 71, 3) := by decide +kernel
theorem dX8_string_46 : decode cX8_string 46 = .ok (.aload_n 0, 1) := by decide +kernel
theorem dX8_string_47 : decode cX8_string 47 = .ok (.getfield 74, 3) := by decide +kernel
theorem dX8_string_50 : decode cX8_string 50 = .ok (.invokevirtual 89, 3) := by decide +kernel
theorem dX8_string_53 : decode cX8_string 53 = .ok (.ifCond .ne 6, 3) := by decide +kernel
theorem dX8_string_56 : decode cX8_string 56 = .ok (.bipush (-2), 2) := by decide +kernel
theorem dX8_string_58 : decode cX8_string 58 = .ok (.ireturn, 1) := by decide +kernel
theorem dX8_string_59 : decode cX8_string 59 = .ok (.aload_n 0, 1) := by decide +kernel
theorem dX8_string_60 : decode cX8_string 60 = .ok (.invokevirtual 82, 3) := by decide +kernel
theorem dX8_string_63 : decode cX8_string 63 = .ok (.aload_n 0, 1) := by decide +kernel
theorem dX8_string_64 : decode cX8_string 64 = .ok (.getfield 51, 3) := by decide +kernel
theorem dX8_string_67 : decode cX8_string 67 = .ok (.invokevirtual 93, 3) := by decide +kernel
theorem dX8_string_70 : decode cX8_string 70 = .ok (.ireturn, 1) := by decide +kernel
theorem dX8_fold_0 : decode cX8_fold 0 = .ok (.iload_n 1, 1) := by decide +kernel
theorem dX8_fold_1 : decode cX8_fold 1 = .ok (.invokestatic 94, 3) := by decide +kernel
theorem dX8_fold_4 : decode cX8_fold 4 = .ok (.ifCond .eq 13, 3) := by decide +kernel
theorem dX8_fold_7 : decode cX8_fold 7 = .ok (.iload_n 2, 1) := by decide +kernel
theorem dX8_fold_8 : decode cX8_fold 8 = .ok (.iload_n 3, 1) := by decide +kernel
theorem dX8_fold_9 : decode cX8_fold 9 = .ok (.iload 4, 2) := by decide +kernel
theorem dX8_fold_11 : decode cX8_fold 11 = .ok (.invokestatic 98, 3) := by decide +kernel
theorem dX8_fold_14 : decode cX8_fold 14 = .ok (.ifCond .ne 5, 3) := by decide +kernel
theorem dX8_fold_17 : decode cX8_fold 17 = .ok (.iconst (-1), 1) := by decide +kernel
theorem dX8_fold_18 : decode cX8_fold 18 = .ok (.ireturn, 1) := by decide +kernel
theorem dX8_fold_19 : decode cX8_fold 19 = .ok (.aload_n 0, 1) := by decide +kernel
theorem dX8_fold_20 : decode cX8_fold 20 = .ok (.getfield 23, 3) := by decide +kernel
theorem dX8_fold_23 : decode cX8_fold 23 = .ok (.iload_n 1, 1) := by decide +kernel
theorem dX8_fold_24 : decode cX8_fold 24 = .ok (.iload_n 2, 1) := by decide +kernel
theorem dX8_fold_25 : decode cX8_fold 25 = .ok (.iload_n 3, 1) := by decide +kernel
theorem dX8_fold_26 : decode cX8_fold 26 = .ok (.iload 4, 2) := by decide +kernel
theorem dX8_fold_28 : decode cX8_fold 28 = .ok (.invokevirtual 102, 3) := by decide +kernel
theorem dX8_fold_31 : decode cX8_fold 31 = .ok (.ifCond .eq 13, 3) := by decide +kernel
theorem dX8_fold_34 : decode cX8_fold 34 = .ok (.aload_n 0, 1) := by decide +kernel
theorem dX8_fold_35 : decode cX8_fold 35 = .ok (.getfield 23, 3) := by decide +kernel
theorem dX8_fold_38 : decode cX8_fold 38 = .ok (.invokevirtual 105, 3) := by decide +kernel
theorem dX8_fold_41 : decode cX8_fold 41 = .ok (.goto 5, 3) := by decide +kernel
theorem dX8_fold_44 : decode cX8_fold 44 = .ok (.bipush (-2), 2) := by decide +kernel
theorem dX8_fold_46 : decode cX8_fold 46 = .ok (.ireturn, 1) := by decide +kernel
theorem dX8_pair_0 : decode cX8_pair 0 = .ok (.iload_n 1, 1) := by decide +kernel
theorem dX8_pair_1 : decode cX8_pair 1 = .ok (.invokestatic 94, 3) := by decide +kernel
theorem dX8_pair_4 : decode cX8_pair 4 = .ok (.ifCond .eq 17, 3) := by decide +kernel
theorem dX8_pair_7 : decode cX8_pair 7 = .ok (.iload_n 2, 1) := by decide +kernel
theorem dX8_pair_8 : decode cX8_pair 8 = .ok (.invokestatic 94, 3) := by decide +kernel
theorem dX8_pair_11 : decode cX8_pair 11 = .ok (.ifCond .eq 10, 3) := by decide +kernel
theorem dX8_pair_14 : decode cX8_pair 14 = .ok (.iload_n 3, 1) := by decide +kernel
theorem dX8_pair_15 : decode cX8_pair 15 = .ok (.invokestatic 94, 3) := by decide +kernel
theorem dX8_pair_18 : decode cX8_pair 18 = .ok (.ifCond .ne 5, 3) := by decide +kernel
theorem dX8_pair_21 : decode cX8_pair 21 = .ok (.iconst (-1), 1) := by decide +kernel
theorem dX8_pair_22 : decode cX8_pair 22 = .ok (.ireturn, 1) := by decide +kernel
theorem dX8_pair_23 : decode cX8_pair 23 = .ok (.aload_n 0, 1) := by decide +kernel
theorem dX8_pair_24 : decode cX8_pair 24 = .ok (.getfield 30, 3) := by decide +kernel
theorem dX8_pair_27 : decode cX8_pair 27 = .ok (.iload_n 1, 1) := by decide +kernel
theorem dX8_pair_28 : decode cX8_pair 28 = .ok (.iload_n 2, 1) := by decide +kernel
theorem dX8_pair_29 : decode cX8_pair 29 = .ok (.iload_n 3, 1) := by decide +kernel
theorem dX8_pair_30 : decode cX8_pair 30 = .ok (.invokevirtual 106, 3) := by decide +kernel
theorem dX8_pair_33 : decode cX8_pair 33 = .ok (.ifCond .eq 13, 3) := by decide +kernel
theorem dX8_pair_36 : decode cX8_pair 36 = .ok (.aload_n 0, 1) := by decide +kernel
theorem dX8_pair_37 : decode cX8_pair 37 = .ok (.getfield 30, 3) := by decide +kernel
theorem dX8_pair_40 : decode cX8_pair 40 = .ok (.invokevirtual 108, 3) := by decide +kernel
theorem dX8_pair_43 : decode cX8_pair 43 = .ok (.goto 5, 3) := by decide +kernel
theorem dX8_pair_46 : decode cX8_pair 46 = .ok (.bipush (-2), 2) := by decide +kernel
theorem dX8_pair_48 : decode cX8_pair 48 = .ok (.ireturn, 1) := by decide +kernel
theorem dX8_zero_0 : decode cX8_zero 0 = .ok (.iload_n 1, 1) := by decide +kernel
theorem dX8_zero_1 : decode cX8_zero 1 = .ok (.invokestatic 94, 3) := by decide +kernel
theorem dX8_zero_4 : decode cX8_zero 4 = .ok (.ifCond .eq 9, 3) := by decide +kernel
theorem dX8_zero_7 : decode cX8_zero 7 = .ok (.iload_n 1, 1) := by decide +kernel
theorem dX8_zero_8 : decode cX8_zero 8 = .ok (.ldc 109, 2) := by decide +kernel
theorem dX8_zero_10 : decode cX8_zero 10 = .ok (.if_icmp .le 5, 3) := by decide +kernel
theorem dX8_zero_13 : decode cX8_zero 13 = .ok (.iconst (-1), 1) := by decide +kernel
theorem dX8_zero_14 : decode cX8_zero 14 = .ok (.ireturn, 1) := by decide +kernel
theorem dX8_zero_15 : decode cX8_zero 15 = .ok (.aload_n 0, 1) := by decide +kernel
theorem dX8_zero_16 : decode cX8_zero 16 = .ok (.getfield 37, 3) := by decide +kernel
theorem dX8_zero_19 : decode cX8_zero 19 = .ok (.iload_n 1, 1) := by decide +kernel
theorem dX8_zero_20 : decode cX8_zero 20 = .ok (.invokevirtual 110, 3) := by decide +kernel
theorem dX8_zero_23 : decode cX8_zero 23 = .ok (.ifCond .eq 13, 3) := by decide +kernel
theorem dX8_zero_26 : decode cX8_zero 26 = .ok (.aload_n 0, 1) := by decide +kernel
theorem dX8_zero_27 : decode cX8_zero 27 = .ok (.getfield 37, 3) := by decide +kernel
theorem dX8_zero_30 : decode cX8_zero 30 = .ok (.invokevirtual 113, 3) := by decide +kernel
theorem dX8_zero_33 : decode cX8_zero 33 = .ok (.goto 5, 3) := by decide +kernel
theorem dX8_zero_36 : decode cX8_zero 36 = .ok (.bipush (-2), 2) := by decide +kernel
theorem dX8_zero_38 : decode cX8_zero 38 = .ok (.ireturn, 1) := by decide +kernel
theorem dX8_range_0 : decode cX8_range 0 = .ok (.iload_n 1, 1) := by decide +kernel
theorem dX8_range_1 : decode cX8_range 1 = .ok (.invokestatic 94, 3) := by decide +kernel
theorem dX8_range_4 : decode cX8_range 4 = .ok (.ifCond .eq 15, 3) := by decide +kernel
theorem dX8_range_7 : decode cX8_range 7 = .ok (.iload_n 2, 1) := by decide +kernel
theorem dX8_range_8 : decode cX8_range 8 = .ok (.invokestatic 94, 3) := by decide +kernel
theorem dX8_range_11 : decode cX8_range 11 = .ok (.ifCond .eq 8, 3) := by decide +kernel
theorem dX8_range_14 : decode cX8_range 14 = .ok (.iload_n 2, 1) := by decide +kernel
theorem dX8_range_15 : decode cX8_range 15 = .ok (.iload_n 1, 1) := by decide +kernel
theorem dX8_range_16 : decode cX8_range 16 = .ok (.if_icmp .ge 5, 3) := by decide +kernel
theorem dX8_range_19 : decode cX8_range 19 = .ok (.iconst (-1), 1) := by decide +kernel
theorem dX8_range_20 : decode cX8_range 20 = .ok (.ireturn, 1) := by decide +kernel
theorem dX8_range_21 : decode cX8_range 21 = .ok (.aload_n 0, 1) := by decide +kernel
theorem dX8_range_22 : decode cX8_range 22 = .ok (.getfield 44, 3) := by decide +kernel
theorem dX8_range_25 : decode cX8_range 25 = .ok (.iload_n 1, 1) := by decide +kernel
theorem dX8_range_26 : decode cX8_range 26 = .ok (.iload_n 2, 1) := by decide +kernel
theorem dX8_range_27 : decode cX8_range 27 = .ok (.invokevirtual 114, 3) := by decide +kernel
theorem dX8_range_30 : decode cX8_range 30 = .ok (.ifCond .eq 13, 3) := by decide +kernel
theorem dX8_range_33 : decode cX8_range 33 = .ok (.aload_n 0, 1) := by decide +kernel
theorem dX8_range_34 : decode cX8_range 34 = .ok (.getfield 44, 3) := by decide +kernel
theorem dX8_range_37 : decode cX8_range 37 = .ok (.invokevirtual 117, 3) := by decide +kernel
theorem dX8_range_40 : decode cX8_range 40 = .ok (.goto 5, 3) := by decide +kernel
theorem dX8_range_43 : decode cX8_range 43 = .ok (.bipush (-2), 2) := by decide +kernel
theorem dX8_range_45 : decode cX8_range 45 = .ok (.ireturn, 1) := by decide +kernel
theorem dX8_filter_0 : decode cX8_filter 0 = .ok (.iload_n 2, 1) := by decide +kernel
theorem dX8_filter_1 : decode cX8_filter 1 = .ok (.ifCond .lt 9, 3) := by decide +kernel
theorem dX8_filter_4 : decode cX8_filter 4 = .ok (.iload_n 2, 1) := by decide +kernel
theorem dX8_filter_5 : decode cX8_filter 5 = .ok (.bipush 6, 2) := by decide +kernel
theorem dX8_filter_7 : decode cX8_filter 7 = .ok (.if_icmp .le 5, 3) := by decide +kernel
theorem dX8_filter_10 : decode cX8_filter 10 = .ok (.iconst (-1), 1) := by decide +kernel
theorem dX8_filter_11 : decode cX8_filter 11 = .ok (.ireturn, 1) := by decide +kernel
theorem dX8_filter_12 : decode cX8_filter 12 = .ok (.iload_n 1, 1) := by decide +kernel
theorem dX8_filter_13 : decode cX8_filter 13 = .ok (.invokestatic 118, 3) := by decide +kernel
theorem dX8_filter_16 : decode cX8_filter 16 = .ok (.ifCond .ne 6, 3) := by decide +kernel
theorem dX8_filter_19 : decode cX8_filter 19 = .ok (.bipush (-13), 2) := by decide +kernel
theorem dX8_filter_21 : decode cX8_filter 21 = .ok (.ireturn, 1) := by decide +kernel
theorem dX8_filter_22 : decode cX8_filter 22 = .ok (.aload_n 0, 1) := by decide +kernel
theorem dX8_filter_23 : decode cX8_filter 23 = .ok (.getfield 57, 3) := by decide +kernel
theorem dX8_filter_26 : decode cX8_filter 26 = .ok (.iload_n 1, 1) := by decide +kernel
theorem dX8_filter_27 : decode cX8_filter 27 = .ok (.new 55, 3) := by decide +kernel
theorem dX8_filter_30 : decode cX8_filter 30 = .ok (.dup, 1) := by decide +kernel
theorem dX8_filter_31 : decode cX8_filter 31 = .ok (.iload_n 2, 1) := by decide +kernel
theorem dX8_filter_32 : decode cX8_filter 32 = .ok (.invokespecial 121, 3) := by decide +kernel
theorem dX8_filter_35 : decode cX8_filter 35 = .ok (.aastore, 1) := by decide +kernel
theorem dX8_filter_36 : decode cX8_filter 36 = .ok (.iconst 0, 1) := by decide +kernel
theorem dX8_filter_37 : decode cX8_filter 37 = .ok (.ireturn, 1) := by decide +kernel
theorem dX8_drop_0 : decode cX8_drop 0 = .ok (.iload_n 1, 1) := by decide +kernel
theorem dX8_drop_1 : decode cX8_drop 1 = .ok (.invokestatic 118, 3) := by decide +kernel
theorem dX8_drop_4 : decode cX8_drop 4 = .ok (.ifCond .ne 6, 3) := by decide +kernel
theorem dX8_drop_7 : decode cX8_drop 7 = .ok (.bipush (-13), 2) := by decide +kernel
theorem dX8_drop_9 : decode cX8_drop 9 = .ok (.ireturn, 1) := by decide +kernel
theorem dX8_drop_10 : decode cX8_drop 10 = .ok (.aload_n 0, 1) := by decide +kernel
theorem dX8_drop_11 : decode cX8_drop 11 = .ok (.getfield 57, 3) := by decide +kernel
theorem dX8_drop_14 : decode cX8_drop 14 = .ok (.iload_n 1, 1) := by decide +kernel
theorem dX8_drop_15 : decode cX8_drop 15 = .ok (.aaload, 1) := by decide +kernel
theorem dX8_drop_16 : decode cX8_drop 16 = .ok (.ifnull 7, 3) := by decide +kernel
theorem dX8_drop_19 : decode cX8_drop 19 = .ok (.iconst 1, 1) := by decide +kernel
theorem dX8_drop_20 : decode cX8_drop 20 = .ok (.goto 4, 3) := by decide +kernel
theorem dX8_drop_23 : decode cX8_drop 23 = .ok (.iconst 0, 1) := by decide +kernel
theorem dX8_drop_24 : decode cX8_drop 24 = .ok (.istore_n 2, 1) := by decide +kernel
theorem dX8_drop_25 : decode cX8_drop 25 = .ok (.aload_n 0, 1) := by decide +kernel
theorem dX8_drop_26 : decode cX8_drop 26 = .ok (.getfield 57, 3) := by decide +kernel
theorem dX8_drop_29 : decode cX8_drop 29 = .ok (.iload_n 1, 1) := by decide +kernel
theorem dX8_drop_30 : decode cX8_drop 30 = .ok (.aconst_null, 1) := by decide +kernel
theorem dX8_drop_31 : decode cX8_drop 31 = .ok (.aastore, 1) := by decide +kernel
theorem dX8_drop_32 : decode cX8_drop 32 = .ok (.iload_n 2, 1) := by decide +kernel
theorem dX8_drop_33 : decode cX8_drop 33 = .ok (.ireturn, 1) := by decide +kernel
theorem dX8_rule_0 : decode cX8_rule 0 = .ok (.iload_n 2, 1) := by decide +kernel
theorem dX8_rule_1 : decode cX8_rule 1 = .ok (.ifCond .lt 8, 3) := by decide +kernel
theorem dX8_rule_4 : decode cX8_rule 4 = .ok (.iload_n 2, 1) := by decide +kernel
theorem dX8_rule_5 : decode cX8_rule 5 = .ok (.iconst 2, 1) := by decide +kernel
theorem dX8_rule_6 : decode cX8_rule 6 = .ok (.if_icmp .le 5, 3) := by decide +kernel
theorem dX8_rule_9 : decode cX8_rule 9 = .ok (.iconst (-1), 1) := by decide +kernel
theorem dX8_rule_10 : decode cX8_rule 10 = .ok (.ireturn, 1) := by decide +kernel
theorem dX8_rule_11 : decode cX8_rule 11 = .ok (.iload_n 1, 1) := by decide +kernel
theorem dX8_rule_12 : decode cX8_rule 12 = .ok (.invokestatic 118, 3) := by decide +kernel
theorem dX8_rule_15 : decode cX8_rule 15 = .ok (.ifCond .ne 6, 3) := by decide +kernel
theorem dX8_rule_18 : decode cX8_rule 18 = .ok (.bipush (-13), 2) := by decide +kernel
theorem dX8_rule_20 : decode cX8_rule 20 = .ok (.ireturn, 1) := by decide +kernel
theorem dX8_rule_21 : decode cX8_rule 21 = .ok (.aload_n 0, 1) := by decide +kernel
theorem dX8_rule_22 : decode cX8_rule 22 = .ok (.getfield 57, 3) := by decide +kernel
theorem dX8_rule_25 : decode cX8_rule 25 = .ok (.iload_n 1, 1) := by decide +kernel
theorem dX8_rule_26 : decode cX8_rule 26 = .ok (.aaload, 1) := by decide +kernel
theorem dX8_rule_27 : decode cX8_rule 27 = .ok (.astore_n 3, 1) := by decide +kernel
theorem dX8_rule_28 : decode cX8_rule 28 = .ok (.aload_n 3, 1) := by decide +kernel
theorem dX8_rule_29 : decode cX8_rule 29 = .ok (.ifnonnull 6, 3) := by decide +kernel
theorem dX8_rule_32 : decode cX8_rule 32 = .ok (.bipush (-11), 2) := by decide +kernel
theorem dX8_rule_34 : decode cX8_rule 34 = .ok (.ireturn, 1) := by decide +kernel
theorem dX8_rule_35 : decode cX8_rule 35 = .ok (.aload_n 3, 1) := by decide +kernel
theorem dX8_rule_36 : decode cX8_rule 36 = .ok (.getfield 124, 3) := by decide +kernel
theorem dX8_rule_39 : decode cX8_rule 39 = .ok (.iconst 5, 1) := by decide +kernel
theorem dX8_rule_40 : decode cX8_rule 40 = .ok (.if_icmp .eq 6, 3) := by decide +kernel
theorem dX8_rule_43 : decode cX8_rule 43 = .ok (.bipush (-12), 2) := by decide +kernel
theorem dX8_rule_45 : decode cX8_rule 45 = .ok (.ireturn, 1) := by decide +kernel
theorem dX8_rule_46 : decode cX8_rule 46 = .ok (.aload_n 3, 1) := by decide +kernel
theorem dX8_rule_47 : decode cX8_rule 47 = .ok (.getfield 127, 3) := by decide +kernel
theorem dX8_rule_50 : decode cX8_rule 50 = .ok (.istore 4, 2) := by decide +kernel
theorem dX8_rule_52 : decode cX8_rule 52 = .ok (.aload_n 3, 1) := by decide +kernel
theorem dX8_rule_53 : decode cX8_rule 53 = .ok (.iload_n 2, 1) := by decide +kernel
theorem dX8_rule_54 : decode cX8_rule 54 = .ok (.putfield 127, 3) := by decide +kernel
theorem dX8_rule_57 : decode cX8_rule 57 = .ok (.iload 4, 2) := by decide +kernel
theorem dX8_rule_59 : decode cX8_rule 59 = .ok (.ireturn, 1) := by decide +kernel
theorem dX8_run_0 : decode cX8_run 0 = .ok (.aload_n 0, 1) := by decide +kernel
theorem dX8_run_1 : decode cX8_run 1 = .ok (.getfield 71, 3) := by decide +kernel
theorem dX8_run_4 : decode cX8_run 4 = .ok (.astore_n 1, 1) := by decide +kernel
theorem dX8_run_5 : decode cX8_run 5 = .ok (.aload_n 0, 1) := by decide +kernel
theorem dX8_run_6 : decode cX8_run 6 = .ok (.getfield 74, 3) := by decide +kernel
theorem dX8_run_9 : decode cX8_run 9 = .ok (.astore_n 2, 1) := by decide +kernel
theorem dX8_run_10 : decode cX8_run 10 = .ok (.aload_n 1, 1) := by decide +kernel
theorem dX8_run_11 : decode cX8_run 11 = .ok (.aload_n 0, 1) := by decide +kernel
theorem dX8_run_12 : decode cX8_run 12 = .ok (.getfield 64, 3) := by decide +kernel
theorem dX8_run_15 : decode cX8_run 15 = .ok (.invokevirtual 130, 3) := by decide +kernel
theorem dX8_run_18 : decode cX8_run 18 = .ok (.iconst 0, 1) := by decide +kernel
theorem dX8_run_19 : decode cX8_run 19 = .ok (.istore_n 3, 1) := by decide +kernel
theorem dX8_run_20 : decode cX8_run 20 = .ok (.iload_n 3, 1) := by decide +kernel
theorem dX8_run_21 : decode cX8_run 21 = .ok (.bipush 8, 2) := by decide +kernel
theorem dX8_run_23 : decode cX8_run 23 = .ok (.if_icmp .ge 49, 3) := by decide +kernel
theorem dX8_run_26 : decode cX8_run 26 = .ok (.aload_n 0, 1) := by decide +kernel
theorem dX8_run_27 : decode cX8_run 27 = .ok (.getfield 57, 3) := by decide +kernel
theorem dX8_run_30 : decode cX8_run 30 = .ok (.iload_n 3, 1) := by decide +kernel
theorem dX8_run_31 : decode cX8_run 31 = .ok (.aaload, 1) := by decide +kernel
theorem dX8_run_32 : decode cX8_run 32 = .ok (.astore 4, 2) := by decide +kernel
theorem dX8_run_34 : decode cX8_run 34 = .ok (.aload 4, 2) := by decide +kernel
theorem dX8_run_36 : decode cX8_run 36 = .ok (.ifnull 30, 3) := by decide +kernel
theorem dX8_run_39 : decode cX8_run 39 = .ok (.aload 4, 2) := by decide +kernel
theorem dX8_run_41 : decode cX8_run 41 = .ok (.invokevirtual 134, 3) := by decide +kernel
theorem dX8_run_44 : decode cX8_run 44 = .ok (.aload_n 0, 1) := by decide +kernel
theorem dX8_run_45 : decode cX8_run 45 = .ok (.aload 4, 2) := by decide +kernel
theorem dX8_run_47 : decode cX8_run 47 = .ok (.aload_n 1, 1) := by decide +kernel
theorem dX8_run_48 : decode cX8_run 48 = .ok (.aload_n 2, 1) := by decide +kernel
theorem dX8_run_49 : decode cX8_run 49 = .ok (.invokevirtual 137, 3) := by decide +kernel
theorem dX8_run_52 : decode cX8_run 52 = .ok (.ifCond .ne 6, 3) := by decide +kernel
theorem dX8_run_55 : decode cX8_run 55 = .ok (.bipush (-3), 2) := by decide +kernel
theorem dX8_run_57 : decode cX8_run 57 = .ok (.ireturn, 1) := by decide +kernel
theorem dX8_run_58 : decode cX8_run 58 = .ok (.aload_n 2, 1) := by decide +kernel
theorem dX8_run_59 : decode cX8_run 59 = .ok (.astore 5, 2) := by decide +kernel
theorem dX8_run_61 : decode cX8_run 61 = .ok (.aload_n 1, 1) := by decide +kernel
theorem dX8_run_62 : decode cX8_run 62 = .ok (.astore_n 2, 1) := by decide +kernel
theorem dX8_run_63 : decode cX8_run 63 = .ok (.aload 5, 2) := by decide +kernel
theorem dX8_run_65 : decode cX8_run 65 = .ok (.astore_n 1, 1) := by decide +kernel
theorem dX8_run_66 : decode cX8_run 66 = .ok (.iinc 3 1, 3) := by decide +kernel
theorem dX8_run_69 : decode cX8_run 69 = .ok (.goto (-49), 3) := by decide +kernel
theorem dX8_run_72 : decode cX8_run 72 = .ok (.aload_n 0, 1) := by decide +kernel
theorem dX8_run_73 : decode cX8_run 73 = .ok (.aload_n 0, 1) := by decide +kernel
theorem dX8_run_74 : decode cX8_run 74 = .ok (.getfield 68, 3) := by decide +kernel
theorem dX8_run_77 : decode cX8_run 77 = .ok (.putfield 71, 3) := by decide +kernel
theorem dX8_run_80 : decode cX8_run 80 = .ok (.aload_n 0, 1) := by decide +kernel
theorem dX8_run_81 : decode cX8_run 81 = .ok (.aload_n 2, 1) := by decide +kernel
theorem dX8_run_82 : decode cX8_run 82 = .ok (.putfield 74, 3) := by decide +kernel
theorem dX8_run_85 : decode cX8_run 85 = .ok (.aload_n 0, 1) := by decide +kernel
theorem dX8_run_86 : decode cX8_run 86 = .ok (.aload_n 1, 1) := by decide +kernel
theorem dX8_run_87 : decode cX8_run 87 = .ok (.putfield 68, 3) := by decide +kernel
theorem dX8_run_90 : decode cX8_run 90 = .ok (.aload_n 0, 1) := by decide +kernel
theorem dX8_run_91 : decode cX8_run 91 = .ok (.invokevirtual 141, 3) := by decide +kernel
theorem dX8_run_94 : decode cX8_run 94 = .ok (.aload_n 0, 1) := by decide +kernel
theorem dX8_run_95 : decode cX8_run 95 = .ok (.getfield 68, 3) := by decide +kernel
theorem dX8_run_98 : decode cX8_run 98 = .ok (.invokevirtual 85, 3) := by decide +kernel
theorem dX8_run_101 : decode cX8_run 101 = .ok (.ireturn, 1) := by decide +kernel
theorem dX8_sign_0 : decode cX8_sign 0 = .ok (.aload_n 0, 1) := by decide +kernel
theorem dX8_sign_1 : decode cX8_sign 1 = .ok (.getfield 68, 3) := by decide +kernel
theorem dX8_sign_4 : decode cX8_sign 4 = .ok (.iload_n 1, 1) := by decide +kernel
theorem dX8_sign_5 : decode cX8_sign 5 = .ok (.invokevirtual 144, 3) := by decide +kernel
theorem dX8_sign_8 : decode cX8_sign 8 = .ok (.ifCond .eq 14, 3) := by decide +kernel
theorem dX8_sign_11 : decode cX8_sign 11 = .ok (.aload_n 0, 1) := by decide +kernel
theorem dX8_sign_12 : decode cX8_sign 12 = .ok (.getfield 68, 3) := by decide +kernel
theorem dX8_sign_15 : decode cX8_sign 15 = .ok (.iload_n 1, 1) := by decide +kernel
theorem dX8_sign_16 : decode cX8_sign 16 = .ok (.invokevirtual 147, 3) := by decide +kernel
theorem dX8_sign_19 : decode cX8_sign 19 = .ok (.goto 5, 3) := by decide +kernel
theorem dX8_sign_22 : decode cX8_sign 22 = .ok (.bipush (-13), 2) := by decide +kernel
theorem dX8_sign_24 : decode cX8_sign 24 = .ok (.ireturn, 1) := by decide +kernel
theorem dX8_place_0 : decode cX8_place 0 = .ok (.aload_n 0, 1) := by decide +kernel
theorem dX8_place_1 : decode cX8_place 1 = .ok (.getfield 68, 3) := by decide +kernel
theorem dX8_place_4 : decode cX8_place 4 = .ok (.iload_n 1, 1) := by decide +kernel
theorem dX8_place_5 : decode cX8_place 5 = .ok (.invokevirtual 144, 3) := by decide +kernel
theorem dX8_place_8 : decode cX8_place 8 = .ok (.ifCond .ne 6, 3) := by decide +kernel
theorem dX8_place_11 : decode cX8_place 11 = .ok (.bipush (-13), 2) := by decide +kernel
theorem dX8_place_13 : decode cX8_place 13 = .ok (.ireturn, 1) := by decide +kernel
theorem dX8_place_14 : decode cX8_place 14 = .ok (.iload_n 2, 1) := by decide +kernel
theorem dX8_place_15 : decode cX8_place 15 = .ok (.ifCond .eq 14, 3) := by decide +kernel
theorem dX8_place_18 : decode cX8_place 18 = .ok (.aload_n 0, 1) := by decide +kernel
theorem dX8_place_19 : decode cX8_place 19 = .ok (.getfield 68, 3) := by decide +kernel
theorem dX8_place_22 : decode cX8_place 22 = .ok (.iload_n 1, 1) := by decide +kernel
theorem dX8_place_23 : decode cX8_place 23 = .ok (.invokevirtual 151, 3) := by decide +kernel
theorem dX8_place_26 : decode cX8_place 26 = .ok (.goto 11, 3) := by decide +kernel
theorem dX8_place_29 : decode cX8_place 29 = .ok (.aload_n 0, 1) := by decide +kernel
theorem dX8_place_30 : decode cX8_place 30 = .ok (.getfield 68, 3) := by decide +kernel
theorem dX8_place_33 : decode cX8_place 33 = .ok (.iload_n 1, 1) := by decide +kernel
theorem dX8_place_34 : decode cX8_place 34 = .ok (.invokevirtual 154, 3) := by decide +kernel
theorem dX8_place_37 : decode cX8_place 37 = .ok (.ireturn, 1) := by decide +kernel
theorem dX8_unitAt_0 : decode cX8_unitAt 0 = .ok (.iload_n 1, 1) := by decide +kernel
theorem dX8_unitAt_1 : decode cX8_unitAt 1 = .ok (.ifCond .ge 6, 3) := by decide +kernel
theorem dX8_unitAt_4 : decode cX8_unitAt 4 = .ok (.bipush (-13), 2) := by decide +kernel
theorem dX8_unitAt_6 : decode cX8_unitAt 6 = .ok (.ireturn, 1) := by decide +kernel
theorem dX8_unitAt_7 : decode cX8_unitAt 7 = .ok (.iconst 0, 1) := by decide +kernel
theorem dX8_unitAt_8 : decode cX8_unitAt 8 = .ok (.istore_n 2, 1) := by decide +kernel
theorem dX8_unitAt_9 : decode cX8_unitAt 9 = .ok (.iconst 0, 1) := by decide +kernel
theorem dX8_unitAt_10 : decode cX8_unitAt 10 = .ok (.istore_n 3, 1) := by decide +kernel
theorem dX8_unitAt_11 : decode cX8_unitAt 11 = .ok (.iload_n 3, 1) := by decide +kernel
theorem dX8_unitAt_12 : decode cX8_unitAt 12 = .ok (.aload_n 0, 1) := by decide +kernel
theorem dX8_unitAt_13 : decode cX8_unitAt 13 = .ok (.getfield 68, 3) := by decide +kernel
theorem dX8_unitAt_16 : decode cX8_unitAt 16 = .ok (.invokevirtual 85, 3) := by decide +kernel
theorem dX8_unitAt_19 : decode cX8_unitAt 19 = .ok (.if_icmp .ge 48, 3) := by decide +kernel
theorem dX8_unitAt_22 : decode cX8_unitAt 22 = .ok (.aload_n 0, 1) := by decide +kernel
theorem dX8_unitAt_23 : decode cX8_unitAt 23 = .ok (.getfield 68, 3) := by decide +kernel
theorem dX8_unitAt_26 : decode cX8_unitAt 26 = .ok (.iload_n 3, 1) := by decide +kernel
theorem dX8_unitAt_27 : decode cX8_unitAt 27 = .ok (.invokevirtual 147, 3) := by decide +kernel
theorem dX8_unitAt_30 : decode cX8_unitAt 30 = .ok (.istore 4, 2) := by decide +kernel
theorem dX8_unitAt_32 : decode cX8_unitAt 32 = .ok (.iload 4, 2) := by decide +kernel
theorem dX8_unitAt_34 : decode cX8_unitAt 34 = .ok (.invokestatic 157, 3) := by decide +kernel
theorem dX8_unitAt_37 : decode cX8_unitAt 37 = .ok (.istore 5, 2) := by decide +kernel
theorem dX8_unitAt_39 : decode cX8_unitAt 39 = .ok (.iload_n 1, 1) := by decide +kernel
theorem dX8_unitAt_40 : decode cX8_unitAt 40 = .ok (.iload_n 2, 1) := by decide +kernel
theorem dX8_unitAt_41 : decode cX8_unitAt 41 = .ok (.iload 5, 2) := by decide +kernel
theorem dX8_unitAt_43 : decode cX8_unitAt 43 = .ok (.iadd, 1) := by decide +kernel
theorem dX8_unitAt_44 : decode cX8_unitAt 44 = .ok (.if_icmp .ge 12, 3) := by decide +kernel
theorem dX8_unitAt_47 : decode cX8_unitAt 47 = .ok (.iload 4, 2) := by decide +kernel
theorem dX8_unitAt_49 : decode cX8_unitAt 49 = .ok (.iload_n 1, 1) := by decide +kernel
theorem dX8_unitAt_50 : decode cX8_unitAt 50 = .ok (.iload_n 2, 1) := by decide +kernel
theorem dX8_unitAt_51 : decode cX8_unitAt 51 = .ok (.isub, 1) := by decide +kernel
theorem dX8_unitAt_52 : decode cX8_unitAt 52 = .ok (.invokestatic 160, 3) := by decide +kernel
theorem dX8_unitAt_55 : decode cX8_unitAt 55 = .ok (.ireturn, 1) := by decide +kernel
theorem dX8_unitAt_56 : decode cX8_unitAt 56 = .ok (.iload_n 2, 1) := by decide +kernel
theorem dX8_unitAt_57 : decode cX8_unitAt 57 = .ok (.iload 5, 2) := by decide +kernel
theorem dX8_unitAt_59 : decode cX8_unitAt 59 = .ok (.iadd, 1) := by decide +kernel
theorem dX8_unitAt_60 : decode cX8_unitAt 60 = .ok (.istore_n 2, 1) := by decide +kernel
theorem dX8_unitAt_61 : decode cX8_unitAt 61 = .ok (.iinc 3 1, 3) := by decide +kernel
theorem dX8_unitAt_64 : decode cX8_unitAt 64 = .ok (.goto (-53), 3) := by decide +kernel
theorem dX8_unitAt_67 : decode cX8_unitAt 67 = .ok (.bipush (-13), 2) := by decide +kernel
theorem dX8_unitAt_69 : decode cX8_unitAt 69 = .ok (.ireturn, 1) := by decide +kernel
theorem dX8_units_0 : decode cX8_units 0 = .ok (.iconst 0, 1) := by decide +kernel
theorem dX8_units_1 : decode cX8_units 1 = .ok (.istore_n 1, 1) := by decide +kernel
theorem dX8_units_2 : decode cX8_units 2 = .ok (.iconst 0, 1) := by decide +kernel
theorem dX8_units_3 : decode cX8_units 3 = .ok (.istore_n 2, 1) := by decide +kernel
theorem dX8_units_4 : decode cX8_units 4 = .ok (.iload_n 2, 1) := by decide +kernel
theorem dX8_units_5 : decode cX8_units 5 = .ok (.aload_n 0, 1) := by decide +kernel
theorem dX8_units_6 : decode cX8_units 6 = .ok (.getfield 68, 3) := by decide +kernel
theorem dX8_units_9 : decode cX8_units 9 = .ok (.invokevirtual 85, 3) := by decide +kernel
theorem dX8_units_12 : decode cX8_units 12 = .ok (.if_icmp .ge 23, 3) := by decide +kernel
theorem dX8_units_15 : decode cX8_units 15 = .ok (.iload_n 1, 1) := by decide +kernel
theorem dX8_units_16 : decode cX8_units 16 = .ok (.aload_n 0, 1) := by decide +kernel
theorem dX8_units_17 : decode cX8_units 17 = .ok (.getfield 68, 3) := by decide +kernel
theorem dX8_units_20 : decode cX8_units 20 = .ok (.iload_n 2, 1) := by decide +kernel
theorem dX8_units_21 : decode cX8_units 21 = .ok (.invokevirtual 147, 3) := by decide +kernel
theorem dX8_units_24 : decode cX8_units 24 = .ok (.invokestatic 157, 3) := by decide +kernel
theorem dX8_units_27 : decode cX8_units 27 = .ok (.iadd, 1) := by decide +kernel
theorem dX8_units_28 : decode cX8_units 28 = .ok (.istore_n 1, 1) := by decide +kernel
theorem dX8_units_29 : decode cX8_units 29 = .ok (.iinc 2 1, 3) := by decide +kernel
theorem dX8_units_32 : decode cX8_units 32 = .ok (.goto (-28), 3) := by decide +kernel
theorem dX8_units_35 : decode cX8_units 35 = .ok (.iload_n 1, 1) := by decide +kernel
theorem dX8_units_36 : decode cX8_units 36 = .ok (.ireturn, 1) := by decide +kernel
theorem dX8_broken_0 : decode cX8_broken 0 = .ok (.aload_n 0, 1) := by decide +kernel
theorem dX8_broken_1 : decode cX8_broken 1 = .ok (.getfield 68, 3) := by decide +kernel
theorem dX8_broken_4 : decode cX8_broken 4 = .ok (.invokevirtual 85, 3) := by decide +kernel
theorem dX8_broken_7 : decode cX8_broken 7 = .ok (.istore_n 2, 1) := by decide +kernel
theorem dX8_broken_8 : decode cX8_broken 8 = .ok (.iload_n 1, 1) := by decide +kernel
theorem dX8_broken_9 : decode cX8_broken 9 = .ok (.ifCond .lt 8, 3) := by decide +kernel
theorem dX8_broken_12 : decode cX8_broken 12 = .ok (.iload_n 1, 1) := by decide +kernel
theorem dX8_broken_13 : decode cX8_broken 13 = .ok (.iload_n 2, 1) := by decide +kernel
theorem dX8_broken_14 : decode cX8_broken 14 = .ok (.if_icmp .le 6, 3) := by decide +kernel
theorem dX8_broken_17 : decode cX8_broken 17 = .ok (.bipush (-13), 2) := by decide +kernel
theorem dX8_broken_19 : decode cX8_broken 19 = .ok (.ireturn, 1) := by decide +kernel
theorem dX8_broken_20 : decode cX8_broken 20 = .ok (.iload_n 1, 1) := by decide +kernel
theorem dX8_broken_21 : decode cX8_broken 21 = .ok (.ifCond .eq 8, 3) := by decide +kernel
theorem dX8_broken_24 : decode cX8_broken 24 = .ok (.iload_n 1, 1) := by decide +kernel
theorem dX8_broken_25 : decode cX8_broken 25 = .ok (.iload_n 2, 1) := by decide +kernel
theorem dX8_broken_26 : decode cX8_broken 26 = .ok (.if_icmp .ne 5, 3) := by decide +kernel
theorem dX8_broken_29 : decode cX8_broken 29 = .ok (.iconst 1, 1) := by decide +kernel
theorem dX8_broken_30 : decode cX8_broken 30 = .ok (.ireturn, 1) := by decide +kernel
theorem dX8_broken_31 : decode cX8_broken 31 = .ok (.aload_n 0, 1) := by decide +kernel
theorem dX8_broken_32 : decode cX8_broken 32 = .ok (.getfield 68, 3) := by decide +kernel
theorem dX8_broken_35 : decode cX8_broken 35 = .ok (.iload_n 1, 1) := by decide +kernel
theorem dX8_broken_36 : decode cX8_broken 36 = .ok (.iconst 1, 1) := by decide +kernel
theorem dX8_broken_37 : decode cX8_broken 37 = .ok (.isub, 1) := by decide +kernel
theorem dX8_broken_38 : decode cX8_broken 38 = .ok (.invokevirtual 147, 3) := by decide +kernel
theorem dX8_broken_41 : decode cX8_broken 41 = .ok (.invokestatic 164, 3) := by decide +kernel
theorem dX8_broken_44 : decode cX8_broken 44 = .ok (.istore_n 3, 1) := by decide +kernel
theorem dX8_broken_45 : decode cX8_broken 45 = .ok (.aload_n 0, 1) := by decide +kernel
theorem dX8_broken_46 : decode cX8_broken 46 = .ok (.getfield 68, 3) := by decide +kernel
theorem dX8_broken_49 : decode cX8_broken 49 = .ok (.iload_n 1, 1) := by decide +kernel
theorem dX8_broken_50 : decode cX8_broken 50 = .ok (.invokevirtual 147, 3) := by decide +kernel
theorem dX8_broken_53 : decode cX8_broken 53 = .ok (.invokestatic 164, 3) := by decide +kernel
theorem dX8_broken_56 : decode cX8_broken 56 = .ok (.istore 4, 2) := by decide +kernel
theorem dX8_broken_58 : decode cX8_broken 58 = .ok (.iload_n 3, 1) := by decide +kernel
theorem dX8_broken_59 : decode cX8_broken 59 = .ok (.iload 4, 2) := by decide +kernel
theorem dX8_broken_61 : decode cX8_broken 61 = .ok (.if_icmp .ne 12, 3) := by decide +kernel
theorem dX8_broken_64 : decode cX8_broken 64 = .ok (.iload_n 3, 1) := by decide +kernel
theorem dX8_broken_65 : decode cX8_broken 65 = .ok (.ifCond .eq 8, 3) := by decide +kernel
theorem dX8_broken_68 : decode cX8_broken 68 = .ok (.iload_n 3, 1) := by decide +kernel
theorem dX8_broken_69 : decode cX8_broken 69 = .ok (.iconst 4, 1) := by decide +kernel
theorem dX8_broken_70 : decode cX8_broken 70 = .ok (.if_icmp .ne 7, 3) := by decide +kernel
theorem dX8_broken_73 : decode cX8_broken 73 = .ok (.iconst 1, 1) := by decide +kernel
theorem dX8_broken_74 : decode cX8_broken 74 = .ok (.goto 4, 3) := by decide +kernel
theorem dX8_broken_77 : decode cX8_broken 77 = .ok (.iconst 0, 1) := by decide +kernel
theorem dX8_broken_78 : decode cX8_broken 78 = .ok (.ireturn, 1) := by decide +kernel
theorem dX8_met_0 : decode cX8_met 0 = .ok (.iload_n 1, 1) := by decide +kernel
theorem dX8_met_1 : decode cX8_met 1 = .ok (.invokestatic 118, 3) := by decide +kernel
theorem dX8_met_4 : decode cX8_met 4 = .ok (.ifCond .ne 6, 3) := by decide +kernel
theorem dX8_met_7 : decode cX8_met 7 = .ok (.bipush (-13), 2) := by decide +kernel
theorem dX8_met_9 : decode cX8_met 9 = .ok (.ireturn, 1) := by decide +kernel
theorem dX8_met_10 : decode cX8_met 10 = .ok (.aload_n 0, 1) := by decide +kernel
theorem dX8_met_11 : decode cX8_met 11 = .ok (.getfield 57, 3) := by decide +kernel
theorem dX8_met_14 : decode cX8_met 14 = .ok (.iload_n 1, 1) := by decide +kernel
theorem dX8_met_15 : decode cX8_met 15 = .ok (.aaload, 1) := by decide +kernel
theorem dX8_met_16 : decode cX8_met 16 = .ok (.astore_n 2, 1) := by decide +kernel
theorem dX8_met_17 : decode cX8_met 17 = .ok (.aload_n 2, 1) := by decide +kernel
theorem dX8_met_18 : decode cX8_met 18 = .ok (.ifnull 10, 3) := by decide +kernel
theorem dX8_met_21 : decode cX8_met 21 = .ok (.aload_n 2, 1) := by decide +kernel
theorem dX8_met_22 : decode cX8_met 22 = .ok (.getfield 167, 3) := by decide +kernel
theorem dX8_met_25 : decode cX8_met 25 = .ok (.goto 5, 3) := by decide +kernel
theorem dX8_met_28 : decode cX8_met 28 = .ok (.bipush (-11), 2) := by decide +kernel
theorem dX8_met_30 : decode cX8_met 30 = .ok (.ireturn, 1) := by decide +kernel
theorem dX8_grown_0 : decode cX8_grown 0 = .ok (.iload_n 1, 1) := by decide +kernel
theorem dX8_grown_1 : decode cX8_grown 1 = .ok (.invokestatic 118, 3) := by decide +kernel
theorem dX8_grown_4 : decode cX8_grown 4 = .ok (.ifCond .ne 6, 3) := by decide +kernel
theorem dX8_grown_7 : decode cX8_grown 7 = .ok (.bipush (-13), 2) := by decide +kernel
theorem dX8_grown_9 : decode cX8_grown 9 = .ok (.ireturn, 1) := by decide +kernel
theorem dX8_grown_10 : decode cX8_grown 10 = .ok (.aload_n 0, 1) := by decide +kernel
theorem dX8_grown_11 : decode cX8_grown 11 = .ok (.getfield 57, 3) := by decide +kernel
theorem dX8_grown_14 : decode cX8_grown 14 = .ok (.iload_n 1, 1) := by decide +kernel
theorem dX8_grown_15 : decode cX8_grown 15 = .ok (.aaload, 1) := by decide +kernel
theorem dX8_grown_16 : decode cX8_grown 16 = .ok (.astore_n 2, 1) := by decide +kernel
theorem dX8_grown_17 : decode cX8_grown 17 = .ok (.aload_n 2, 1) := by decide +kernel
theorem dX8_grown_18 : decode cX8_grown 18 = .ok (.ifnonnull 6, 3) := by decide +kernel
theorem dX8_grown_21 : decode cX8_grown 21 = .ok (.bipush (-11), 2) := by decide +kernel
theorem dX8_grown_23 : decode cX8_grown 23 = .ok (.ireturn, 1) := by decide +kernel
theorem dX8_grown_24 : decode cX8_grown 24 = .ok (.aload_n 2, 1) := by decide +kernel
theorem dX8_grown_25 : decode cX8_grown 25 = .ok (.getfield 124, 3) := by decide +kernel
theorem dX8_grown_28 : decode cX8_grown 28 = .ok (.ifCond .ne 10, 3) := by decide +kernel
theorem dX8_grown_31 : decode cX8_grown 31 = .ok (.aload_n 2, 1) := by decide +kernel
theorem dX8_grown_32 : decode cX8_grown 32 = .ok (.getfield 170, 3) := by decide +kernel
theorem dX8_grown_35 : decode cX8_grown 35 = .ok (.goto 5, 3) := by decide +kernel
theorem dX8_grown_38 : decode cX8_grown 38 = .ok (.bipush (-12), 2) := by decide +kernel
theorem dX8_grown_40 : decode cX8_grown 40 = .ok (.ireturn, 1) := by decide +kernel
theorem dX8_table_0 : decode cX8_table 0 = .ok (.iload_n 1, 1) := by decide +kernel
theorem dX8_table_1 : decode cX8_table 1 = .ok (.ifCond .lt 16, 3) := by decide +kernel
theorem dX8_table_4 : decode cX8_table 4 = .ok (.iload_n 1, 1) := by decide +kernel
theorem dX8_table_5 : decode cX8_table 5 = .ok (.bipush 127, 2) := by decide +kernel
theorem dX8_table_7 : decode cX8_table 7 = .ok (.if_icmp .gt 10, 3) := by decide +kernel
theorem dX8_table_10 : decode cX8_table 10 = .ok (.iload_n 1, 1) := by decide +kernel
theorem dX8_table_11 : decode cX8_table 11 = .ok (.invokestatic 164, 3) := by decide +kernel
theorem dX8_table_14 : decode cX8_table 14 = .ok (.goto 5, 3) := by decide +kernel
theorem dX8_table_17 : decode cX8_table 17 = .ok (.bipush (-13), 2) := by decide +kernel
theorem dX8_table_19 : decode cX8_table 19 = .ok (.ireturn, 1) := by decide +kernel
theorem dX8_digit_0 : decode cX8_digit 0 = .ok (.aload_n 0, 1) := by decide +kernel
theorem dX8_digit_1 : decode cX8_digit 1 = .ok (.getfield 37, 3) := by decide +kernel
theorem dX8_digit_4 : decode cX8_digit 4 = .ok (.iload_n 1, 1) := by decide +kernel
theorem dX8_digit_5 : decode cX8_digit 5 = .ok (.invokevirtual 173, 3) := by decide +kernel
theorem dX8_digit_8 : decode cX8_digit 8 = .ok (.ireturn, 1) := by decide +kernel
theorem dX8_count_0 : decode cX8_count 0 = .ok (.iload_n 1, 1) := by decide +kernel
theorem dX8_count_1 : decode cX8_count 1 = .ok (.tableswitch 117 0 8 #[51, 56, 64, 72, 80, 88, 96, 104, 109], 51) := by decide +kernel
theorem dX8_count_52 : decode cX8_count 52 = .ok (.aload_n 0, 1) := by decide +kernel
theorem dX8_count_53 : decode cX8_count 53 = .ok (.getfield 13, 3) := by decide +kernel
theorem dX8_count_56 : decode cX8_count 56 = .ok (.ireturn, 1) := by decide +kernel
theorem dX8_count_57 : decode cX8_count 57 = .ok (.aload_n 0, 1) := by decide +kernel
theorem dX8_count_58 : decode cX8_count 58 = .ok (.getfield 64, 3) := by decide +kernel
theorem dX8_count_61 : decode cX8_count 61 = .ok (.invokevirtual 85, 3) := by decide +kernel
theorem dX8_count_64 : decode cX8_count 64 = .ok (.ireturn, 1) := by decide +kernel
theorem dX8_count_65 : decode cX8_count 65 = .ok (.aload_n 0, 1) := by decide +kernel
theorem dX8_count_66 : decode cX8_count 66 = .ok (.getfield 23, 3) := by decide +kernel
theorem dX8_count_69 : decode cX8_count 69 = .ok (.invokevirtual 105, 3) := by decide +kernel
theorem dX8_count_72 : decode cX8_count 72 = .ok (.ireturn, 1) := by decide +kernel
theorem dX8_count_73 : decode cX8_count 73 = .ok (.aload_n 0, 1) := by decide +kernel
theorem dX8_count_74 : decode cX8_count 74 = .ok (.getfield 30, 3) := by decide +kernel
theorem dX8_count_77 : decode cX8_count 77 = .ok (.invokevirtual 108, 3) := by decide +kernel
theorem dX8_count_80 : decode cX8_count 80 = .ok (.ireturn, 1) := by decide +kernel
theorem dX8_count_81 : decode cX8_count 81 = .ok (.aload_n 0, 1) := by decide +kernel
theorem dX8_count_82 : decode cX8_count 82 = .ok (.getfield 37, 3) := by decide +kernel
theorem dX8_count_85 : decode cX8_count 85 = .ok (.invokevirtual 113, 3) := by decide +kernel
theorem dX8_count_88 : decode cX8_count 88 = .ok (.ireturn, 1) := by decide +kernel
theorem dX8_count_89 : decode cX8_count 89 = .ok (.aload_n 0, 1) := by decide +kernel
theorem dX8_count_90 : decode cX8_count 90 = .ok (.getfield 44, 3) := by decide +kernel
theorem dX8_count_93 : decode cX8_count 93 = .ok (.invokevirtual 117, 3) := by decide +kernel
theorem dX8_count_96 : decode cX8_count 96 = .ok (.ireturn, 1) := by decide +kernel
theorem dX8_count_97 : decode cX8_count 97 = .ok (.aload_n 0, 1) := by decide +kernel
theorem dX8_count_98 : decode cX8_count 98 = .ok (.getfield 51, 3) := by decide +kernel
theorem dX8_count_101 : decode cX8_count 101 = .ok (.invokevirtual 93, 3) := by decide +kernel
theorem dX8_count_104 : decode cX8_count 104 = .ok (.ireturn, 1) := by decide +kernel
theorem dX8_count_105 : decode cX8_count 105 = .ok (.aload_n 0, 1) := by decide +kernel
theorem dX8_count_106 : decode cX8_count 106 = .ok (.invokevirtual 176, 3) := by decide +kernel
theorem dX8_count_109 : decode cX8_count 109 = .ok (.ireturn, 1) := by decide +kernel
theorem dX8_count_110 : decode cX8_count 110 = .ok (.aload_n 0, 1) := by decide +kernel
theorem dX8_count_111 : decode cX8_count 111 = .ok (.getfield 68, 3) := by decide +kernel
theorem dX8_count_114 : decode cX8_count 114 = .ok (.invokevirtual 85, 3) := by decide +kernel
theorem dX8_count_117 : decode cX8_count 117 = .ok (.ireturn, 1) := by decide +kernel
theorem dX8_count_118 : decode cX8_count 118 = .ok (.iconst (-1), 1) := by decide +kernel
theorem dX8_count_119 : decode cX8_count 119 = .ok (.ireturn, 1) := by decide +kernel
theorem dX8_isSign_0 : decode cX8_isSign 0 = .ok (.iload_n 0, 1) := by decide +kernel
theorem dX8_isSign_1 : decode cX8_isSign 1 = .ok (.ifCond .lt 13, 3) := by decide +kernel
theorem dX8_isSign_4 : decode cX8_isSign 4 = .ok (.iload_n 0, 1) := by decide +kernel
theorem dX8_isSign_5 : decode cX8_isSign 5 = .ok (.ldc 179, 2) := by decide +kernel
theorem dX8_isSign_7 : decode cX8_isSign 7 = .ok (.if_icmp .gt 7, 3) := by decide +kernel
theorem dX8_isSign_10 : decode cX8_isSign 10 = .ok (.iconst 1, 1) := by decide +kernel
theorem dX8_isSign_11 : decode cX8_isSign 11 = .ok (.goto 4, 3) := by decide +kernel
theorem dX8_isSign_14 : decode cX8_isSign 14 = .ok (.iconst 0, 1) := by decide +kernel
theorem dX8_isSign_15 : decode cX8_isSign 15 = .ok (.ireturn, 1) := by decide +kernel
theorem dX8_isSignOrNone_0 : decode cX8_isSignOrNone 0 = .ok (.iload_n 0, 1) := by decide +kernel
theorem dX8_isSignOrNone_1 : decode cX8_isSignOrNone 1 = .ok (.iconst (-1), 1) := by decide +kernel
theorem dX8_isSignOrNone_2 : decode cX8_isSignOrNone 2 = .ok (.if_icmp .eq 10, 3) := by decide +kernel
theorem dX8_isSignOrNone_5 : decode cX8_isSignOrNone 5 = .ok (.iload_n 0, 1) := by decide +kernel
theorem dX8_isSignOrNone_6 : decode cX8_isSignOrNone 6 = .ok (.invokestatic 94, 3) := by decide +kernel
theorem dX8_isSignOrNone_9 : decode cX8_isSignOrNone 9 = .ok (.ifCond .eq 7, 3) := by decide +kernel
theorem dX8_isSignOrNone_12 : decode cX8_isSignOrNone 12 = .ok (.iconst 1, 1) := by decide +kernel
theorem dX8_isSignOrNone_13 : decode cX8_isSignOrNone 13 = .ok (.goto 4, 3) := by decide +kernel
theorem dX8_isSignOrNone_16 : decode cX8_isSignOrNone 16 = .ok (.iconst 0, 1) := by decide +kernel
theorem dX8_isSignOrNone_17 : decode cX8_isSignOrNone 17 = .ok (.ireturn, 1) := by decide +kernel
theorem dX8_isFoldRow_0 : decode cX8_isFoldRow 0 = .ok (.iload_n 0, 1) := by decide +kernel
theorem dX8_isFoldRow_1 : decode cX8_isFoldRow 1 = .ok (.invokestatic 180, 3) := by decide +kernel
theorem dX8_isFoldRow_4 : decode cX8_isFoldRow 4 = .ok (.ifCond .eq 17, 3) := by decide +kernel
theorem dX8_isFoldRow_7 : decode cX8_isFoldRow 7 = .ok (.iload_n 1, 1) := by decide +kernel
theorem dX8_isFoldRow_8 : decode cX8_isFoldRow 8 = .ok (.invokestatic 180, 3) := by decide +kernel
theorem dX8_isFoldRow_11 : decode cX8_isFoldRow 11 = .ok (.ifCond .eq 10, 3) := by decide +kernel
theorem dX8_isFoldRow_14 : decode cX8_isFoldRow 14 = .ok (.iload_n 2, 1) := by decide +kernel
theorem dX8_isFoldRow_15 : decode cX8_isFoldRow 15 = .ok (.invokestatic 180, 3) := by decide +kernel
theorem dX8_isFoldRow_18 : decode cX8_isFoldRow 18 = .ok (.ifCond .ne 5, 3) := by decide +kernel
theorem dX8_isFoldRow_21 : decode cX8_isFoldRow 21 = .ok (.iconst 0, 1) := by decide +kernel
theorem dX8_isFoldRow_22 : decode cX8_isFoldRow 22 = .ok (.ireturn, 1) := by decide +kernel
theorem dX8_isFoldRow_23 : decode cX8_isFoldRow 23 = .ok (.iload_n 0, 1) := by decide +kernel
theorem dX8_isFoldRow_24 : decode cX8_isFoldRow 24 = .ok (.iconst (-1), 1) := by decide +kernel
theorem dX8_isFoldRow_25 : decode cX8_isFoldRow 25 = .ok (.if_icmp .ne 10, 3) := by decide +kernel
theorem dX8_isFoldRow_28 : decode cX8_isFoldRow 28 = .ok (.iload_n 1, 1) := by decide +kernel
theorem dX8_isFoldRow_29 : decode cX8_isFoldRow 29 = .ok (.iconst (-1), 1) := by decide +kernel
theorem dX8_isFoldRow_30 : decode cX8_isFoldRow 30 = .ok (.if_icmp .eq 5, 3) := by decide +kernel
theorem dX8_isFoldRow_33 : decode cX8_isFoldRow 33 = .ok (.iconst 0, 1) := by decide +kernel
theorem dX8_isFoldRow_34 : decode cX8_isFoldRow 34 = .ok (.ireturn, 1) := by decide +kernel
theorem dX8_isFoldRow_35 : decode cX8_isFoldRow 35 = .ok (.iload_n 1, 1) := by decide +kernel
theorem dX8_isFoldRow_36 : decode cX8_isFoldRow 36 = .ok (.iconst (-1), 1) := by decide +kernel
theorem dX8_isFoldRow_37 : decode cX8_isFoldRow 37 = .ok (.if_icmp .ne 8, 3) := by decide +kernel
theorem dX8_isFoldRow_40 : decode cX8_isFoldRow 40 = .ok (.iload_n 2, 1) := by decide +kernel
theorem dX8_isFoldRow_41 : decode cX8_isFoldRow 41 = .ok (.iconst (-1), 1) := by decide +kernel
theorem dX8_isFoldRow_42 : decode cX8_isFoldRow 42 = .ok (.if_icmp .ne 7, 3) := by decide +kernel
theorem dX8_isFoldRow_45 : decode cX8_isFoldRow 45 = .ok (.iconst 1, 1) := by decide +kernel
theorem dX8_isFoldRow_46 : decode cX8_isFoldRow 46 = .ok (.goto 4, 3) := by decide +kernel
theorem dX8_isFoldRow_49 : decode cX8_isFoldRow 49 = .ok (.iconst 0, 1) := by decide +kernel
theorem dX8_isFoldRow_50 : decode cX8_isFoldRow 50 = .ok (.ireturn, 1) := by decide +kernel
theorem dX8_isPlace_0 : decode cX8_isPlace 0 = .ok (.iload_n 0, 1) := by decide +kernel
theorem dX8_isPlace_1 : decode cX8_isPlace 1 = .ok (.ifCond .lt 13, 3) := by decide +kernel
theorem dX8_isPlace_4 : decode cX8_isPlace 4 = .ok (.iload_n 0, 1) := by decide +kernel
theorem dX8_isPlace_5 : decode cX8_isPlace 5 = .ok (.bipush 8, 2) := by decide +kernel
theorem dX8_isPlace_7 : decode cX8_isPlace 7 = .ok (.if_icmp .ge 7, 3) := by decide +kernel
theorem dX8_isPlace_10 : decode cX8_isPlace 10 = .ok (.iconst 1, 1) := by decide +kernel
theorem dX8_isPlace_11 : decode cX8_isPlace 11 = .ok (.goto 4, 3) := by decide +kernel
theorem dX8_isPlace_14 : decode cX8_isPlace 14 = .ok (.iconst 0, 1) := by decide +kernel
theorem dX8_isPlace_15 : decode cX8_isPlace 15 = .ok (.ireturn, 1) := by decide +kernel
theorem dX8_isHigh_0 : decode cX8_isHigh 0 = .ok (.iload_n 0, 1) := by decide +kernel
theorem dX8_isHigh_1 : decode cX8_isHigh 1 = .ok (.ldc 183, 2) := by decide +kernel
theorem dX8_isHigh_3 : decode cX8_isHigh 3 = .ok (.if_icmp .lt 13, 3) := by decide +kernel
theorem dX8_isHigh_6 : decode cX8_isHigh 6 = .ok (.iload_n 0, 1) := by decide +kernel
theorem dX8_isHigh_7 : decode cX8_isHigh 7 = .ok (.ldc 184, 2) := by decide +kernel
theorem dX8_isHigh_9 : decode cX8_isHigh 9 = .ok (.if_icmp .ge 7, 3) := by decide +kernel
theorem dX8_isHigh_12 : decode cX8_isHigh 12 = .ok (.iconst 1, 1) := by decide +kernel
theorem dX8_isHigh_13 : decode cX8_isHigh 13 = .ok (.goto 4, 3) := by decide +kernel
theorem dX8_isHigh_16 : decode cX8_isHigh 16 = .ok (.iconst 0, 1) := by decide +kernel
theorem dX8_isHigh_17 : decode cX8_isHigh 17 = .ok (.ireturn, 1) := by decide +kernel
theorem dX8_isLow_0 : decode cX8_isLow 0 = .ok (.iload_n 0, 1) := by decide +kernel
theorem dX8_isLow_1 : decode cX8_isLow 1 = .ok (.ldc 184, 2) := by decide +kernel
theorem dX8_isLow_3 : decode cX8_isLow 3 = .ok (.if_icmp .lt 13, 3) := by decide +kernel
theorem dX8_isLow_6 : decode cX8_isLow 6 = .ok (.iload_n 0, 1) := by decide +kernel
theorem dX8_isLow_7 : decode cX8_isLow 7 = .ok (.ldc 185, 2) := by decide +kernel
theorem dX8_isLow_9 : decode cX8_isLow 9 = .ok (.if_icmp .gt 7, 3) := by decide +kernel
theorem dX8_isLow_12 : decode cX8_isLow 12 = .ok (.iconst 1, 1) := by decide +kernel
theorem dX8_isLow_13 : decode cX8_isLow 13 = .ok (.goto 4, 3) := by decide +kernel
theorem dX8_isLow_16 : decode cX8_isLow 16 = .ok (.iconst 0, 1) := by decide +kernel
theorem dX8_isLow_17 : decode cX8_isLow 17 = .ok (.ireturn, 1) := by decide +kernel
theorem dX8_unitsOf_0 : decode cX8_unitsOf 0 = .ok (.iload_n 0, 1) := by decide +kernel
theorem dX8_unitsOf_1 : decode cX8_unitsOf 1 = .ok (.ldc 186, 2) := by decide +kernel
theorem dX8_unitsOf_3 : decode cX8_unitsOf 3 = .ok (.if_icmp .lt 7, 3) := by decide +kernel
theorem dX8_unitsOf_6 : decode cX8_unitsOf 6 = .ok (.iconst 2, 1) := by decide +kernel
theorem dX8_unitsOf_7 : decode cX8_unitsOf 7 = .ok (.goto 4, 3) := by decide +kernel
theorem dX8_unitsOf_10 : decode cX8_unitsOf 10 = .ok (.iconst 1, 1) := by decide +kernel
theorem dX8_unitsOf_11 : decode cX8_unitsOf 11 = .ok (.ireturn, 1) := by decide +kernel
theorem dX8_unitOf_0 : decode cX8_unitOf 0 = .ok (.iload_n 0, 1) := by decide +kernel
theorem dX8_unitOf_1 : decode cX8_unitOf 1 = .ok (.ldc 186, 2) := by decide +kernel
theorem dX8_unitOf_3 : decode cX8_unitOf 3 = .ok (.if_icmp .ge 5, 3) := by decide +kernel
theorem dX8_unitOf_6 : decode cX8_unitOf 6 = .ok (.iload_n 0, 1) := by decide +kernel
theorem dX8_unitOf_7 : decode cX8_unitOf 7 = .ok (.ireturn, 1) := by decide +kernel
theorem dX8_unitOf_8 : decode cX8_unitOf 8 = .ok (.iload_n 0, 1) := by decide +kernel
theorem dX8_unitOf_9 : decode cX8_unitOf 9 = .ok (.ldc 186, 2) := by decide +kernel
theorem dX8_unitOf_11 : decode cX8_unitOf 11 = .ok (.isub, 1) := by decide +kernel
theorem dX8_unitOf_12 : decode cX8_unitOf 12 = .ok (.istore_n 2, 1) := by decide +kernel
theorem dX8_unitOf_13 : decode cX8_unitOf 13 = .ok (.iload_n 1, 1) := by decide +kernel
theorem dX8_unitOf_14 : decode cX8_unitOf 14 = .ok (.ifCond .ne 13, 3) := by decide +kernel
theorem dX8_unitOf_17 : decode cX8_unitOf 17 = .ok (.ldc 183, 2) := by decide +kernel
theorem dX8_unitOf_19 : decode cX8_unitOf 19 = .ok (.iload_n 2, 1) := by decide +kernel
theorem dX8_unitOf_20 : decode cX8_unitOf 20 = .ok (.bipush 10, 2) := by decide +kernel
theorem dX8_unitOf_22 : decode cX8_unitOf 22 = .ok (.ishr, 1) := by decide +kernel
theorem dX8_unitOf_23 : decode cX8_unitOf 23 = .ok (.iadd, 1) := by decide +kernel
theorem dX8_unitOf_24 : decode cX8_unitOf 24 = .ok (.goto 11, 3) := by decide +kernel
theorem dX8_unitOf_27 : decode cX8_unitOf 27 = .ok (.ldc 184, 2) := by decide +kernel
theorem dX8_unitOf_29 : decode cX8_unitOf 29 = .ok (.iload_n 2, 1) := by decide +kernel
theorem dX8_unitOf_30 : decode cX8_unitOf 30 = .ok (.sipush 1023, 3) := by decide +kernel
theorem dX8_unitOf_33 : decode cX8_unitOf 33 = .ok (.iand, 1) := by decide +kernel
theorem dX8_unitOf_34 : decode cX8_unitOf 34 = .ok (.iadd, 1) := by decide +kernel
theorem dX8_unitOf_35 : decode cX8_unitOf 35 = .ok (.ireturn, 1) := by decide +kernel
theorem dX8_classOf_0 : decode cX8_classOf 0 = .ok (.iload_n 0, 1) := by decide +kernel
theorem dX8_classOf_1 : decode cX8_classOf 1 = .ok (.bipush 127, 2) := by decide +kernel
theorem dX8_classOf_3 : decode cX8_classOf 3 = .ok (.if_icmp .le 5, 3) := by decide +kernel
theorem dX8_classOf_6 : decode cX8_classOf 6 = .ok (.iconst 1, 1) := by decide +kernel
theorem dX8_classOf_7 : decode cX8_classOf 7 = .ok (.ireturn, 1) := by decide +kernel
theorem dX8_classOf_8 : decode cX8_classOf 8 = .ok (.iload_n 0, 1) := by decide +kernel
theorem dX8_classOf_9 : decode cX8_classOf 9 = .ok (.bipush 65, 2) := by decide +kernel
theorem dX8_classOf_11 : decode cX8_classOf 11 = .ok (.if_icmp .lt 9, 3) := by decide +kernel
theorem dX8_classOf_14 : decode cX8_classOf 14 = .ok (.iload_n 0, 1) := by decide +kernel
theorem dX8_classOf_15 : decode cX8_classOf 15 = .ok (.bipush 90, 2) := by decide +kernel
theorem dX8_classOf_17 : decode cX8_classOf 17 = .ok (.if_icmp .le 15, 3) := by decide +kernel
theorem dX8_classOf_20 : decode cX8_classOf 20 = .ok (.iload_n 0, 1) := by decide +kernel
theorem dX8_classOf_21 : decode cX8_classOf 21 = .ok (.bipush 97, 2) := by decide +kernel
theorem dX8_classOf_23 : decode cX8_classOf 23 = .ok (.if_icmp .lt 11, 3) := by decide +kernel
theorem dX8_classOf_26 : decode cX8_classOf 26 = .ok (.iload_n 0, 1) := by decide +kernel
theorem dX8_classOf_27 : decode cX8_classOf 27 = .ok (.bipush 122, 2) := by decide +kernel
theorem dX8_classOf_29 : decode cX8_classOf 29 = .ok (.if_icmp .gt 5, 3) := by decide +kernel
theorem dX8_classOf_32 : decode cX8_classOf 32 = .ok (.iconst 1, 1) := by decide +kernel
theorem dX8_classOf_33 : decode cX8_classOf 33 = .ok (.ireturn, 1) := by decide +kernel
theorem dX8_classOf_34 : decode cX8_classOf 34 = .ok (.iload_n 0, 1) := by decide +kernel
theorem dX8_classOf_35 : decode cX8_classOf 35 = .ok (.bipush 48, 2) := by decide +kernel
theorem dX8_classOf_37 : decode cX8_classOf 37 = .ok (.if_icmp .lt 11, 3) := by decide +kernel
theorem dX8_classOf_40 : decode cX8_classOf 40 = .ok (.iload_n 0, 1) := by decide +kernel
theorem dX8_classOf_41 : decode cX8_classOf 41 = .ok (.bipush 57, 2) := by decide +kernel
theorem dX8_classOf_43 : decode cX8_classOf 43 = .ok (.if_icmp .gt 5, 3) := by decide +kernel
theorem dX8_classOf_46 : decode cX8_classOf 46 = .ok (.iconst 2, 1) := by decide +kernel
theorem dX8_classOf_47 : decode cX8_classOf 47 = .ok (.ireturn, 1) := by decide +kernel
theorem dX8_classOf_48 : decode cX8_classOf 48 = .ok (.iload_n 0, 1) := by decide +kernel
theorem dX8_classOf_49 : decode cX8_classOf 49 = .ok (.bipush 9, 2) := by decide +kernel
theorem dX8_classOf_51 : decode cX8_classOf 51 = .ok (.if_icmp .eq 21, 3) := by decide +kernel
theorem dX8_classOf_54 : decode cX8_classOf 54 = .ok (.iload_n 0, 1) := by decide +kernel
theorem dX8_classOf_55 : decode cX8_classOf 55 = .ok (.bipush 10, 2) := by decide +kernel
theorem dX8_classOf_57 : decode cX8_classOf 57 = .ok (.if_icmp .eq 15, 3) := by decide +kernel
theorem dX8_classOf_60 : decode cX8_classOf 60 = .ok (.iload_n 0, 1) := by decide +kernel
theorem dX8_classOf_61 : decode cX8_classOf 61 = .ok (.bipush 13, 2) := by decide +kernel
theorem dX8_classOf_63 : decode cX8_classOf 63 = .ok (.if_icmp .eq 9, 3) := by decide +kernel
theorem dX8_classOf_66 : decode cX8_classOf 66 = .ok (.iload_n 0, 1) := by decide +kernel
theorem dX8_classOf_67 : decode cX8_classOf 67 = .ok (.bipush 32, 2) := by decide +kernel
theorem dX8_classOf_69 : decode cX8_classOf 69 = .ok (.if_icmp .ne 5, 3) := by decide +kernel
theorem dX8_classOf_72 : decode cX8_classOf 72 = .ok (.iconst 3, 1) := by decide +kernel
theorem dX8_classOf_73 : decode cX8_classOf 73 = .ok (.ireturn, 1) := by decide +kernel
theorem dX8_classOf_74 : decode cX8_classOf 74 = .ok (.iload_n 0, 1) := by decide +kernel
theorem dX8_classOf_75 : decode cX8_classOf 75 = .ok (.bipush 33, 2) := by decide +kernel
theorem dX8_classOf_77 : decode cX8_classOf 77 = .ok (.if_icmp .lt 13, 3) := by decide +kernel
theorem dX8_classOf_80 : decode cX8_classOf 80 = .ok (.iload_n 0, 1) := by decide +kernel
theorem dX8_classOf_81 : decode cX8_classOf 81 = .ok (.bipush 126, 2) := by decide +kernel
theorem dX8_classOf_83 : decode cX8_classOf 83 = .ok (.if_icmp .gt 7, 3) := by decide +kernel
theorem dX8_classOf_86 : decode cX8_classOf 86 = .ok (.iconst 4, 1) := by decide +kernel
theorem dX8_classOf_87 : decode cX8_classOf 87 = .ok (.goto 4, 3) := by decide +kernel
theorem dX8_classOf_90 : decode cX8_classOf 90 = .ok (.iconst 0, 1) := by decide +kernel
theorem dX8_classOf_91 : decode cX8_classOf 91 = .ok (.ireturn, 1) := by decide +kernel
theorem dX8_narrowed_0 : decode cX8_narrowed 0 = .ok (.iload_n 0, 1) := by decide +kernel
theorem dX8_narrowed_1 : decode cX8_narrowed 1 = .ok (.ldc 187, 2) := by decide +kernel
theorem dX8_narrowed_3 : decode cX8_narrowed 3 = .ok (.if_icmp .lt 14, 3) := by decide +kernel
theorem dX8_narrowed_6 : decode cX8_narrowed 6 = .ok (.iload_n 0, 1) := by decide +kernel
theorem dX8_narrowed_7 : decode cX8_narrowed 7 = .ok (.ldc 188, 2) := by decide +kernel
theorem dX8_narrowed_9 : decode cX8_narrowed 9 = .ok (.if_icmp .gt 8, 3) := by decide +kernel
theorem dX8_narrowed_12 : decode cX8_narrowed 12 = .ok (.iload_n 0, 1) := by decide +kernel
theorem dX8_narrowed_13 : decode cX8_narrowed 13 = .ok (.ldc 189, 2) := by decide +kernel
theorem dX8_narrowed_15 : decode cX8_narrowed 15 = .ok (.isub, 1) := by decide +kernel
theorem dX8_narrowed_16 : decode cX8_narrowed 16 = .ok (.ireturn, 1) := by decide +kernel
theorem dX8_narrowed_17 : decode cX8_narrowed 17 = .ok (.iload_n 0, 1) := by decide +kernel
theorem dX8_narrowed_18 : decode cX8_narrowed 18 = .ok (.sipush 12288, 3) := by decide +kernel
theorem dX8_narrowed_21 : decode cX8_narrowed 21 = .ok (.if_icmp .ne 8, 3) := by decide +kernel
theorem dX8_narrowed_24 : decode cX8_narrowed 24 = .ok (.bipush 32, 2) := by decide +kernel
theorem dX8_narrowed_26 : decode cX8_narrowed 26 = .ok (.goto 4, 3) := by decide +kernel
theorem dX8_narrowed_29 : decode cX8_narrowed 29 = .ok (.iconst (-1), 1) := by decide +kernel
theorem dX8_narrowed_30 : decode cX8_narrowed 30 = .ok (.ireturn, 1) := by decide +kernel
theorem dX8_emptyDraft_0 : decode cX8_emptyDraft 0 = .ok (.aload_n 0, 1) := by decide +kernel
theorem dX8_emptyDraft_1 : decode cX8_emptyDraft 1 = .ok (.iconst 0, 1) := by decide +kernel
theorem dX8_emptyDraft_2 : decode cX8_emptyDraft 2 = .ok (.putfield 13, 3) := by decide +kernel
theorem dX8_emptyDraft_5 : decode cX8_emptyDraft 5 = .ok (.aload_n 0, 1) := by decide +kernel
theorem dX8_emptyDraft_6 : decode cX8_emptyDraft 6 = .ok (.iconst 0, 1) := by decide +kernel
theorem dX8_emptyDraft_7 : decode cX8_emptyDraft 7 = .ok (.putfield 17, 3) := by decide +kernel
theorem dX8_emptyDraft_10 : decode cX8_emptyDraft 10 = .ok (.return_, 1) := by decide +kernel
theorem dX8_readSigns_0 : decode cX8_readSigns 0 = .ok (.aload_n 3, 1) := by decide +kernel
theorem dX8_readSigns_1 : decode cX8_readSigns 1 = .ok (.invokevirtual 190, 3) := by decide +kernel
theorem dX8_readSigns_4 : decode cX8_readSigns 4 = .ok (.iload_n 1, 1) := by decide +kernel
theorem dX8_readSigns_5 : decode cX8_readSigns 5 = .ok (.istore 4, 2) := by decide +kernel
theorem dX8_readSigns_7 : decode cX8_readSigns 7 = .ok (.iload 4, 2) := by decide +kernel
theorem dX8_readSigns_9 : decode cX8_readSigns 9 = .ok (.ifCond .lt 111, 3) := by decide +kernel
theorem dX8_readSigns_12 : decode cX8_readSigns 12 = .ok (.iload 4, 2) := by decide +kernel
theorem dX8_readSigns_14 : decode cX8_readSigns 14 = .ok (.iload_n 2, 1) := by decide +kernel
theorem dX8_readSigns_15 : decode cX8_readSigns 15 = .ok (.if_icmp .ge 105, 3) := by decide +kernel
theorem dX8_readSigns_18 : decode cX8_readSigns 18 = .ok (.iload 4, 2) := by decide +kernel
theorem dX8_readSigns_20 : decode cX8_readSigns 20 = .ok (.bipush 100, 2) := by decide +kernel
theorem dX8_readSigns_22 : decode cX8_readSigns 22 = .ok (.if_icmp .ge 98, 3) := by decide +kernel
theorem dX8_readSigns_25 : decode cX8_readSigns 25 = .ok (.aload_n 0, 1) := by decide +kernel
theorem dX8_readSigns_26 : decode cX8_readSigns 26 = .ok (.getfield 9, 3) := by decide +kernel
theorem dX8_readSigns_29 : decode cX8_readSigns 29 = .ok (.iload 4, 2) := by decide +kernel
theorem dX8_readSigns_31 : decode cX8_readSigns 31 = .ok (.iaload, 1) := by decide +kernel
theorem dX8_readSigns_32 : decode cX8_readSigns 32 = .ok (.istore 5, 2) := by decide +kernel
theorem dX8_readSigns_34 : decode cX8_readSigns 34 = .ok (.iload 4, 2) := by decide +kernel
theorem dX8_readSigns_36 : decode cX8_readSigns 36 = .ok (.iconst 1, 1) := by decide +kernel
theorem dX8_readSigns_37 : decode cX8_readSigns 37 = .ok (.iadd, 1) := by decide +kernel
theorem dX8_readSigns_38 : decode cX8_readSigns 38 = .ok (.istore 6, 2) := by decide +kernel
theorem dX8_readSigns_40 : decode cX8_readSigns 40 = .ok (.iload 5, 2) := by decide +kernel
theorem dX8_readSigns_42 : decode cX8_readSigns 42 = .ok (.invokestatic 193, 3) := by decide +kernel
theorem dX8_readSigns_45 : decode cX8_readSigns 45 = .ok (.ifCond .eq 57, 3) := by decide +kernel
theorem dX8_readSigns_48 : decode cX8_readSigns 48 = .ok (.iload 6, 2) := by decide +kernel
theorem dX8_readSigns_50 : decode cX8_readSigns 50 = .ok (.iload_n 2, 1) := by decide +kernel
theorem dX8_readSigns_51 : decode cX8_readSigns 51 = .ok (.if_icmp .ge 51, 3) := by decide +kernel
theorem dX8_readSigns_54 : decode cX8_readSigns 54 = .ok (.iload 6, 2) := by decide +kernel
theorem dX8_readSigns_56 : decode cX8_readSigns 56 = .ok (.bipush 100, 2) := by decide +kernel
theorem dX8_readSigns_58 : decode cX8_readSigns 58 = .ok (.if_icmp .ge 44, 3) := by decide +kernel
theorem dX8_readSigns_61 : decode cX8_readSigns 61 = .ok (.aload_n 0, 1) := by decide +kernel
theorem dX8_readSigns_62 : decode cX8_readSigns 62 = .ok (.getfield 9, 3) := by decide +kernel
theorem dX8_readSigns_65 : decode cX8_readSigns 65 = .ok (.iload 6, 2) := by decide +kernel
theorem dX8_readSigns_67 : decode cX8_readSigns 67 = .ok (.iaload, 1) := by decide +kernel
theorem dX8_readSigns_68 : decode cX8_readSigns 68 = .ok (.invokestatic 196, 3) := by decide +kernel
theorem dX8_readSigns_71 : decode cX8_readSigns 71 = .ok (.ifCond .eq 31, 3) := by decide +kernel
theorem dX8_readSigns_74 : decode cX8_readSigns 74 = .ok (.ldc 186, 2) := by decide +kernel
theorem dX8_readSigns_76 : decode cX8_readSigns 76 = .ok (.sipush 1024, 3) := by decide +kernel
theorem dX8_readSigns_79 : decode cX8_readSigns 79 = .ok (.iload 5, 2) := by decide +kernel
theorem dX8_readSigns_81 : decode cX8_readSigns 81 = .ok (.ldc 183, 2) := by decide +kernel
theorem dX8_readSigns_83 : decode cX8_readSigns 83 = .ok (.isub, 1) := by decide +kernel
theorem dX8_readSigns_84 : decode cX8_readSigns 84 = .ok (.imul, 1) := by decide +kernel
theorem dX8_readSigns_85 : decode cX8_readSigns 85 = .ok (.iadd, 1) := by decide +kernel
theorem dX8_readSigns_86 : decode cX8_readSigns 86 = .ok (.aload_n 0, 1) := by decide +kernel
theorem dX8_readSigns_87 : decode cX8_readSigns 87 = .ok (.getfield 9, 3) := by decide +kernel
theorem dX8_readSigns_90 : decode cX8_readSigns 90 = .ok (.iload 6, 2) := by decide +kernel
theorem dX8_readSigns_92 : decode cX8_readSigns 92 = .ok (.iaload, 1) := by decide +kernel
theorem dX8_readSigns_93 : decode cX8_readSigns 93 = .ok (.iadd, 1) := by decide +kernel
theorem dX8_readSigns_94 : decode cX8_readSigns 94 = .ok (.ldc 184, 2) := by decide +kernel
theorem dX8_readSigns_96 : decode cX8_readSigns 96 = .ok (.isub, 1) := by decide +kernel
theorem dX8_readSigns_97 : decode cX8_readSigns 97 = .ok (.istore 5, 2) := by decide +kernel
theorem dX8_readSigns_99 : decode cX8_readSigns 99 = .ok (.iinc 6 1, 3) := by decide +kernel
theorem dX8_readSigns_102 : decode cX8_readSigns 102 = .ok (.aload_n 3, 1) := by decide +kernel
theorem dX8_readSigns_103 : decode cX8_readSigns 103 = .ok (.iload 5, 2) := by decide +kernel
theorem dX8_readSigns_105 : decode cX8_readSigns 105 = .ok (.iload 4, 2) := by decide +kernel
theorem dX8_readSigns_107 : decode cX8_readSigns 107 = .ok (.iload 6, 2) := by decide +kernel
theorem dX8_readSigns_109 : decode cX8_readSigns 109 = .ok (.invokevirtual 199, 3) := by decide +kernel
theorem dX8_readSigns_112 : decode cX8_readSigns 112 = .ok (.pop, 1) := by decide +kernel
theorem dX8_readSigns_113 : decode cX8_readSigns 113 = .ok (.iload 6, 2) := by decide +kernel
theorem dX8_readSigns_115 : decode cX8_readSigns 115 = .ok (.istore 4, 2) := by decide +kernel
theorem dX8_readSigns_117 : decode cX8_readSigns 117 = .ok (.goto (-110), 3) := by decide +kernel
theorem dX8_readSigns_120 : decode cX8_readSigns 120 = .ok (.return_, 1) := by decide +kernel
theorem dX8_filtersInChain_0 : decode cX8_filtersInChain 0 = .ok (.iconst 0, 1) := by decide +kernel
theorem dX8_filtersInChain_1 : decode cX8_filtersInChain 1 = .ok (.istore_n 1, 1) := by decide +kernel
theorem dX8_filtersInChain_2 : decode cX8_filtersInChain 2 = .ok (.iconst 0, 1) := by decide +kernel
theorem dX8_filtersInChain_3 : decode cX8_filtersInChain 3 = .ok (.istore_n 2, 1) := by decide +kernel
theorem dX8_filtersInChain_4 : decode cX8_filtersInChain 4 = .ok (.iload_n 2, 1) := by decide +kernel
theorem dX8_filtersInChain_5 : decode cX8_filtersInChain 5 = .ok (.bipush 8, 2) := by decide +kernel
theorem dX8_filtersInChain_7 : decode cX8_filtersInChain 7 = .ok (.if_icmp .ge 21, 3) := by decide +kernel
theorem dX8_filtersInChain_10 : decode cX8_filtersInChain 10 = .ok (.aload_n 0, 1) := by decide +kernel
theorem dX8_filtersInChain_11 : decode cX8_filtersInChain 11 = .ok (.getfield 57, 3) := by decide +kernel
theorem dX8_filtersInChain_14 : decode cX8_filtersInChain 14 = .ok (.iload_n 2, 1) := by decide +kernel
theorem dX8_filtersInChain_15 : decode cX8_filtersInChain 15 = .ok (.aaload, 1) := by decide +kernel
theorem dX8_filtersInChain_16 : decode cX8_filtersInChain 16 = .ok (.ifnull 6, 3) := by decide +kernel
theorem dX8_filtersInChain_19 : decode cX8_filtersInChain 19 = .ok (.iinc 1 1, 3) := by decide +kernel
theorem dX8_filtersInChain_22 : decode cX8_filtersInChain 22 = .ok (.iinc 2 1, 3) := by decide +kernel
theorem dX8_filtersInChain_25 : decode cX8_filtersInChain 25 = .ok (.goto (-21), 3) := by decide +kernel
theorem dX8_filtersInChain_28 : decode cX8_filtersInChain 28 = .ok (.iload_n 1, 1) := by decide +kernel
theorem dX8_filtersInChain_29 : decode cX8_filtersInChain 29 = .ok (.ireturn, 1) := by decide +kernel
theorem dX8_settleFilters_0 : decode cX8_settleFilters 0 = .ok (.iconst 0, 1) := by decide +kernel
theorem dX8_settleFilters_1 : decode cX8_settleFilters 1 = .ok (.istore_n 1, 1) := by decide +kernel
theorem dX8_settleFilters_2 : decode cX8_settleFilters 2 = .ok (.iload_n 1, 1) := by decide +kernel
theorem dX8_settleFilters_3 : decode cX8_settleFilters 3 = .ok (.bipush 8, 2) := by decide +kernel
theorem dX8_settleFilters_5 : decode cX8_settleFilters 5 = .ok (.if_icmp .ge 24, 3) := by decide +kernel
theorem dX8_settleFilters_8 : decode cX8_settleFilters 8 = .ok (.aload_n 0, 1) := by decide +kernel
theorem dX8_settleFilters_9 : decode cX8_settleFilters 9 = .ok (.getfield 57, 3) := by decide +kernel
theorem dX8_settleFilters_12 : decode cX8_settleFilters 12 = .ok (.iload_n 1, 1) := by decide +kernel
theorem dX8_settleFilters_13 : decode cX8_settleFilters 13 = .ok (.aaload, 1) := by decide +kernel
theorem dX8_settleFilters_14 : decode cX8_settleFilters 14 = .ok (.astore_n 2, 1) := by decide +kernel
theorem dX8_settleFilters_15 : decode cX8_settleFilters 15 = .ok (.aload_n 2, 1) := by decide +kernel
theorem dX8_settleFilters_16 : decode cX8_settleFilters 16 = .ok (.ifnull 7, 3) := by decide +kernel
theorem dX8_settleFilters_19 : decode cX8_settleFilters 19 = .ok (.aload_n 2, 1) := by decide +kernel
theorem dX8_settleFilters_20 : decode cX8_settleFilters 20 = .ok (.invokevirtual 201, 3) := by decide +kernel
theorem dX8_settleFilters_23 : decode cX8_settleFilters 23 = .ok (.iinc 1 1, 3) := by decide +kernel
theorem dX8_settleFilters_26 : decode cX8_settleFilters 26 = .ok (.goto (-24), 3) := by decide +kernel
theorem dX8_settleFilters_29 : decode cX8_settleFilters 29 = .ok (.return_, 1) := by decide +kernel
theorem dX8_passThrough_0 : decode cX8_passThrough 0 = .ok (.aload_n 3, 1) := by decide +kernel
theorem dX8_passThrough_1 : decode cX8_passThrough 1 = .ok (.invokevirtual 190, 3) := by decide +kernel
theorem dX8_passThrough_4 : decode cX8_passThrough 4 = .ok (.aload_n 1, 1) := by decide +kernel
theorem dX8_passThrough_5 : decode cX8_passThrough 5 = .ok (.getfield 124, 3) := by decide +kernel
theorem dX8_passThrough_8 : decode cX8_passThrough 8 = .ok (.tableswitch 88 0 5 #[40, 48, 56, 64, 72, 80], 40) := by decide +kernel
theorem dX8_passThrough_48 : decode cX8_passThrough 48 = .ok (.aload_n 0, 1) := by decide +kernel
theorem dX8_passThrough_49 : decode cX8_passThrough 49 = .ok (.aload_n 1, 1) := by decide +kernel
theorem dX8_passThrough_50 : decode cX8_passThrough 50 = .ok (.aload_n 2, 1) := by decide +kernel
theorem dX8_passThrough_51 : decode cX8_passThrough 51 = .ok (.aload_n 3, 1) := by decide +kernel
theorem dX8_passThrough_52 : decode cX8_passThrough 52 = .ok (.invokevirtual 204, 3) := by decide +kernel
theorem dX8_passThrough_55 : decode cX8_passThrough 55 = .ok (.ireturn, 1) := by decide +kernel
theorem dX8_passThrough_56 : decode cX8_passThrough 56 = .ok (.aload_n 0, 1) := by decide +kernel
theorem dX8_passThrough_57 : decode cX8_passThrough 57 = .ok (.aload_n 1, 1) := by decide +kernel
theorem dX8_passThrough_58 : decode cX8_passThrough 58 = .ok (.aload_n 2, 1) := by decide +kernel
theorem dX8_passThrough_59 : decode cX8_passThrough 59 = .ok (.aload_n 3, 1) := by decide +kernel
theorem dX8_passThrough_60 : decode cX8_passThrough 60 = .ok (.invokevirtual 207, 3) := by decide +kernel
theorem dX8_passThrough_63 : decode cX8_passThrough 63 = .ok (.ireturn, 1) := by decide +kernel
theorem dX8_passThrough_64 : decode cX8_passThrough 64 = .ok (.aload_n 0, 1) := by decide +kernel
theorem dX8_passThrough_65 : decode cX8_passThrough 65 = .ok (.aload_n 1, 1) := by decide +kernel
theorem dX8_passThrough_66 : decode cX8_passThrough 66 = .ok (.aload_n 2, 1) := by decide +kernel
theorem dX8_passThrough_67 : decode cX8_passThrough 67 = .ok (.aload_n 3, 1) := by decide +kernel
theorem dX8_passThrough_68 : decode cX8_passThrough 68 = .ok (.invokevirtual 210, 3) := by decide +kernel
theorem dX8_passThrough_71 : decode cX8_passThrough 71 = .ok (.ireturn, 1) := by decide +kernel
theorem dX8_passThrough_72 : decode cX8_passThrough 72 = .ok (.aload_n 0, 1) := by decide +kernel
theorem dX8_passThrough_73 : decode cX8_passThrough 73 = .ok (.aload_n 1, 1) := by decide +kernel
theorem dX8_passThrough_74 : decode cX8_passThrough 74 = .ok (.aload_n 2, 1) := by decide +kernel
theorem dX8_passThrough_75 : decode cX8_passThrough 75 = .ok (.aload_n 3, 1) := by decide +kernel
theorem dX8_passThrough_76 : decode cX8_passThrough 76 = .ok (.invokevirtual 213, 3) := by decide +kernel
theorem dX8_passThrough_79 : decode cX8_passThrough 79 = .ok (.ireturn, 1) := by decide +kernel
theorem dX8_passThrough_80 : decode cX8_passThrough 80 = .ok (.aload_n 0, 1) := by decide +kernel
theorem dX8_passThrough_81 : decode cX8_passThrough 81 = .ok (.aload_n 1, 1) := by decide +kernel
theorem dX8_passThrough_82 : decode cX8_passThrough 82 = .ok (.aload_n 2, 1) := by decide +kernel
theorem dX8_passThrough_83 : decode cX8_passThrough 83 = .ok (.aload_n 3, 1) := by decide +kernel
theorem dX8_passThrough_84 : decode cX8_passThrough 84 = .ok (.invokevirtual 216, 3) := by decide +kernel
theorem dX8_passThrough_87 : decode cX8_passThrough 87 = .ok (.ireturn, 1) := by decide +kernel
theorem dX8_passThrough_88 : decode cX8_passThrough 88 = .ok (.aload_n 0, 1) := by decide +kernel
theorem dX8_passThrough_89 : decode cX8_passThrough 89 = .ok (.aload_n 1, 1) := by decide +kernel
theorem dX8_passThrough_90 : decode cX8_passThrough 90 = .ok (.aload_n 2, 1) := by decide +kernel
theorem dX8_passThrough_91 : decode cX8_passThrough 91 = .ok (.aload_n 3, 1) := by decide +kernel
theorem dX8_passThrough_92 : decode cX8_passThrough 92 = .ok (.invokevirtual 219, 3) := by decide +kernel
theorem dX8_passThrough_95 : decode cX8_passThrough 95 = .ok (.ireturn, 1) := by decide +kernel
theorem dX8_passThrough_96 : decode cX8_passThrough 96 = .ok (.aload_n 0, 1) := by decide +kernel
theorem dX8_passThrough_97 : decode cX8_passThrough 97 = .ok (.aload_n 1, 1) := by decide +kernel
theorem dX8_passThrough_98 : decode cX8_passThrough 98 = .ok (.aload_n 2, 1) := by decide +kernel
theorem dX8_passThrough_99 : decode cX8_passThrough 99 = .ok (.aload_n 3, 1) := by decide +kernel
theorem dX8_passThrough_100 : decode cX8_passThrough 100 = .ok (.invokevirtual 222, 3) := by decide +kernel
theorem dX8_passThrough_103 : decode cX8_passThrough 103 = .ok (.ireturn, 1) := by decide +kernel
theorem dX8_passFolding_0 : decode cX8_passFolding 0 = .ok (.iconst 1, 1) := by decide +kernel
theorem dX8_passFolding_1 : decode cX8_passFolding 1 = .ok (.istore 4, 2) := by decide +kernel
theorem dX8_passFolding_3 : decode cX8_passFolding 3 = .ok (.iconst 0, 1) := by decide +kernel
theorem dX8_passFolding_4 : decode cX8_passFolding 4 = .ok (.istore 5, 2) := by decide +kernel
theorem dX8_passFolding_6 : decode cX8_passFolding 6 = .ok (.iload 5, 2) := by decide +kernel
theorem dX8_passFolding_8 : decode cX8_passFolding 8 = .ok (.aload_n 2, 1) := by decide +kernel
theorem dX8_passFolding_9 : decode cX8_passFolding 9 = .ok (.invokevirtual 85, 3) := by decide +kernel
theorem dX8_passFolding_12 : decode cX8_passFolding 12 = .ok (.if_icmp .ge 142, 3) := by decide +kernel
theorem dX8_passFolding_15 : decode cX8_passFolding 15 = .ok (.iload 4, 2) := by decide +kernel
theorem dX8_passFolding_17 : decode cX8_passFolding 17 = .ok (.ifCond .eq 137, 3) := by decide +kernel
theorem dX8_passFolding_20 : decode cX8_passFolding 20 = .ok (.aload_n 2, 1) := by decide +kernel
theorem dX8_passFolding_21 : decode cX8_passFolding 21 = .ok (.iload 5, 2) := by decide +kernel
theorem dX8_passFolding_23 : decode cX8_passFolding 23 = .ok (.invokevirtual 147, 3) := by decide +kernel
theorem dX8_passFolding_26 : decode cX8_passFolding 26 = .ok (.istore 6, 2) := by decide +kernel
theorem dX8_passFolding_28 : decode cX8_passFolding 28 = .ok (.aload_n 0, 1) := by decide +kernel
theorem dX8_passFolding_29 : decode cX8_passFolding 29 = .ok (.getfield 23, 3) := by decide +kernel
theorem dX8_passFolding_32 : decode cX8_passFolding 32 = .ok (.iload 6, 2) := by decide +kernel
theorem dX8_passFolding_34 : decode cX8_passFolding 34 = .ok (.invokevirtual 225, 3) := by decide +kernel
theorem dX8_passFolding_37 : decode cX8_passFolding 37 = .ok (.istore 7, 2) := by decide +kernel
theorem dX8_passFolding_39 : decode cX8_passFolding 39 = .ok (.iload 7, 2) := by decide +kernel
theorem dX8_passFolding_41 : decode cX8_passFolding 41 = .ok (.iconst (-1), 1) := by decide +kernel
theorem dX8_passFolding_42 : decode cX8_passFolding 42 = .ok (.if_icmp .ne 26, 3) := by decide +kernel
theorem dX8_passFolding_45 : decode cX8_passFolding 45 = .ok (.aload_n 3, 1) := by decide +kernel
theorem dX8_passFolding_46 : decode cX8_passFolding 46 = .ok (.iload 6, 2) := by decide +kernel
theorem dX8_passFolding_48 : decode cX8_passFolding 48 = .ok (.aload_n 2, 1) := by decide +kernel
theorem dX8_passFolding_49 : decode cX8_passFolding 49 = .ok (.iload 5, 2) := by decide +kernel
theorem dX8_passFolding_51 : decode cX8_passFolding 51 = .ok (.invokevirtual 154, 3) := by decide +kernel
theorem dX8_passFolding_54 : decode cX8_passFolding 54 = .ok (.aload_n 2, 1) := by decide +kernel
theorem dX8_passFolding_55 : decode cX8_passFolding 55 = .ok (.iload 5, 2) := by decide +kernel
theorem dX8_passFolding_57 : decode cX8_passFolding 57 = .ok (.invokevirtual 151, 3) := by decide +kernel
theorem dX8_passFolding_60 : decode cX8_passFolding 60 = .ok (.invokevirtual 199, 3) := by decide +kernel
theorem dX8_passFolding_63 : decode cX8_passFolding 63 = .ok (.istore 4, 2) := by decide +kernel
theorem dX8_passFolding_65 : decode cX8_passFolding 65 = .ok (.goto 83, 3) := by decide +kernel
theorem dX8_passFolding_68 : decode cX8_passFolding 68 = .ok (.aload_n 1, 1) := by decide +kernel
theorem dX8_passFolding_69 : decode cX8_passFolding 69 = .ok (.invokevirtual 228, 3) := by decide +kernel
theorem dX8_passFolding_72 : decode cX8_passFolding 72 = .ok (.aload_n 1, 1) := by decide +kernel
theorem dX8_passFolding_73 : decode cX8_passFolding 73 = .ok (.aload_n 0, 1) := by decide +kernel
theorem dX8_passFolding_74 : decode cX8_passFolding 74 = .ok (.getfield 23, 3) := by decide +kernel
theorem dX8_passFolding_77 : decode cX8_passFolding 77 = .ok (.iload 7, 2) := by decide +kernel
theorem dX8_passFolding_79 : decode cX8_passFolding 79 = .ok (.invokevirtual 231, 3) := by decide +kernel
theorem dX8_passFolding_82 : decode cX8_passFolding 82 = .ok (.iload 6, 2) := by decide +kernel
theorem dX8_passFolding_84 : decode cX8_passFolding 84 = .ok (.invokestatic 157, 3) := by decide +kernel
theorem dX8_passFolding_87 : decode cX8_passFolding 87 = .ok (.isub, 1) := by decide +kernel
theorem dX8_passFolding_88 : decode cX8_passFolding 88 = .ok (.invokevirtual 234, 3) := by decide +kernel
theorem dX8_passFolding_91 : decode cX8_passFolding 91 = .ok (.iconst 0, 1) := by decide +kernel
theorem dX8_passFolding_92 : decode cX8_passFolding 92 = .ok (.istore 8, 2) := by decide +kernel
theorem dX8_passFolding_94 : decode cX8_passFolding 94 = .ok (.iload 8, 2) := by decide +kernel
theorem dX8_passFolding_96 : decode cX8_passFolding 96 = .ok (.aload_n 0, 1) := by decide +kernel
theorem dX8_passFolding_97 : decode cX8_passFolding 97 = .ok (.getfield 23, 3) := by decide +kernel
theorem dX8_passFolding_100 : decode cX8_passFolding 100 = .ok (.iload 7, 2) := by decide +kernel
theorem dX8_passFolding_102 : decode cX8_passFolding 102 = .ok (.invokevirtual 237, 3) := by decide +kernel
theorem dX8_passFolding_105 : decode cX8_passFolding 105 = .ok (.if_icmp .ge 43, 3) := by decide +kernel
theorem dX8_passFolding_108 : decode cX8_passFolding 108 = .ok (.iload 4, 2) := by decide +kernel
theorem dX8_passFolding_110 : decode cX8_passFolding 110 = .ok (.ifCond .eq 38, 3) := by decide +kernel
theorem dX8_passFolding_113 : decode cX8_passFolding 113 = .ok (.aload_n 3, 1) := by decide +kernel
theorem dX8_passFolding_114 : decode cX8_passFolding 114 = .ok (.aload_n 0, 1) := by decide +kernel
theorem dX8_passFolding_115 : decode cX8_passFolding 115 = .ok (.getfield 23, 3) := by decide +kernel
theorem dX8_passFolding_118 : decode cX8_passFolding 118 = .ok (.iload 7, 2) := by decide +kernel
theorem dX8_passFolding_120 : decode cX8_passFolding 120 = .ok (.iload 8, 2) := by decide +kernel
theorem dX8_passFolding_122 : decode cX8_passFolding 122 = .ok (.invokevirtual 240, 3) := by decide +kernel
theorem dX8_passFolding_125 : decode cX8_passFolding 125 = .ok (.aload_n 2, 1) := by decide +kernel
theorem dX8_passFolding_126 : decode cX8_passFolding 126 = .ok (.iload 5, 2) := by decide +kernel
theorem dX8_passFolding_128 : decode cX8_passFolding 128 = .ok (.invokevirtual 154, 3) := by decide +kernel
theorem dX8_passFolding_131 : decode cX8_passFolding 131 = .ok (.aload_n 2, 1) := by decide +kernel
theorem dX8_passFolding_132 : decode cX8_passFolding 132 = .ok (.iload 5, 2) := by decide +kernel
theorem dX8_passFolding_134 : decode cX8_passFolding 134 = .ok (.invokevirtual 151, 3) := by decide +kernel
theorem dX8_passFolding_137 : decode cX8_passFolding 137 = .ok (.invokevirtual 199, 3) := by decide +kernel
theorem dX8_passFolding_140 : decode cX8_passFolding 140 = .ok (.istore 4, 2) := by decide +kernel
theorem dX8_passFolding_142 : decode cX8_passFolding 142 = .ok (.iinc 8 1, 3) := by decide +kernel
theorem dX8_passFolding_145 : decode cX8_passFolding 145 = .ok (.goto (-51), 3) := by decide +kernel
theorem dX8_passFolding_148 : decode cX8_passFolding 148 = .ok (.iinc 5 1, 3) := by decide +kernel
theorem dX8_passFolding_151 : decode cX8_passFolding 151 = .ok (.goto (-145), 3) := by decide +kernel
theorem dX8_passFolding_154 : decode cX8_passFolding 154 = .ok (.iload 4, 2) := by decide +kernel
theorem dX8_passFolding_156 : decode cX8_passFolding 156 = .ok (.ireturn, 1) := by decide +kernel
theorem dX8_passComposing_0 : decode cX8_passComposing 0 = .ok (.iconst 1, 1) := by decide +kernel
theorem dX8_passComposing_1 : decode cX8_passComposing 1 = .ok (.istore 4, 2) := by decide +kernel
theorem dX8_passComposing_3 : decode cX8_passComposing 3 = .ok (.iconst 0, 1) := by decide +kernel
theorem dX8_passComposing_4 : decode cX8_passComposing 4 = .ok (.istore 5, 2) := by decide +kernel
theorem dX8_passComposing_6 : decode cX8_passComposing 6 = .ok (.iload 5, 2) := by decide +kernel
theorem dX8_passComposing_8 : decode cX8_passComposing 8 = .ok (.aload_n 2, 1) := by decide +kernel
theorem dX8_passComposing_9 : decode cX8_passComposing 9 = .ok (.invokevirtual 85, 3) := by decide +kernel
theorem dX8_passComposing_12 : decode cX8_passComposing 12 = .ok (.if_icmp .ge 105, 3) := by decide +kernel
theorem dX8_passComposing_15 : decode cX8_passComposing 15 = .ok (.iload 4, 2) := by decide +kernel
theorem dX8_passComposing_17 : decode cX8_passComposing 17 = .ok (.ifCond .eq 100, 3) := by decide +kernel
theorem dX8_passComposing_20 : decode cX8_passComposing 20 = .ok (.iconst (-1), 1) := by decide +kernel
theorem dX8_passComposing_21 : decode cX8_passComposing 21 = .ok (.istore 6, 2) := by decide +kernel
theorem dX8_passComposing_23 : decode cX8_passComposing 23 = .ok (.aload_n 3, 1) := by decide +kernel
theorem dX8_passComposing_24 : decode cX8_passComposing 24 = .ok (.invokevirtual 85, 3) := by decide +kernel
theorem dX8_passComposing_27 : decode cX8_passComposing 27 = .ok (.ifCond .le 28, 3) := by decide +kernel
theorem dX8_passComposing_30 : decode cX8_passComposing 30 = .ok (.aload_n 0, 1) := by decide +kernel
theorem dX8_passComposing_31 : decode cX8_passComposing 31 = .ok (.getfield 30, 3) := by decide +kernel
theorem dX8_passComposing_34 : decode cX8_passComposing 34 = .ok (.aload_n 3, 1) := by decide +kernel
theorem dX8_passComposing_35 : decode cX8_passComposing 35 = .ok (.aload_n 3, 1) := by decide +kernel
theorem dX8_passComposing_36 : decode cX8_passComposing 36 = .ok (.invokevirtual 85, 3) := by decide +kernel
theorem dX8_passComposing_39 : decode cX8_passComposing 39 = .ok (.iconst 1, 1) := by decide +kernel
theorem dX8_passComposing_40 : decode cX8_passComposing 40 = .ok (.isub, 1) := by decide +kernel
theorem dX8_passComposing_41 : decode cX8_passComposing 41 = .ok (.invokevirtual 147, 3) := by decide +kernel
theorem dX8_passComposing_44 : decode cX8_passComposing 44 = .ok (.aload_n 2, 1) := by decide +kernel
theorem dX8_passComposing_45 : decode cX8_passComposing 45 = .ok (.iload 5, 2) := by decide +kernel
theorem dX8_passComposing_47 : decode cX8_passComposing 47 = .ok (.invokevirtual 147, 3) := by decide +kernel
theorem dX8_passComposing_50 : decode cX8_passComposing 50 = .ok (.invokevirtual 243, 3) := by decide +kernel
theorem dX8_passComposing_53 : decode cX8_passComposing 53 = .ok (.istore 6, 2) := by decide +kernel
theorem dX8_passComposing_55 : decode cX8_passComposing 55 = .ok (.iload 6, 2) := by decide +kernel
theorem dX8_passComposing_57 : decode cX8_passComposing 57 = .ok (.iconst (-1), 1) := by decide +kernel
theorem dX8_passComposing_58 : decode cX8_passComposing 58 = .ok (.if_icmp .ne 30, 3) := by decide +kernel
theorem dX8_passComposing_61 : decode cX8_passComposing 61 = .ok (.aload_n 3, 1) := by decide +kernel
theorem dX8_passComposing_62 : decode cX8_passComposing 62 = .ok (.aload_n 2, 1) := by decide +kernel
theorem dX8_passComposing_63 : decode cX8_passComposing 63 = .ok (.iload 5, 2) := by decide +kernel
theorem dX8_passComposing_65 : decode cX8_passComposing 65 = .ok (.invokevirtual 147, 3) := by decide +kernel
theorem dX8_passComposing_68 : decode cX8_passComposing 68 = .ok (.aload_n 2, 1) := by decide +kernel
theorem dX8_passComposing_69 : decode cX8_passComposing 69 = .ok (.iload 5, 2) := by decide +kernel
theorem dX8_passComposing_71 : decode cX8_passComposing 71 = .ok (.invokevirtual 154, 3) := by decide +kernel
theorem dX8_passComposing_74 : decode cX8_passComposing 74 = .ok (.aload_n 2, 1) := by decide +kernel
theorem dX8_passComposing_75 : decode cX8_passComposing 75 = .ok (.iload 5, 2) := by decide +kernel
theorem dX8_passComposing_77 : decode cX8_passComposing 77 = .ok (.invokevirtual 151, 3) := by decide +kernel
theorem dX8_passComposing_80 : decode cX8_passComposing 80 = .ok (.invokevirtual 199, 3) := by decide +kernel
theorem dX8_passComposing_83 : decode cX8_passComposing 83 = .ok (.istore 4, 2) := by decide +kernel
theorem dX8_passComposing_85 : decode cX8_passComposing 85 = .ok (.goto 26, 3) := by decide +kernel
theorem dX8_passComposing_88 : decode cX8_passComposing 88 = .ok (.aload_n 1, 1) := by decide +kernel
theorem dX8_passComposing_89 : decode cX8_passComposing 89 = .ok (.invokevirtual 228, 3) := by decide +kernel
theorem dX8_passComposing_92 : decode cX8_passComposing 92 = .ok (.aload_n 3, 1) := by decide +kernel
theorem dX8_passComposing_93 : decode cX8_passComposing 93 = .ok (.aload_n 0, 1) := by decide +kernel
theorem dX8_passComposing_94 : decode cX8_passComposing 94 = .ok (.getfield 30, 3) := by decide +kernel
theorem dX8_passComposing_97 : decode cX8_passComposing 97 = .ok (.iload 6, 2) := by decide +kernel
theorem dX8_passComposing_99 : decode cX8_passComposing 99 = .ok (.invokevirtual 245, 3) := by decide +kernel
theorem dX8_passComposing_102 : decode cX8_passComposing 102 = .ok (.aload_n 2, 1) := by decide +kernel
theorem dX8_passComposing_103 : decode cX8_passComposing 103 = .ok (.iload 5, 2) := by decide +kernel
theorem dX8_passComposing_105 : decode cX8_passComposing 105 = .ok (.invokevirtual 151, 3) := by decide +kernel
theorem dX8_passComposing_108 : decode cX8_passComposing 108 = .ok (.invokevirtual 246, 3) := by decide +kernel
theorem dX8_passComposing_111 : decode cX8_passComposing 111 = .ok (.iinc 5 1, 3) := by decide +kernel
theorem dX8_passComposing_114 : decode cX8_passComposing 114 = .ok (.goto (-108), 3) := by decide +kernel
theorem dX8_passComposing_117 : decode cX8_passComposing 117 = .ok (.iload 4, 2) := by decide +kernel
theorem dX8_passComposing_119 : decode cX8_passComposing 119 = .ok (.ireturn, 1) := by decide +kernel
theorem dX8_passDigits_0 : decode cX8_passDigits 0 = .ok (.iconst 1, 1) := by decide +kernel
theorem dX8_passDigits_1 : decode cX8_passDigits 1 = .ok (.istore 4, 2) := by decide +kernel
theorem dX8_passDigits_3 : decode cX8_passDigits 3 = .ok (.iconst 0, 1) := by decide +kernel
theorem dX8_passDigits_4 : decode cX8_passDigits 4 = .ok (.istore 5, 2) := by decide +kernel
theorem dX8_passDigits_6 : decode cX8_passDigits 6 = .ok (.iload 5, 2) := by decide +kernel
theorem dX8_passDigits_8 : decode cX8_passDigits 8 = .ok (.aload_n 2, 1) := by decide +kernel
theorem dX8_passDigits_9 : decode cX8_passDigits 9 = .ok (.invokevirtual 85, 3) := by decide +kernel
theorem dX8_passDigits_12 : decode cX8_passDigits 12 = .ok (.if_icmp .ge 71, 3) := by decide +kernel
theorem dX8_passDigits_15 : decode cX8_passDigits 15 = .ok (.iload 4, 2) := by decide +kernel
theorem dX8_passDigits_17 : decode cX8_passDigits 17 = .ok (.ifCond .eq 66, 3) := by decide +kernel
theorem dX8_passDigits_20 : decode cX8_passDigits 20 = .ok (.aload_n 2, 1) := by decide +kernel
theorem dX8_passDigits_21 : decode cX8_passDigits 21 = .ok (.iload 5, 2) := by decide +kernel
theorem dX8_passDigits_23 : decode cX8_passDigits 23 = .ok (.invokevirtual 147, 3) := by decide +kernel
theorem dX8_passDigits_26 : decode cX8_passDigits 26 = .ok (.istore 6, 2) := by decide +kernel
theorem dX8_passDigits_28 : decode cX8_passDigits 28 = .ok (.aload_n 0, 1) := by decide +kernel
theorem dX8_passDigits_29 : decode cX8_passDigits 29 = .ok (.getfield 37, 3) := by decide +kernel
theorem dX8_passDigits_32 : decode cX8_passDigits 32 = .ok (.iload 6, 2) := by decide +kernel
theorem dX8_passDigits_34 : decode cX8_passDigits 34 = .ok (.invokevirtual 173, 3) := by decide +kernel
theorem dX8_passDigits_37 : decode cX8_passDigits 37 = .ok (.istore 7, 2) := by decide +kernel
theorem dX8_passDigits_39 : decode cX8_passDigits 39 = .ok (.iload 7, 2) := by decide +kernel
theorem dX8_passDigits_41 : decode cX8_passDigits 41 = .ok (.bipush (-9), 2) := by decide +kernel
theorem dX8_passDigits_43 : decode cX8_passDigits 43 = .ok (.if_icmp .eq 14, 3) := by decide +kernel
theorem dX8_passDigits_46 : decode cX8_passDigits 46 = .ok (.aload_n 1, 1) := by decide +kernel
theorem dX8_passDigits_47 : decode cX8_passDigits 47 = .ok (.invokevirtual 228, 3) := by decide +kernel
theorem dX8_passDigits_50 : decode cX8_passDigits 50 = .ok (.bipush 48, 2) := by decide +kernel
theorem dX8_passDigits_52 : decode cX8_passDigits 52 = .ok (.iload 7, 2) := by decide +kernel
theorem dX8_passDigits_54 : decode cX8_passDigits 54 = .ok (.iadd, 1) := by decide +kernel
theorem dX8_passDigits_55 : decode cX8_passDigits 55 = .ok (.istore 6, 2) := by decide +kernel
theorem dX8_passDigits_57 : decode cX8_passDigits 57 = .ok (.aload_n 3, 1) := by decide +kernel
theorem dX8_passDigits_58 : decode cX8_passDigits 58 = .ok (.iload 6, 2) := by decide +kernel
theorem dX8_passDigits_60 : decode cX8_passDigits 60 = .ok (.aload_n 2, 1) := by decide +kernel
theorem dX8_passDigits_61 : decode cX8_passDigits 61 = .ok (.iload 5, 2) := by decide +kernel
theorem dX8_passDigits_63 : decode cX8_passDigits 63 = .ok (.invokevirtual 154, 3) := by decide +kernel
theorem dX8_passDigits_66 : decode cX8_passDigits 66 = .ok (.aload_n 2, 1) := by decide +kernel
theorem dX8_passDigits_67 : decode cX8_passDigits 67 = .ok (.iload 5, 2) := by decide +kernel
theorem dX8_passDigits_69 : decode cX8_passDigits 69 = .ok (.invokevirtual 151, 3) := by decide +kernel
theorem dX8_passDigits_72 : decode cX8_passDigits 72 = .ok (.invokevirtual 199, 3) := by decide +kernel
theorem dX8_passDigits_75 : decode cX8_passDigits 75 = .ok (.istore 4, 2) := by decide +kernel
theorem dX8_passDigits_77 : decode cX8_passDigits 77 = .ok (.iinc 5 1, 3) := by decide +kernel
theorem dX8_passDigits_80 : decode cX8_passDigits 80 = .ok (.goto (-74), 3) := by decide +kernel
theorem dX8_passDigits_83 : decode cX8_passDigits 83 = .ok (.iload 4, 2) := by decide +kernel
theorem dX8_passDigits_85 : decode cX8_passDigits 85 = .ok (.ireturn, 1) := by decide +kernel
theorem dX8_passDropping_0 : decode cX8_passDropping 0 = .ok (.iconst 1, 1) := by decide +kernel
theorem dX8_passDropping_1 : decode cX8_passDropping 1 = .ok (.istore 4, 2) := by decide +kernel
theorem dX8_passDropping_3 : decode cX8_passDropping 3 = .ok (.iconst 0, 1) := by decide +kernel
theorem dX8_passDropping_4 : decode cX8_passDropping 4 = .ok (.istore 5, 2) := by decide +kernel
theorem dX8_passDropping_6 : decode cX8_passDropping 6 = .ok (.iload 5, 2) := by decide +kernel
theorem dX8_passDropping_8 : decode cX8_passDropping 8 = .ok (.aload_n 2, 1) := by decide +kernel
theorem dX8_passDropping_9 : decode cX8_passDropping 9 = .ok (.invokevirtual 85, 3) := by decide +kernel
theorem dX8_passDropping_12 : decode cX8_passDropping 12 = .ok (.if_icmp .ge 61, 3) := by decide +kernel
theorem dX8_passDropping_15 : decode cX8_passDropping 15 = .ok (.iload 4, 2) := by decide +kernel
theorem dX8_passDropping_17 : decode cX8_passDropping 17 = .ok (.ifCond .eq 56, 3) := by decide +kernel
theorem dX8_passDropping_20 : decode cX8_passDropping 20 = .ok (.aload_n 0, 1) := by decide +kernel
theorem dX8_passDropping_21 : decode cX8_passDropping 21 = .ok (.getfield 44, 3) := by decide +kernel
theorem dX8_passDropping_24 : decode cX8_passDropping 24 = .ok (.aload_n 2, 1) := by decide +kernel
theorem dX8_passDropping_25 : decode cX8_passDropping 25 = .ok (.iload 5, 2) := by decide +kernel
theorem dX8_passDropping_27 : decode cX8_passDropping 27 = .ok (.invokevirtual 147, 3) := by decide +kernel
theorem dX8_passDropping_30 : decode cX8_passDropping 30 = .ok (.invokevirtual 250, 3) := by decide +kernel
theorem dX8_passDropping_33 : decode cX8_passDropping 33 = .ok (.ifCond .eq 10, 3) := by decide +kernel
theorem dX8_passDropping_36 : decode cX8_passDropping 36 = .ok (.aload_n 1, 1) := by decide +kernel
theorem dX8_passDropping_37 : decode cX8_passDropping 37 = .ok (.invokevirtual 228, 3) := by decide +kernel
theorem dX8_passDropping_40 : decode cX8_passDropping 40 = .ok (.goto 27, 3) := by decide +kernel
theorem dX8_passDropping_43 : decode cX8_passDropping 43 = .ok (.aload_n 3, 1) := by decide +kernel
theorem dX8_passDropping_44 : decode cX8_passDropping 44 = .ok (.aload_n 2, 1) := by decide +kernel
theorem dX8_passDropping_45 : decode cX8_passDropping 45 = .ok (.iload 5, 2) := by decide +kernel
theorem dX8_passDropping_47 : decode cX8_passDropping 47 = .ok (.invokevirtual 147, 3) := by decide +kernel
theorem dX8_passDropping_50 : decode cX8_passDropping 50 = .ok (.aload_n 2, 1) := by decide +kernel
theorem dX8_passDropping_51 : decode cX8_passDropping 51 = .ok (.iload 5, 2) := by decide +kernel
theorem dX8_passDropping_53 : decode cX8_passDropping 53 = .ok (.invokevirtual 154, 3) := by decide +kernel
theorem dX8_passDropping_56 : decode cX8_passDropping 56 = .ok (.aload_n 2, 1) := by decide +kernel
theorem dX8_passDropping_57 : decode cX8_passDropping 57 = .ok (.iload 5, 2) := by decide +kernel
theorem dX8_passDropping_59 : decode cX8_passDropping 59 = .ok (.invokevirtual 151, 3) := by decide +kernel
theorem dX8_passDropping_62 : decode cX8_passDropping 62 = .ok (.invokevirtual 199, 3) := by decide +kernel
theorem dX8_passDropping_65 : decode cX8_passDropping 65 = .ok (.istore 4, 2) := by decide +kernel
theorem dX8_passDropping_67 : decode cX8_passDropping 67 = .ok (.iinc 5 1, 3) := by decide +kernel
theorem dX8_passDropping_70 : decode cX8_passDropping 70 = .ok (.goto (-64), 3) := by decide +kernel
theorem dX8_passDropping_73 : decode cX8_passDropping 73 = .ok (.iload 4, 2) := by decide +kernel
theorem dX8_passDropping_75 : decode cX8_passDropping 75 = .ok (.ireturn, 1) := by decide +kernel
theorem dX8_passReplacing_0 : decode cX8_passReplacing 0 = .ok (.iconst 1, 1) := by decide +kernel
theorem dX8_passReplacing_1 : decode cX8_passReplacing 1 = .ok (.istore 4, 2) := by decide +kernel
theorem dX8_passReplacing_3 : decode cX8_passReplacing 3 = .ok (.iconst 0, 1) := by decide +kernel
theorem dX8_passReplacing_4 : decode cX8_passReplacing 4 = .ok (.istore 5, 2) := by decide +kernel
theorem dX8_passReplacing_6 : decode cX8_passReplacing 6 = .ok (.iconst 0, 1) := by decide +kernel
theorem dX8_passReplacing_7 : decode cX8_passReplacing 7 = .ok (.istore 6, 2) := by decide +kernel
theorem dX8_passReplacing_9 : decode cX8_passReplacing 9 = .ok (.iload 6, 2) := by decide +kernel
theorem dX8_passReplacing_11 : decode cX8_passReplacing 11 = .ok (.aload_n 2, 1) := by decide +kernel
theorem dX8_passReplacing_12 : decode cX8_passReplacing 12 = .ok (.invokevirtual 85, 3) := by decide +kernel
theorem dX8_passReplacing_15 : decode cX8_passReplacing 15 = .ok (.if_icmp .ge 101, 3) := by decide +kernel
theorem dX8_passReplacing_18 : decode cX8_passReplacing 18 = .ok (.iload 4, 2) := by decide +kernel
theorem dX8_passReplacing_20 : decode cX8_passReplacing 20 = .ok (.ifCond .eq 96, 3) := by decide +kernel
theorem dX8_passReplacing_23 : decode cX8_passReplacing 23 = .ok (.iload 6, 2) := by decide +kernel
theorem dX8_passReplacing_25 : decode cX8_passReplacing 25 = .ok (.iload 5, 2) := by decide +kernel
theorem dX8_passReplacing_27 : decode cX8_passReplacing 27 = .ok (.if_icmp .lt 83, 3) := by decide +kernel
theorem dX8_passReplacing_30 : decode cX8_passReplacing 30 = .ok (.aload_n 0, 1) := by decide +kernel
theorem dX8_passReplacing_31 : decode cX8_passReplacing 31 = .ok (.getfield 51, 3) := by decide +kernel
theorem dX8_passReplacing_34 : decode cX8_passReplacing 34 = .ok (.aload_n 2, 1) := by decide +kernel
theorem dX8_passReplacing_35 : decode cX8_passReplacing 35 = .ok (.iload 6, 2) := by decide +kernel
theorem dX8_passReplacing_37 : decode cX8_passReplacing 37 = .ok (.invokevirtual 253, 3) := by decide +kernel
theorem dX8_passReplacing_40 : decode cX8_passReplacing 40 = .ok (.astore 7, 2) := by decide +kernel
theorem dX8_passReplacing_42 : decode cX8_passReplacing 42 = .ok (.aload 7, 2) := by decide +kernel
theorem dX8_passReplacing_44 : decode cX8_passReplacing 44 = .ok (.ifnonnull 30, 3) := by decide +kernel
theorem dX8_passReplacing_47 : decode cX8_passReplacing 47 = .ok (.aload_n 3, 1) := by decide +kernel
theorem dX8_passReplacing_48 : decode cX8_passReplacing 48 = .ok (.aload_n 2, 1) := by decide +kernel
theorem dX8_passReplacing_49 : decode cX8_passReplacing 49 = .ok (.iload 6, 2) := by decide +kernel
theorem dX8_passReplacing_51 : decode cX8_passReplacing 51 = .ok (.invokevirtual 147, 3) := by decide +kernel
theorem dX8_passReplacing_54 : decode cX8_passReplacing 54 = .ok (.aload_n 2, 1) := by decide +kernel
theorem dX8_passReplacing_55 : decode cX8_passReplacing 55 = .ok (.iload 6, 2) := by decide +kernel
theorem dX8_passReplacing_57 : decode cX8_passReplacing 57 = .ok (.invokevirtual 154, 3) := by decide +kernel
theorem dX8_passReplacing_60 : decode cX8_passReplacing 60 = .ok (.aload_n 2, 1) := by decide +kernel
theorem dX8_passReplacing_61 : decode cX8_passReplacing 61 = .ok (.iload 6, 2) := by decide +kernel
theorem dX8_passReplacing_63 : decode cX8_passReplacing 63 = .ok (.invokevirtual 151, 3) := by decide +kernel
theorem dX8_passReplacing_66 : decode cX8_passReplacing 66 = .ok (.invokevirtual 199, 3) := by decide +kernel
theorem dX8_passReplacing_69 : decode cX8_passReplacing 69 = .ok (.istore 4, 2) := by decide +kernel
theorem dX8_passReplacing_71 : decode cX8_passReplacing 71 = .ok (.goto 39, 3) := by decide +kernel
theorem dX8_passReplacing_74 : decode cX8_passReplacing 74 = .ok (.aload_n 1, 1) := by decide +kernel
theorem dX8_passReplacing_75 : decode cX8_passReplacing 75 = .ok (.invokevirtual 228, 3) := by decide +kernel
theorem dX8_passReplacing_78 : decode cX8_passReplacing 78 = .ok (.iload 6, 2) := by decide +kernel
theorem dX8_passReplacing_80 : decode cX8_passReplacing 80 = .ok (.aload 7, 2) := by decide +kernel
theorem dX8_passReplacing_82 : decode cX8_passReplacing 82 = .ok (.invokevirtual 257, 3) := by decide +kernel
theorem dX8_passReplacing_85 : decode cX8_passReplacing 85 = .ok (.iadd, 1) := by decide +kernel
theorem dX8_passReplacing_86 : decode cX8_passReplacing 86 = .ok (.istore 5, 2) := by decide +kernel
theorem dX8_passReplacing_88 : decode cX8_passReplacing 88 = .ok (.aload 7, 2) := by decide +kernel
theorem dX8_passReplacing_90 : decode cX8_passReplacing 90 = .ok (.aload_n 3, 1) := by decide +kernel
theorem dX8_passReplacing_91 : decode cX8_passReplacing 91 = .ok (.aload_n 2, 1) := by decide +kernel
theorem dX8_passReplacing_92 : decode cX8_passReplacing 92 = .ok (.iload 6, 2) := by decide +kernel
theorem dX8_passReplacing_94 : decode cX8_passReplacing 94 = .ok (.invokevirtual 154, 3) := by decide +kernel
theorem dX8_passReplacing_97 : decode cX8_passReplacing 97 = .ok (.aload_n 2, 1) := by decide +kernel
theorem dX8_passReplacing_98 : decode cX8_passReplacing 98 = .ok (.iload 5, 2) := by decide +kernel
theorem dX8_passReplacing_100 : decode cX8_passReplacing 100 = .ok (.iconst 1, 1) := by decide +kernel
theorem dX8_passReplacing_101 : decode cX8_passReplacing 101 = .ok (.isub, 1) := by decide +kernel
theorem dX8_passReplacing_102 : decode cX8_passReplacing 102 = .ok (.invokevirtual 151, 3) := by decide +kernel
theorem dX8_passReplacing_105 : decode cX8_passReplacing 105 = .ok (.invokevirtual 262, 3) := by decide +kernel
theorem dX8_passReplacing_108 : decode cX8_passReplacing 108 = .ok (.istore 4, 2) := by decide +kernel
theorem dX8_passReplacing_110 : decode cX8_passReplacing 110 = .ok (.iinc 6 1, 3) := by decide +kernel
theorem dX8_passReplacing_113 : decode cX8_passReplacing 113 = .ok (.goto (-104), 3) := by decide +kernel
theorem dX8_passReplacing_116 : decode cX8_passReplacing 116 = .ok (.iload 4, 2) := by decide +kernel
theorem dX8_passReplacing_118 : decode cX8_passReplacing 118 = .ok (.ireturn, 1) := by decide +kernel
theorem dX8_passHalves_0 : decode cX8_passHalves 0 = .ok (.iconst 1, 1) := by decide +kernel
theorem dX8_passHalves_1 : decode cX8_passHalves 1 = .ok (.istore 4, 2) := by decide +kernel
theorem dX8_passHalves_3 : decode cX8_passHalves 3 = .ok (.iconst 0, 1) := by decide +kernel
theorem dX8_passHalves_4 : decode cX8_passHalves 4 = .ok (.istore 5, 2) := by decide +kernel
theorem dX8_passHalves_6 : decode cX8_passHalves 6 = .ok (.iload 5, 2) := by decide +kernel
theorem dX8_passHalves_8 : decode cX8_passHalves 8 = .ok (.aload_n 2, 1) := by decide +kernel
theorem dX8_passHalves_9 : decode cX8_passHalves 9 = .ok (.invokevirtual 85, 3) := by decide +kernel
theorem dX8_passHalves_12 : decode cX8_passHalves 12 = .ok (.if_icmp .ge 103, 3) := by decide +kernel
theorem dX8_passHalves_15 : decode cX8_passHalves 15 = .ok (.iload 4, 2) := by decide +kernel
theorem dX8_passHalves_17 : decode cX8_passHalves 17 = .ok (.ifCond .eq 98, 3) := by decide +kernel
theorem dX8_passHalves_20 : decode cX8_passHalves 20 = .ok (.aload_n 2, 1) := by decide +kernel
theorem dX8_passHalves_21 : decode cX8_passHalves 21 = .ok (.iload 5, 2) := by decide +kernel
theorem dX8_passHalves_23 : decode cX8_passHalves 23 = .ok (.invokevirtual 147, 3) := by decide +kernel
theorem dX8_passHalves_26 : decode cX8_passHalves 26 = .ok (.istore 6, 2) := by decide +kernel
theorem dX8_passHalves_28 : decode cX8_passHalves 28 = .ok (.iconst 0, 1) := by decide +kernel
theorem dX8_passHalves_29 : decode cX8_passHalves 29 = .ok (.istore 7, 2) := by decide +kernel
theorem dX8_passHalves_31 : decode cX8_passHalves 31 = .ok (.iload 6, 2) := by decide +kernel
theorem dX8_passHalves_33 : decode cX8_passHalves 33 = .ok (.invokestatic 193, 3) := by decide +kernel
theorem dX8_passHalves_36 : decode cX8_passHalves 36 = .ok (.ifCond .ne 11, 3) := by decide +kernel
theorem dX8_passHalves_39 : decode cX8_passHalves 39 = .ok (.iload 6, 2) := by decide +kernel
theorem dX8_passHalves_41 : decode cX8_passHalves 41 = .ok (.invokestatic 196, 3) := by decide +kernel
theorem dX8_passHalves_44 : decode cX8_passHalves 44 = .ok (.ifCond .eq 40, 3) := by decide +kernel
theorem dX8_passHalves_47 : decode cX8_passHalves 47 = .ok (.aload_n 1, 1) := by decide +kernel
theorem dX8_passHalves_48 : decode cX8_passHalves 48 = .ok (.invokevirtual 228, 3) := by decide +kernel
theorem dX8_passHalves_51 : decode cX8_passHalves 51 = .ok (.aload_n 1, 1) := by decide +kernel
theorem dX8_passHalves_52 : decode cX8_passHalves 52 = .ok (.getfield 127, 3) := by decide +kernel
theorem dX8_passHalves_55 : decode cX8_passHalves 55 = .ok (.iconst 2, 1) := by decide +kernel
theorem dX8_passHalves_56 : decode cX8_passHalves 56 = .ok (.if_icmp .ne 7, 3) := by decide +kernel
theorem dX8_passHalves_59 : decode cX8_passHalves 59 = .ok (.iconst 1, 1) := by decide +kernel
theorem dX8_passHalves_60 : decode cX8_passHalves 60 = .ok (.goto 4, 3) := by decide +kernel
theorem dX8_passHalves_63 : decode cX8_passHalves 63 = .ok (.iconst 0, 1) := by decide +kernel
theorem dX8_passHalves_64 : decode cX8_passHalves 64 = .ok (.istore 7, 2) := by decide +kernel
theorem dX8_passHalves_66 : decode cX8_passHalves 66 = .ok (.aload_n 1, 1) := by decide +kernel
theorem dX8_passHalves_67 : decode cX8_passHalves 67 = .ok (.getfield 127, 3) := by decide +kernel
theorem dX8_passHalves_70 : decode cX8_passHalves 70 = .ok (.iconst 1, 1) := by decide +kernel
theorem dX8_passHalves_71 : decode cX8_passHalves 71 = .ok (.if_icmp .ne 9, 3) := by decide +kernel
theorem dX8_passHalves_74 : decode cX8_passHalves 74 = .ok (.ldc_w 266, 3) := by decide +kernel
theorem dX8_passHalves_77 : decode cX8_passHalves 77 = .ok (.goto 5, 3) := by decide +kernel
theorem dX8_passHalves_80 : decode cX8_passHalves 80 = .ok (.iload 6, 2) := by decide +kernel
theorem dX8_passHalves_82 : decode cX8_passHalves 82 = .ok (.istore 6, 2) := by decide +kernel
theorem dX8_passHalves_84 : decode cX8_passHalves 84 = .ok (.iload 7, 2) := by decide +kernel
theorem dX8_passHalves_86 : decode cX8_passHalves 86 = .ok (.ifCond .ne 23, 3) := by decide +kernel
theorem dX8_passHalves_89 : decode cX8_passHalves 89 = .ok (.aload_n 3, 1) := by decide +kernel
theorem dX8_passHalves_90 : decode cX8_passHalves 90 = .ok (.iload 6, 2) := by decide +kernel
theorem dX8_passHalves_92 : decode cX8_passHalves 92 = .ok (.aload_n 2, 1) := by decide +kernel
theorem dX8_passHalves_93 : decode cX8_passHalves 93 = .ok (.iload 5, 2) := by decide +kernel
theorem dX8_passHalves_95 : decode cX8_passHalves 95 = .ok (.invokevirtual 154, 3) := by decide +kernel
theorem dX8_passHalves_98 : decode cX8_passHalves 98 = .ok (.aload_n 2, 1) := by decide +kernel
theorem dX8_passHalves_99 : decode cX8_passHalves 99 = .ok (.iload 5, 2) := by decide +kernel
theorem dX8_passHalves_101 : decode cX8_passHalves 101 = .ok (.invokevirtual 151, 3) := by decide +kernel
theorem dX8_passHalves_104 : decode cX8_passHalves 104 = .ok (.invokevirtual 199, 3) := by decide +kernel
theorem dX8_passHalves_107 : decode cX8_passHalves 107 = .ok (.istore 4, 2) := by decide +kernel
theorem dX8_passHalves_109 : decode cX8_passHalves 109 = .ok (.iinc 5 1, 3) := by decide +kernel
theorem dX8_passHalves_112 : decode cX8_passHalves 112 = .ok (.goto (-106), 3) := by decide +kernel
theorem dX8_passHalves_115 : decode cX8_passHalves 115 = .ok (.iload 4, 2) := by decide +kernel
theorem dX8_passHalves_117 : decode cX8_passHalves 117 = .ok (.ireturn, 1) := by decide +kernel
theorem dX8_passWidths_0 : decode cX8_passWidths 0 = .ok (.iconst 1, 1) := by decide +kernel
theorem dX8_passWidths_1 : decode cX8_passWidths 1 = .ok (.istore 4, 2) := by decide +kernel
theorem dX8_passWidths_3 : decode cX8_passWidths 3 = .ok (.iconst 0, 1) := by decide +kernel
theorem dX8_passWidths_4 : decode cX8_passWidths 4 = .ok (.istore 5, 2) := by decide +kernel
theorem dX8_passWidths_6 : decode cX8_passWidths 6 = .ok (.iload 5, 2) := by decide +kernel
theorem dX8_passWidths_8 : decode cX8_passWidths 8 = .ok (.aload_n 2, 1) := by decide +kernel
theorem dX8_passWidths_9 : decode cX8_passWidths 9 = .ok (.invokevirtual 85, 3) := by decide +kernel
theorem dX8_passWidths_12 : decode cX8_passWidths 12 = .ok (.if_icmp .ge 63, 3) := by decide +kernel
theorem dX8_passWidths_15 : decode cX8_passWidths 15 = .ok (.iload 4, 2) := by decide +kernel
theorem dX8_passWidths_17 : decode cX8_passWidths 17 = .ok (.ifCond .eq 58, 3) := by decide +kernel
theorem dX8_passWidths_20 : decode cX8_passWidths 20 = .ok (.aload_n 2, 1) := by decide +kernel
theorem dX8_passWidths_21 : decode cX8_passWidths 21 = .ok (.iload 5, 2) := by decide +kernel
theorem dX8_passWidths_23 : decode cX8_passWidths 23 = .ok (.invokevirtual 147, 3) := by decide +kernel
theorem dX8_passWidths_26 : decode cX8_passWidths 26 = .ok (.istore 6, 2) := by decide +kernel
theorem dX8_passWidths_28 : decode cX8_passWidths 28 = .ok (.iload 6, 2) := by decide +kernel
theorem dX8_passWidths_30 : decode cX8_passWidths 30 = .ok (.invokestatic 267, 3) := by decide +kernel
theorem dX8_passWidths_33 : decode cX8_passWidths 33 = .ok (.istore 7, 2) := by decide +kernel
theorem dX8_passWidths_35 : decode cX8_passWidths 35 = .ok (.iload 7, 2) := by decide +kernel
theorem dX8_passWidths_37 : decode cX8_passWidths 37 = .ok (.iconst (-1), 1) := by decide +kernel
theorem dX8_passWidths_38 : decode cX8_passWidths 38 = .ok (.if_icmp .eq 11, 3) := by decide +kernel
theorem dX8_passWidths_41 : decode cX8_passWidths 41 = .ok (.aload_n 1, 1) := by decide +kernel
theorem dX8_passWidths_42 : decode cX8_passWidths 42 = .ok (.invokevirtual 228, 3) := by decide +kernel
theorem dX8_passWidths_45 : decode cX8_passWidths 45 = .ok (.iload 7, 2) := by decide +kernel
theorem dX8_passWidths_47 : decode cX8_passWidths 47 = .ok (.istore 6, 2) := by decide +kernel
theorem dX8_passWidths_49 : decode cX8_passWidths 49 = .ok (.aload_n 3, 1) := by decide +kernel
theorem dX8_passWidths_50 : decode cX8_passWidths 50 = .ok (.iload 6, 2) := by decide +kernel
theorem dX8_passWidths_52 : decode cX8_passWidths 52 = .ok (.aload_n 2, 1) := by decide +kernel
theorem dX8_passWidths_53 : decode cX8_passWidths 53 = .ok (.iload 5, 2) := by decide +kernel
theorem dX8_passWidths_55 : decode cX8_passWidths 55 = .ok (.invokevirtual 154, 3) := by decide +kernel
theorem dX8_passWidths_58 : decode cX8_passWidths 58 = .ok (.aload_n 2, 1) := by decide +kernel
theorem dX8_passWidths_59 : decode cX8_passWidths 59 = .ok (.iload 5, 2) := by decide +kernel
theorem dX8_passWidths_61 : decode cX8_passWidths 61 = .ok (.invokevirtual 151, 3) := by decide +kernel
theorem dX8_passWidths_64 : decode cX8_passWidths 64 = .ok (.invokevirtual 199, 3) := by decide +kernel
theorem dX8_passWidths_67 : decode cX8_passWidths 67 = .ok (.istore 4, 2) := by decide +kernel
theorem dX8_passWidths_69 : decode cX8_passWidths 69 = .ok (.iinc 5 1, 3) := by decide +kernel
theorem dX8_passWidths_72 : decode cX8_passWidths 72 = .ok (.goto (-66), 3) := by decide +kernel
theorem dX8_passWidths_75 : decode cX8_passWidths 75 = .ok (.iload 4, 2) := by decide +kernel
theorem dX8_passWidths_77 : decode cX8_passWidths 77 = .ok (.ireturn, 1) := by decide +kernel
