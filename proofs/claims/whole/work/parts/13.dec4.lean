theorem dX9_folding_96 : decode cX9_folding 96 = .ok (.iload_n 2, 1) := by decide +kernel
theorem dX9_folding_97 : decode cX9_folding 97 = .ok (.iaload, 1) := by decide +kernel
theorem dX9_folding_98 : decode cX9_folding 98 = .ok (.aload_n 0, 1) := by decide +kernel
theorem dX9_folding_99 : decode cX9_folding 99 = .ok (.getfield 94, 3) := by decide +kernel
theorem dX9_folding_102 : decode cX9_folding 102 = .ok (.iload_n 2, 1) := by decide +kernel
theorem dX9_folding_103 : decode cX9_folding 103 = .ok (.iaload, 1) := by decide +kernel
theorem dX9_folding_104 : decode cX9_folding 104 = .ok (.invokevirtual 187, 3) := by decide +kernel
theorem dX9_folding_107 : decode cX9_folding 107 = .ok (.aload_n 0, 1) := by decide +kernel
theorem dX9_folding_108 : decode cX9_folding 108 = .ok (.getfield 76, 3) := by decide +kernel
theorem dX9_folding_111 : decode cX9_folding 111 = .ok (.iload_n 1, 1) := by decide +kernel
theorem dX9_folding_112 : decode cX9_folding 112 = .ok (.dup2, 1) := by decide +kernel
theorem dX9_folding_113 : decode cX9_folding 113 = .ok (.iaload, 1) := by decide +kernel
theorem dX9_folding_114 : decode cX9_folding 114 = .ok (.aload_n 0, 1) := by decide +kernel
theorem dX9_folding_115 : decode cX9_folding 115 = .ok (.getfield 28, 3) := by decide +kernel
theorem dX9_folding_118 : decode cX9_folding 118 = .ok (.iconst 3, 1) := by decide +kernel
theorem dX9_folding_119 : decode cX9_folding 119 = .ok (.iload_n 3, 1) := by decide +kernel
theorem dX9_folding_120 : decode cX9_folding 120 = .ok (.imul, 1) := by decide +kernel
theorem dX9_folding_121 : decode cX9_folding 121 = .ok (.iload 4, 2) := by decide +kernel
theorem dX9_folding_123 : decode cX9_folding 123 = .ok (.iadd, 1) := by decide +kernel
theorem dX9_folding_124 : decode cX9_folding 124 = .ok (.iaload, 1) := by decide +kernel
theorem dX9_folding_125 : decode cX9_folding 125 = .ok (.invokestatic 191, 3) := by decide +kernel
theorem dX9_folding_128 : decode cX9_folding 128 = .ok (.iadd, 1) := by decide +kernel
theorem dX9_folding_129 : decode cX9_folding 129 = .ok (.iastore, 1) := by decide +kernel
theorem dX9_folding_130 : decode cX9_folding 130 = .ok (.iinc 4 1, 3) := by decide +kernel
theorem dX9_folding_133 : decode cX9_folding 133 = .ok (.goto (-64), 3) := by decide +kernel
theorem dX9_folding_136 : decode cX9_folding 136 = .ok (.return_, 1) := by decide +kernel
theorem dX9_composing_0 : decode cX9_composing 0 = .ok (.aload_n 0, 1) := by decide +kernel
theorem dX9_composing_1 : decode cX9_composing 1 = .ok (.getfield 184, 3) := by decide +kernel
theorem dX9_composing_4 : decode cX9_composing 4 = .ok (.ifCond .ne 7, 3) := by decide +kernel
theorem dX9_composing_7 : decode cX9_composing 7 = .ok (.iconst (-1), 1) := by decide +kernel
theorem dX9_composing_8 : decode cX9_composing 8 = .ok (.goto 24, 3) := by decide +kernel
theorem dX9_composing_11 : decode cX9_composing 11 = .ok (.aload_n 0, 1) := by decide +kernel
theorem dX9_composing_12 : decode cX9_composing 12 = .ok (.aload_n 0, 1) := by decide +kernel
theorem dX9_composing_13 : decode cX9_composing 13 = .ok (.getfield 97, 3) := by decide +kernel
theorem dX9_composing_16 : decode cX9_composing 16 = .ok (.aload_n 0, 1) := by decide +kernel
theorem dX9_composing_17 : decode cX9_composing 17 = .ok (.getfield 184, 3) := by decide +kernel
theorem dX9_composing_20 : decode cX9_composing 20 = .ok (.iconst 1, 1) := by decide +kernel
theorem dX9_composing_21 : decode cX9_composing 21 = .ok (.isub, 1) := by decide +kernel
theorem dX9_composing_22 : decode cX9_composing 22 = .ok (.iaload, 1) := by decide +kernel
theorem dX9_composing_23 : decode cX9_composing 23 = .ok (.aload_n 0, 1) := by decide +kernel
theorem dX9_composing_24 : decode cX9_composing 24 = .ok (.getfield 88, 3) := by decide +kernel
theorem dX9_composing_27 : decode cX9_composing 27 = .ok (.iload_n 2, 1) := by decide +kernel
theorem dX9_composing_28 : decode cX9_composing 28 = .ok (.iaload, 1) := by decide +kernel
theorem dX9_composing_29 : decode cX9_composing 29 = .ok (.invokevirtual 171, 3) := by decide +kernel
theorem dX9_composing_32 : decode cX9_composing 32 = .ok (.istore_n 3, 1) := by decide +kernel
theorem dX9_composing_33 : decode cX9_composing 33 = .ok (.iload_n 3, 1) := by decide +kernel
theorem dX9_composing_34 : decode cX9_composing 34 = .ok (.ifCond .ge 26, 3) := by decide +kernel
theorem dX9_composing_37 : decode cX9_composing 37 = .ok (.aload_n 0, 1) := by decide +kernel
theorem dX9_composing_38 : decode cX9_composing 38 = .ok (.aload_n 0, 1) := by decide +kernel
theorem dX9_composing_39 : decode cX9_composing 39 = .ok (.getfield 88, 3) := by decide +kernel
theorem dX9_composing_42 : decode cX9_composing 42 = .ok (.iload_n 2, 1) := by decide +kernel
theorem dX9_composing_43 : decode cX9_composing 43 = .ok (.iaload, 1) := by decide +kernel
theorem dX9_composing_44 : decode cX9_composing 44 = .ok (.aload_n 0, 1) := by decide +kernel
theorem dX9_composing_45 : decode cX9_composing 45 = .ok (.getfield 91, 3) := by decide +kernel
theorem dX9_composing_48 : decode cX9_composing 48 = .ok (.iload_n 2, 1) := by decide +kernel
theorem dX9_composing_49 : decode cX9_composing 49 = .ok (.iaload, 1) := by decide +kernel
theorem dX9_composing_50 : decode cX9_composing 50 = .ok (.aload_n 0, 1) := by decide +kernel
theorem dX9_composing_51 : decode cX9_composing 51 = .ok (.getfield 94, 3) := by decide +kernel
theorem dX9_composing_54 : decode cX9_composing 54 = .ok (.iload_n 2, 1) := by decide +kernel
theorem dX9_composing_55 : decode cX9_composing 55 = .ok (.iaload, 1) := by decide +kernel
theorem dX9_composing_56 : decode cX9_composing 56 = .ok (.invokevirtual 187, 3) := by decide +kernel
theorem dX9_composing_59 : decode cX9_composing 59 = .ok (.return_, 1) := by decide +kernel
theorem dX9_composing_60 : decode cX9_composing 60 = .ok (.aload_n 0, 1) := by decide +kernel
theorem dX9_composing_61 : decode cX9_composing 61 = .ok (.getfield 73, 3) := by decide +kernel
theorem dX9_composing_64 : decode cX9_composing 64 = .ok (.iload_n 1, 1) := by decide +kernel
theorem dX9_composing_65 : decode cX9_composing 65 = .ok (.dup2, 1) := by decide +kernel
theorem dX9_composing_66 : decode cX9_composing 66 = .ok (.iaload, 1) := by decide +kernel
theorem dX9_composing_67 : decode cX9_composing 67 = .ok (.iconst 1, 1) := by decide +kernel
theorem dX9_composing_68 : decode cX9_composing 68 = .ok (.iadd, 1) := by decide +kernel
theorem dX9_composing_69 : decode cX9_composing 69 = .ok (.iastore, 1) := by decide +kernel
theorem dX9_composing_70 : decode cX9_composing 70 = .ok (.aload_n 0, 1) := by decide +kernel
theorem dX9_composing_71 : decode cX9_composing 71 = .ok (.getfield 97, 3) := by decide +kernel
theorem dX9_composing_74 : decode cX9_composing 74 = .ok (.aload_n 0, 1) := by decide +kernel
theorem dX9_composing_75 : decode cX9_composing 75 = .ok (.getfield 184, 3) := by decide +kernel
theorem dX9_composing_78 : decode cX9_composing 78 = .ok (.iconst 1, 1) := by decide +kernel
theorem dX9_composing_79 : decode cX9_composing 79 = .ok (.isub, 1) := by decide +kernel
theorem dX9_composing_80 : decode cX9_composing 80 = .ok (.aload_n 0, 1) := by decide +kernel
theorem dX9_composing_81 : decode cX9_composing 81 = .ok (.getfield 37, 3) := by decide +kernel
theorem dX9_composing_84 : decode cX9_composing 84 = .ok (.iload_n 3, 1) := by decide +kernel
theorem dX9_composing_85 : decode cX9_composing 85 = .ok (.iaload, 1) := by decide +kernel
theorem dX9_composing_86 : decode cX9_composing 86 = .ok (.iastore, 1) := by decide +kernel
theorem dX9_composing_87 : decode cX9_composing 87 = .ok (.aload_n 0, 1) := by decide +kernel
theorem dX9_composing_88 : decode cX9_composing 88 = .ok (.getfield 103, 3) := by decide +kernel
theorem dX9_composing_91 : decode cX9_composing 91 = .ok (.aload_n 0, 1) := by decide +kernel
theorem dX9_composing_92 : decode cX9_composing 92 = .ok (.getfield 184, 3) := by decide +kernel
theorem dX9_composing_95 : decode cX9_composing 95 = .ok (.iconst 1, 1) := by decide +kernel
theorem dX9_composing_96 : decode cX9_composing 96 = .ok (.isub, 1) := by decide +kernel
theorem dX9_composing_97 : decode cX9_composing 97 = .ok (.aload_n 0, 1) := by decide +kernel
theorem dX9_composing_98 : decode cX9_composing 98 = .ok (.getfield 94, 3) := by decide +kernel
theorem dX9_composing_101 : decode cX9_composing 101 = .ok (.iload_n 2, 1) := by decide +kernel
theorem dX9_composing_102 : decode cX9_composing 102 = .ok (.iaload, 1) := by decide +kernel
theorem dX9_composing_103 : decode cX9_composing 103 = .ok (.iastore, 1) := by decide +kernel
theorem dX9_composing_104 : decode cX9_composing 104 = .ok (.return_, 1) := by decide +kernel
theorem dX9_digitOf_0 : decode cX9_digitOf 0 = .ok (.bipush (-9), 2) := by decide +kernel
theorem dX9_digitOf_2 : decode cX9_digitOf 2 = .ok (.istore_n 2, 1) := by decide +kernel
theorem dX9_digitOf_3 : decode cX9_digitOf 3 = .ok (.aload_n 0, 1) := by decide +kernel
theorem dX9_digitOf_4 : decode cX9_digitOf 4 = .ok (.getfield 175, 3) := by decide +kernel
theorem dX9_digitOf_7 : decode cX9_digitOf 7 = .ok (.iconst 1, 1) := by decide +kernel
theorem dX9_digitOf_8 : decode cX9_digitOf 8 = .ok (.isub, 1) := by decide +kernel
theorem dX9_digitOf_9 : decode cX9_digitOf 9 = .ok (.istore_n 3, 1) := by decide +kernel
theorem dX9_digitOf_10 : decode cX9_digitOf 10 = .ok (.iload_n 3, 1) := by decide +kernel
theorem dX9_digitOf_11 : decode cX9_digitOf 11 = .ok (.ifCond .lt 44, 3) := by decide +kernel
theorem dX9_digitOf_14 : decode cX9_digitOf 14 = .ok (.iload_n 1, 1) := by decide +kernel
theorem dX9_digitOf_15 : decode cX9_digitOf 15 = .ok (.aload_n 0, 1) := by decide +kernel
theorem dX9_digitOf_16 : decode cX9_digitOf 16 = .ok (.getfield 40, 3) := by decide +kernel
theorem dX9_digitOf_19 : decode cX9_digitOf 19 = .ok (.iload_n 3, 1) := by decide +kernel
theorem dX9_digitOf_20 : decode cX9_digitOf 20 = .ok (.iaload, 1) := by decide +kernel
theorem dX9_digitOf_21 : decode cX9_digitOf 21 = .ok (.aload_n 0, 1) := by decide +kernel
theorem dX9_digitOf_22 : decode cX9_digitOf 22 = .ok (.getfield 40, 3) := by decide +kernel
theorem dX9_digitOf_25 : decode cX9_digitOf 25 = .ok (.iload_n 3, 1) := by decide +kernel
theorem dX9_digitOf_26 : decode cX9_digitOf 26 = .ok (.iaload, 1) := by decide +kernel
theorem dX9_digitOf_27 : decode cX9_digitOf 27 = .ok (.bipush 9, 2) := by decide +kernel
theorem dX9_digitOf_29 : decode cX9_digitOf 29 = .ok (.iadd, 1) := by decide +kernel
theorem dX9_digitOf_30 : decode cX9_digitOf 30 = .ok (.invokestatic 111, 3) := by decide +kernel
theorem dX9_digitOf_33 : decode cX9_digitOf 33 = .ok (.ifCond .eq 14, 3) := by decide +kernel
theorem dX9_digitOf_36 : decode cX9_digitOf 36 = .ok (.iload_n 1, 1) := by decide +kernel
theorem dX9_digitOf_37 : decode cX9_digitOf 37 = .ok (.aload_n 0, 1) := by decide +kernel
theorem dX9_digitOf_38 : decode cX9_digitOf 38 = .ok (.getfield 40, 3) := by decide +kernel
theorem dX9_digitOf_41 : decode cX9_digitOf 41 = .ok (.iload_n 3, 1) := by decide +kernel
theorem dX9_digitOf_42 : decode cX9_digitOf 42 = .ok (.iaload, 1) := by decide +kernel
theorem dX9_digitOf_43 : decode cX9_digitOf 43 = .ok (.isub, 1) := by decide +kernel
theorem dX9_digitOf_44 : decode cX9_digitOf 44 = .ok (.goto 4, 3) := by decide +kernel
theorem dX9_digitOf_47 : decode cX9_digitOf 47 = .ok (.iload_n 2, 1) := by decide +kernel
theorem dX9_digitOf_48 : decode cX9_digitOf 48 = .ok (.istore_n 2, 1) := by decide +kernel
theorem dX9_digitOf_49 : decode cX9_digitOf 49 = .ok (.iinc 3 (-1), 3) := by decide +kernel
theorem dX9_digitOf_52 : decode cX9_digitOf 52 = .ok (.goto (-42), 3) := by decide +kernel
theorem dX9_digitOf_55 : decode cX9_digitOf 55 = .ok (.iload_n 2, 1) := by decide +kernel
theorem dX9_digitOf_56 : decode cX9_digitOf 56 = .ok (.ireturn, 1) := by decide +kernel
theorem dX9_isDropped_0 : decode cX9_isDropped 0 = .ok (.iconst 0, 1) := by decide +kernel
theorem dX9_isDropped_1 : decode cX9_isDropped 1 = .ok (.istore_n 2, 1) := by decide +kernel
theorem dX9_isDropped_2 : decode cX9_isDropped 2 = .ok (.iconst 0, 1) := by decide +kernel
theorem dX9_isDropped_3 : decode cX9_isDropped 3 = .ok (.istore_n 3, 1) := by decide +kernel
theorem dX9_isDropped_4 : decode cX9_isDropped 4 = .ok (.iload_n 3, 1) := by decide +kernel
theorem dX9_isDropped_5 : decode cX9_isDropped 5 = .ok (.aload_n 0, 1) := by decide +kernel
theorem dX9_isDropped_6 : decode cX9_isDropped 6 = .ok (.getfield 178, 3) := by decide +kernel
theorem dX9_isDropped_9 : decode cX9_isDropped 9 = .ok (.if_icmp .ge 28, 3) := by decide +kernel
theorem dX9_isDropped_12 : decode cX9_isDropped 12 = .ok (.iload_n 2, 1) := by decide +kernel
theorem dX9_isDropped_13 : decode cX9_isDropped 13 = .ok (.iload_n 1, 1) := by decide +kernel
theorem dX9_isDropped_14 : decode cX9_isDropped 14 = .ok (.aload_n 0, 1) := by decide +kernel
theorem dX9_isDropped_15 : decode cX9_isDropped 15 = .ok (.getfield 43, 3) := by decide +kernel
theorem dX9_isDropped_18 : decode cX9_isDropped 18 = .ok (.iload_n 3, 1) := by decide +kernel
theorem dX9_isDropped_19 : decode cX9_isDropped 19 = .ok (.iaload, 1) := by decide +kernel
theorem dX9_isDropped_20 : decode cX9_isDropped 20 = .ok (.aload_n 0, 1) := by decide +kernel
theorem dX9_isDropped_21 : decode cX9_isDropped 21 = .ok (.getfield 46, 3) := by decide +kernel
theorem dX9_isDropped_24 : decode cX9_isDropped 24 = .ok (.iload_n 3, 1) := by decide +kernel
theorem dX9_isDropped_25 : decode cX9_isDropped 25 = .ok (.iaload, 1) := by decide +kernel
theorem dX9_isDropped_26 : decode cX9_isDropped 26 = .ok (.invokestatic 111, 3) := by decide +kernel
theorem dX9_isDropped_29 : decode cX9_isDropped 29 = .ok (.ior, 1) := by decide +kernel
theorem dX9_isDropped_30 : decode cX9_isDropped 30 = .ok (.istore_n 2, 1) := by decide +kernel
theorem dX9_isDropped_31 : decode cX9_isDropped 31 = .ok (.iinc 3 1, 3) := by decide +kernel
theorem dX9_isDropped_34 : decode cX9_isDropped 34 = .ok (.goto (-30), 3) := by decide +kernel
theorem dX9_isDropped_37 : decode cX9_isDropped 37 = .ok (.iload_n 2, 1) := by decide +kernel
theorem dX9_isDropped_38 : decode cX9_isDropped 38 = .ok (.ireturn, 1) := by decide +kernel
theorem dX9_stringAt_0 : decode cX9_stringAt 0 = .ok (.iconst (-1), 1) := by decide +kernel
theorem dX9_stringAt_1 : decode cX9_stringAt 1 = .ok (.istore_n 2, 1) := by decide +kernel
theorem dX9_stringAt_2 : decode cX9_stringAt 2 = .ok (.iconst 0, 1) := by decide +kernel
theorem dX9_stringAt_3 : decode cX9_stringAt 3 = .ok (.istore_n 3, 1) := by decide +kernel
theorem dX9_stringAt_4 : decode cX9_stringAt 4 = .ok (.iload_n 3, 1) := by decide +kernel
theorem dX9_stringAt_5 : decode cX9_stringAt 5 = .ok (.aload_n 0, 1) := by decide +kernel
theorem dX9_stringAt_6 : decode cX9_stringAt 6 = .ok (.getfield 149, 3) := by decide +kernel
theorem dX9_stringAt_9 : decode cX9_stringAt 9 = .ok (.if_icmp .ge 117, 3) := by decide +kernel
theorem dX9_stringAt_12 : decode cX9_stringAt 12 = .ok (.iload_n 1, 1) := by decide +kernel
theorem dX9_stringAt_13 : decode cX9_stringAt 13 = .ok (.aload_n 0, 1) := by decide +kernel
theorem dX9_stringAt_14 : decode cX9_stringAt 14 = .ok (.getfield 49, 3) := by decide +kernel
theorem dX9_stringAt_17 : decode cX9_stringAt 17 = .ok (.iload_n 3, 1) := by decide +kernel
theorem dX9_stringAt_18 : decode cX9_stringAt 18 = .ok (.iaload, 1) := by decide +kernel
theorem dX9_stringAt_19 : decode cX9_stringAt 19 = .ok (.iadd, 1) := by decide +kernel
theorem dX9_stringAt_20 : decode cX9_stringAt 20 = .ok (.aload_n 0, 1) := by decide +kernel
theorem dX9_stringAt_21 : decode cX9_stringAt 21 = .ok (.getfield 194, 3) := by decide +kernel
theorem dX9_stringAt_24 : decode cX9_stringAt 24 = .ok (.if_icmp .gt 7, 3) := by decide +kernel
theorem dX9_stringAt_27 : decode cX9_stringAt 27 = .ok (.iconst 1, 1) := by decide +kernel
theorem dX9_stringAt_28 : decode cX9_stringAt 28 = .ok (.goto 4, 3) := by decide +kernel
theorem dX9_stringAt_31 : decode cX9_stringAt 31 = .ok (.iconst 0, 1) := by decide +kernel
theorem dX9_stringAt_32 : decode cX9_stringAt 32 = .ok (.istore 4, 2) := by decide +kernel
theorem dX9_stringAt_34 : decode cX9_stringAt 34 = .ok (.iconst 0, 1) := by decide +kernel
theorem dX9_stringAt_35 : decode cX9_stringAt 35 = .ok (.istore 5, 2) := by decide +kernel
theorem dX9_stringAt_37 : decode cX9_stringAt 37 = .ok (.iload 5, 2) := by decide +kernel
theorem dX9_stringAt_39 : decode cX9_stringAt 39 = .ok (.aload_n 0, 1) := by decide +kernel
theorem dX9_stringAt_40 : decode cX9_stringAt 40 = .ok (.getfield 49, 3) := by decide +kernel
theorem dX9_stringAt_43 : decode cX9_stringAt 43 = .ok (.iload_n 3, 1) := by decide +kernel
theorem dX9_stringAt_44 : decode cX9_stringAt 44 = .ok (.iaload, 1) := by decide +kernel
theorem dX9_stringAt_45 : decode cX9_stringAt 45 = .ok (.if_icmp .ge 45, 3) := by decide +kernel
theorem dX9_stringAt_48 : decode cX9_stringAt 48 = .ok (.iload 4, 2) := by decide +kernel
theorem dX9_stringAt_50 : decode cX9_stringAt 50 = .ok (.ifCond .eq 40, 3) := by decide +kernel
theorem dX9_stringAt_53 : decode cX9_stringAt 53 = .ok (.aload_n 0, 1) := by decide +kernel
theorem dX9_stringAt_54 : decode cX9_stringAt 54 = .ok (.getfield 55, 3) := by decide +kernel
theorem dX9_stringAt_57 : decode cX9_stringAt 57 = .ok (.bipush 100, 2) := by decide +kernel
theorem dX9_stringAt_59 : decode cX9_stringAt 59 = .ok (.iload_n 3, 1) := by decide +kernel
theorem dX9_stringAt_60 : decode cX9_stringAt 60 = .ok (.imul, 1) := by decide +kernel
theorem dX9_stringAt_61 : decode cX9_stringAt 61 = .ok (.iload 5, 2) := by decide +kernel
theorem dX9_stringAt_63 : decode cX9_stringAt 63 = .ok (.iadd, 1) := by decide +kernel
theorem dX9_stringAt_64 : decode cX9_stringAt 64 = .ok (.iaload, 1) := by decide +kernel
theorem dX9_stringAt_65 : decode cX9_stringAt 65 = .ok (.aload_n 0, 1) := by decide +kernel
theorem dX9_stringAt_66 : decode cX9_stringAt 66 = .ok (.getfield 88, 3) := by decide +kernel
theorem dX9_stringAt_69 : decode cX9_stringAt 69 = .ok (.iload_n 1, 1) := by decide +kernel
theorem dX9_stringAt_70 : decode cX9_stringAt 70 = .ok (.iload 5, 2) := by decide +kernel
theorem dX9_stringAt_72 : decode cX9_stringAt 72 = .ok (.iadd, 1) := by decide +kernel
theorem dX9_stringAt_73 : decode cX9_stringAt 73 = .ok (.iaload, 1) := by decide +kernel
theorem dX9_stringAt_74 : decode cX9_stringAt 74 = .ok (.if_icmp .ne 7, 3) := by decide +kernel
theorem dX9_stringAt_77 : decode cX9_stringAt 77 = .ok (.iconst 1, 1) := by decide +kernel
theorem dX9_stringAt_78 : decode cX9_stringAt 78 = .ok (.goto 4, 3) := by decide +kernel
theorem dX9_stringAt_81 : decode cX9_stringAt 81 = .ok (.iconst 0, 1) := by decide +kernel
theorem dX9_stringAt_82 : decode cX9_stringAt 82 = .ok (.istore 4, 2) := by decide +kernel
theorem dX9_stringAt_84 : decode cX9_stringAt 84 = .ok (.iinc 5 1, 3) := by decide +kernel
theorem dX9_stringAt_87 : decode cX9_stringAt 87 = .ok (.goto (-50), 3) := by decide +kernel
theorem dX9_stringAt_90 : decode cX9_stringAt 90 = .ok (.iload 4, 2) := by decide +kernel
theorem dX9_stringAt_92 : decode cX9_stringAt 92 = .ok (.ifCond .eq 26, 3) := by decide +kernel
theorem dX9_stringAt_95 : decode cX9_stringAt 95 = .ok (.iload_n 2, 1) := by decide +kernel
theorem dX9_stringAt_96 : decode cX9_stringAt 96 = .ok (.ifCond .lt 18, 3) := by decide +kernel
theorem dX9_stringAt_99 : decode cX9_stringAt 99 = .ok (.aload_n 0, 1) := by decide +kernel
theorem dX9_stringAt_100 : decode cX9_stringAt 100 = .ok (.getfield 49, 3) := by decide +kernel
theorem dX9_stringAt_103 : decode cX9_stringAt 103 = .ok (.iload_n 3, 1) := by decide +kernel
theorem dX9_stringAt_104 : decode cX9_stringAt 104 = .ok (.iaload, 1) := by decide +kernel
theorem dX9_stringAt_105 : decode cX9_stringAt 105 = .ok (.aload_n 0, 1) := by decide +kernel
theorem dX9_stringAt_106 : decode cX9_stringAt 106 = .ok (.getfield 49, 3) := by decide +kernel
theorem dX9_stringAt_109 : decode cX9_stringAt 109 = .ok (.iload_n 2, 1) := by decide +kernel
theorem dX9_stringAt_110 : decode cX9_stringAt 110 = .ok (.iaload, 1) := by decide +kernel
theorem dX9_stringAt_111 : decode cX9_stringAt 111 = .ok (.if_icmp .le 7, 3) := by decide +kernel
theorem dX9_stringAt_114 : decode cX9_stringAt 114 = .ok (.iload_n 3, 1) := by decide +kernel
theorem dX9_stringAt_115 : decode cX9_stringAt 115 = .ok (.goto 4, 3) := by decide +kernel
theorem dX9_stringAt_118 : decode cX9_stringAt 118 = .ok (.iload_n 2, 1) := by decide +kernel
theorem dX9_stringAt_119 : decode cX9_stringAt 119 = .ok (.istore_n 2, 1) := by decide +kernel
theorem dX9_stringAt_120 : decode cX9_stringAt 120 = .ok (.iinc 3 1, 3) := by decide +kernel
theorem dX9_stringAt_123 : decode cX9_stringAt 123 = .ok (.goto (-119), 3) := by decide +kernel
theorem dX9_stringAt_126 : decode cX9_stringAt 126 = .ok (.iload_n 2, 1) := by decide +kernel
theorem dX9_stringAt_127 : decode cX9_stringAt 127 = .ok (.ireturn, 1) := by decide +kernel
theorem dX9_replacing_0 : decode cX9_replacing 0 = .ok (.aload_n 0, 1) := by decide +kernel
theorem dX9_replacing_1 : decode cX9_replacing 1 = .ok (.iload_n 2, 1) := by decide +kernel
theorem dX9_replacing_2 : decode cX9_replacing 2 = .ok (.invokevirtual 197, 3) := by decide +kernel
theorem dX9_replacing_5 : decode cX9_replacing 5 = .ok (.istore_n 3, 1) := by decide +kernel
theorem dX9_replacing_6 : decode cX9_replacing 6 = .ok (.iload_n 3, 1) := by decide +kernel
theorem dX9_replacing_7 : decode cX9_replacing 7 = .ok (.ifCond .ge 27, 3) := by decide +kernel
theorem dX9_replacing_10 : decode cX9_replacing 10 = .ok (.aload_n 0, 1) := by decide +kernel
theorem dX9_replacing_11 : decode cX9_replacing 11 = .ok (.aload_n 0, 1) := by decide +kernel
theorem dX9_replacing_12 : decode cX9_replacing 12 = .ok (.getfield 88, 3) := by decide +kernel
theorem dX9_replacing_15 : decode cX9_replacing 15 = .ok (.iload_n 2, 1) := by decide +kernel
theorem dX9_replacing_16 : decode cX9_replacing 16 = .ok (.iaload, 1) := by decide +kernel
theorem dX9_replacing_17 : decode cX9_replacing 17 = .ok (.aload_n 0, 1) := by decide +kernel
theorem dX9_replacing_18 : decode cX9_replacing 18 = .ok (.getfield 91, 3) := by decide +kernel
theorem dX9_replacing_21 : decode cX9_replacing 21 = .ok (.iload_n 2, 1) := by decide +kernel
theorem dX9_replacing_22 : decode cX9_replacing 22 = .ok (.iaload, 1) := by decide +kernel
theorem dX9_replacing_23 : decode cX9_replacing 23 = .ok (.aload_n 0, 1) := by decide +kernel
theorem dX9_replacing_24 : decode cX9_replacing 24 = .ok (.getfield 94, 3) := by decide +kernel
theorem dX9_replacing_27 : decode cX9_replacing 27 = .ok (.iload_n 2, 1) := by decide +kernel
theorem dX9_replacing_28 : decode cX9_replacing 28 = .ok (.iaload, 1) := by decide +kernel
theorem dX9_replacing_29 : decode cX9_replacing 29 = .ok (.invokevirtual 187, 3) := by decide +kernel
theorem dX9_replacing_32 : decode cX9_replacing 32 = .ok (.iconst 1, 1) := by decide +kernel
theorem dX9_replacing_33 : decode cX9_replacing 33 = .ok (.ireturn, 1) := by decide +kernel
theorem dX9_replacing_34 : decode cX9_replacing 34 = .ok (.aload_n 0, 1) := by decide +kernel
theorem dX9_replacing_35 : decode cX9_replacing 35 = .ok (.getfield 73, 3) := by decide +kernel
theorem dX9_replacing_38 : decode cX9_replacing 38 = .ok (.iload_n 1, 1) := by decide +kernel
theorem dX9_replacing_39 : decode cX9_replacing 39 = .ok (.dup2, 1) := by decide +kernel
theorem dX9_replacing_40 : decode cX9_replacing 40 = .ok (.iaload, 1) := by decide +kernel
theorem dX9_replacing_41 : decode cX9_replacing 41 = .ok (.iconst 1, 1) := by decide +kernel
theorem dX9_replacing_42 : decode cX9_replacing 42 = .ok (.iadd, 1) := by decide +kernel
theorem dX9_replacing_43 : decode cX9_replacing 43 = .ok (.iastore, 1) := by decide +kernel
theorem dX9_replacing_44 : decode cX9_replacing 44 = .ok (.aload_n 0, 1) := by decide +kernel
theorem dX9_replacing_45 : decode cX9_replacing 45 = .ok (.getfield 94, 3) := by decide +kernel
theorem dX9_replacing_48 : decode cX9_replacing 48 = .ok (.iload_n 2, 1) := by decide +kernel
theorem dX9_replacing_49 : decode cX9_replacing 49 = .ok (.aload_n 0, 1) := by decide +kernel
theorem dX9_replacing_50 : decode cX9_replacing 50 = .ok (.getfield 49, 3) := by decide +kernel
theorem dX9_replacing_53 : decode cX9_replacing 53 = .ok (.iload_n 3, 1) := by decide +kernel
theorem dX9_replacing_54 : decode cX9_replacing 54 = .ok (.iaload, 1) := by decide +kernel
theorem dX9_replacing_55 : decode cX9_replacing 55 = .ok (.iadd, 1) := by decide +kernel
theorem dX9_replacing_56 : decode cX9_replacing 56 = .ok (.iconst 1, 1) := by decide +kernel
theorem dX9_replacing_57 : decode cX9_replacing 57 = .ok (.isub, 1) := by decide +kernel
theorem dX9_replacing_58 : decode cX9_replacing 58 = .ok (.iaload, 1) := by decide +kernel
theorem dX9_replacing_59 : decode cX9_replacing 59 = .ok (.istore 4, 2) := by decide +kernel
theorem dX9_replacing_61 : decode cX9_replacing 61 = .ok (.iconst 0, 1) := by decide +kernel
theorem dX9_replacing_62 : decode cX9_replacing 62 = .ok (.istore 5, 2) := by decide +kernel
theorem dX9_replacing_64 : decode cX9_replacing 64 = .ok (.iload 5, 2) := by decide +kernel
theorem dX9_replacing_66 : decode cX9_replacing 66 = .ok (.aload_n 0, 1) := by decide +kernel
theorem dX9_replacing_67 : decode cX9_replacing 67 = .ok (.getfield 52, 3) := by decide +kernel
theorem dX9_replacing_70 : decode cX9_replacing 70 = .ok (.iload_n 3, 1) := by decide +kernel
theorem dX9_replacing_71 : decode cX9_replacing 71 = .ok (.iaload, 1) := by decide +kernel
theorem dX9_replacing_72 : decode cX9_replacing 72 = .ok (.if_icmp .ge 33, 3) := by decide +kernel
theorem dX9_replacing_75 : decode cX9_replacing 75 = .ok (.aload_n 0, 1) := by decide +kernel
theorem dX9_replacing_76 : decode cX9_replacing 76 = .ok (.aload_n 0, 1) := by decide +kernel
theorem dX9_replacing_77 : decode cX9_replacing 77 = .ok (.getfield 58, 3) := by decide +kernel
theorem dX9_replacing_80 : decode cX9_replacing 80 = .ok (.bipush 100, 2) := by decide +kernel
theorem dX9_replacing_82 : decode cX9_replacing 82 = .ok (.iload_n 3, 1) := by decide +kernel
theorem dX9_replacing_83 : decode cX9_replacing 83 = .ok (.imul, 1) := by decide +kernel
theorem dX9_replacing_84 : decode cX9_replacing 84 = .ok (.iload 5, 2) := by decide +kernel
theorem dX9_replacing_86 : decode cX9_replacing 86 = .ok (.iadd, 1) := by decide +kernel
theorem dX9_replacing_87 : decode cX9_replacing 87 = .ok (.iaload, 1) := by decide +kernel
theorem dX9_replacing_88 : decode cX9_replacing 88 = .ok (.aload_n 0, 1) := by decide +kernel
theorem dX9_replacing_89 : decode cX9_replacing 89 = .ok (.getfield 91, 3) := by decide +kernel
theorem dX9_replacing_92 : decode cX9_replacing 92 = .ok (.iload_n 2, 1) := by decide +kernel
theorem dX9_replacing_93 : decode cX9_replacing 93 = .ok (.iaload, 1) := by decide +kernel
theorem dX9_replacing_94 : decode cX9_replacing 94 = .ok (.iload 4, 2) := by decide +kernel
theorem dX9_replacing_96 : decode cX9_replacing 96 = .ok (.invokevirtual 187, 3) := by decide +kernel
theorem dX9_replacing_99 : decode cX9_replacing 99 = .ok (.iinc 5 1, 3) := by decide +kernel
theorem dX9_replacing_102 : decode cX9_replacing 102 = .ok (.goto (-38), 3) := by decide +kernel
theorem dX9_replacing_105 : decode cX9_replacing 105 = .ok (.aload_n 0, 1) := by decide +kernel
theorem dX9_replacing_106 : decode cX9_replacing 106 = .ok (.getfield 49, 3) := by decide +kernel
theorem dX9_replacing_109 : decode cX9_replacing 109 = .ok (.iload_n 3, 1) := by decide +kernel
theorem dX9_replacing_110 : decode cX9_replacing 110 = .ok (.iaload, 1) := by decide +kernel
theorem dX9_replacing_111 : decode cX9_replacing 111 = .ok (.ireturn, 1) := by decide +kernel
theorem dX9_changed_0 : decode cX9_changed 0 = .ok (.aload_n 0, 1) := by decide +kernel
theorem dX9_changed_1 : decode cX9_changed 1 = .ok (.getfield 88, 3) := by decide +kernel
theorem dX9_changed_4 : decode cX9_changed 4 = .ok (.iload_n 2, 1) := by decide +kernel
theorem dX9_changed_5 : decode cX9_changed 5 = .ok (.iaload, 1) := by decide +kernel
theorem dX9_changed_6 : decode cX9_changed 6 = .ok (.istore_n 3, 1) := by decide +kernel
theorem dX9_changed_7 : decode cX9_changed 7 = .ok (.iload_n 3, 1) := by decide +kernel
theorem dX9_changed_8 : decode cX9_changed 8 = .ok (.istore 4, 2) := by decide +kernel
theorem dX9_changed_10 : decode cX9_changed 10 = .ok (.iconst 0, 1) := by decide +kernel
theorem dX9_changed_11 : decode cX9_changed 11 = .ok (.istore 5, 2) := by decide +kernel
theorem dX9_changed_13 : decode cX9_changed 13 = .ok (.iconst 0, 1) := by decide +kernel
theorem dX9_changed_14 : decode cX9_changed 14 = .ok (.istore 6, 2) := by decide +kernel
theorem dX9_changed_16 : decode cX9_changed 16 = .ok (.aload_n 0, 1) := by decide +kernel
theorem dX9_changed_17 : decode cX9_changed 17 = .ok (.getfield 61, 3) := by decide +kernel
theorem dX9_changed_20 : decode cX9_changed 20 = .ok (.iload_n 1, 1) := by decide +kernel
theorem dX9_changed_21 : decode cX9_changed 21 = .ok (.iaload, 1) := by decide +kernel
theorem dX9_changed_22 : decode cX9_changed 22 = .ok (.iconst 1, 1) := by decide +kernel
theorem dX9_changed_23 : decode cX9_changed 23 = .ok (.isub, 1) := by decide +kernel
theorem dX9_changed_24 : decode cX9_changed 24 = .ok (.tableswitch 141 2 5 #[32, 69, 141, 83], 32) := by decide +kernel
theorem dX9_changed_56 : decode cX9_changed 56 = .ok (.aload_n 0, 1) := by decide +kernel
theorem dX9_changed_57 : decode cX9_changed 57 = .ok (.iload_n 3, 1) := by decide +kernel
theorem dX9_changed_58 : decode cX9_changed 58 = .ok (.invokevirtual 200, 3) := by decide +kernel
theorem dX9_changed_61 : decode cX9_changed 61 = .ok (.ifCond .lt 7, 3) := by decide +kernel
theorem dX9_changed_64 : decode cX9_changed 64 = .ok (.iconst 1, 1) := by decide +kernel
theorem dX9_changed_65 : decode cX9_changed 65 = .ok (.goto 4, 3) := by decide +kernel
theorem dX9_changed_68 : decode cX9_changed 68 = .ok (.iconst 0, 1) := by decide +kernel
theorem dX9_changed_69 : decode cX9_changed 69 = .ok (.istore 6, 2) := by decide +kernel
theorem dX9_changed_71 : decode cX9_changed 71 = .ok (.iload 6, 2) := by decide +kernel
theorem dX9_changed_73 : decode cX9_changed 73 = .ok (.ifCond .eq 14, 3) := by decide +kernel
theorem dX9_changed_76 : decode cX9_changed 76 = .ok (.bipush 48, 2) := by decide +kernel
theorem dX9_changed_78 : decode cX9_changed 78 = .ok (.aload_n 0, 1) := by decide +kernel
theorem dX9_changed_79 : decode cX9_changed 79 = .ok (.iload_n 3, 1) := by decide +kernel
theorem dX9_changed_80 : decode cX9_changed 80 = .ok (.invokevirtual 200, 3) := by decide +kernel
theorem dX9_changed_83 : decode cX9_changed 83 = .ok (.iadd, 1) := by decide +kernel
theorem dX9_changed_84 : decode cX9_changed 84 = .ok (.goto 4, 3) := by decide +kernel
theorem dX9_changed_87 : decode cX9_changed 87 = .ok (.iload_n 3, 1) := by decide +kernel
theorem dX9_changed_88 : decode cX9_changed 88 = .ok (.istore 4, 2) := by decide +kernel
theorem dX9_changed_90 : decode cX9_changed 90 = .ok (.goto 127, 3) := by decide +kernel
theorem dX9_changed_93 : decode cX9_changed 93 = .ok (.aload_n 0, 1) := by decide +kernel
theorem dX9_changed_94 : decode cX9_changed 94 = .ok (.iload_n 3, 1) := by decide +kernel
theorem dX9_changed_95 : decode cX9_changed 95 = .ok (.invokevirtual 203, 3) := by decide +kernel
theorem dX9_changed_98 : decode cX9_changed 98 = .ok (.istore 6, 2) := by decide +kernel
theorem dX9_changed_100 : decode cX9_changed 100 = .ok (.iload 6, 2) := by decide +kernel
theorem dX9_changed_102 : decode cX9_changed 102 = .ok (.istore 5, 2) := by decide +kernel
theorem dX9_changed_104 : decode cX9_changed 104 = .ok (.goto 113, 3) := by decide +kernel
theorem dX9_changed_107 : decode cX9_changed 107 = .ok (.iload_n 3, 1) := by decide +kernel
theorem dX9_changed_108 : decode cX9_changed 108 = .ok (.ldc 115, 2) := by decide +kernel
theorem dX9_changed_110 : decode cX9_changed 110 = .ok (.ldc 118, 2) := by decide +kernel
theorem dX9_changed_112 : decode cX9_changed 112 = .ok (.invokestatic 111, 3) := by decide +kernel
theorem dX9_changed_115 : decode cX9_changed 115 = .ok (.istore 6, 2) := by decide +kernel
theorem dX9_changed_117 : decode cX9_changed 117 = .ok (.iload 6, 2) := by decide +kernel
theorem dX9_changed_119 : decode cX9_changed 119 = .ok (.ifCond .eq 18, 3) := by decide +kernel
theorem dX9_changed_122 : decode cX9_changed 122 = .ok (.aload_n 0, 1) := by decide +kernel
theorem dX9_changed_123 : decode cX9_changed 123 = .ok (.getfield 64, 3) := by decide +kernel
theorem dX9_changed_126 : decode cX9_changed 126 = .ok (.iload_n 1, 1) := by decide +kernel
theorem dX9_changed_127 : decode cX9_changed 127 = .ok (.iaload, 1) := by decide +kernel
theorem dX9_changed_128 : decode cX9_changed 128 = .ok (.iconst 1, 1) := by decide +kernel
theorem dX9_changed_129 : decode cX9_changed 129 = .ok (.if_icmp .ne 8, 3) := by decide +kernel
theorem dX9_changed_132 : decode cX9_changed 132 = .ok (.ldc 206, 2) := by decide +kernel
theorem dX9_changed_134 : decode cX9_changed 134 = .ok (.goto 4, 3) := by decide +kernel
theorem dX9_changed_137 : decode cX9_changed 137 = .ok (.iload_n 3, 1) := by decide +kernel
theorem dX9_changed_138 : decode cX9_changed 138 = .ok (.istore 4, 2) := by decide +kernel
theorem dX9_changed_140 : decode cX9_changed 140 = .ok (.iload 6, 2) := by decide +kernel
theorem dX9_changed_142 : decode cX9_changed 142 = .ok (.ifCond .eq 17, 3) := by decide +kernel
theorem dX9_changed_145 : decode cX9_changed 145 = .ok (.aload_n 0, 1) := by decide +kernel
theorem dX9_changed_146 : decode cX9_changed 146 = .ok (.getfield 64, 3) := by decide +kernel
theorem dX9_changed_149 : decode cX9_changed 149 = .ok (.iload_n 1, 1) := by decide +kernel
theorem dX9_changed_150 : decode cX9_changed 150 = .ok (.iaload, 1) := by decide +kernel
theorem dX9_changed_151 : decode cX9_changed 151 = .ok (.iconst 2, 1) := by decide +kernel
theorem dX9_changed_152 : decode cX9_changed 152 = .ok (.if_icmp .ne 7, 3) := by decide +kernel
theorem dX9_changed_155 : decode cX9_changed 155 = .ok (.iconst 1, 1) := by decide +kernel
theorem dX9_changed_156 : decode cX9_changed 156 = .ok (.goto 4, 3) := by decide +kernel
theorem dX9_changed_159 : decode cX9_changed 159 = .ok (.iconst 0, 1) := by decide +kernel
theorem dX9_changed_160 : decode cX9_changed 160 = .ok (.istore 5, 2) := by decide +kernel
theorem dX9_changed_162 : decode cX9_changed 162 = .ok (.goto 55, 3) := by decide +kernel
theorem dX9_changed_165 : decode cX9_changed 165 = .ok (.iload_n 3, 1) := by decide +kernel
theorem dX9_changed_166 : decode cX9_changed 166 = .ok (.ldc 207, 2) := by decide +kernel
theorem dX9_changed_168 : decode cX9_changed 168 = .ok (.ldc 208, 2) := by decide +kernel
theorem dX9_changed_170 : decode cX9_changed 170 = .ok (.invokestatic 111, 3) := by decide +kernel
theorem dX9_changed_173 : decode cX9_changed 173 = .ok (.ifCond .ne 10, 3) := by decide +kernel
theorem dX9_changed_176 : decode cX9_changed 176 = .ok (.iload_n 3, 1) := by decide +kernel
theorem dX9_changed_177 : decode cX9_changed 177 = .ok (.sipush 12288, 3) := by decide +kernel
theorem dX9_changed_180 : decode cX9_changed 180 = .ok (.if_icmp .ne 7, 3) := by decide +kernel
theorem dX9_changed_183 : decode cX9_changed 183 = .ok (.iconst 1, 1) := by decide +kernel
theorem dX9_changed_184 : decode cX9_changed 184 = .ok (.goto 4, 3) := by decide +kernel
theorem dX9_changed_187 : decode cX9_changed 187 = .ok (.iconst 0, 1) := by decide +kernel
theorem dX9_changed_188 : decode cX9_changed 188 = .ok (.istore 6, 2) := by decide +kernel
theorem dX9_changed_190 : decode cX9_changed 190 = .ok (.iload 6, 2) := by decide +kernel
theorem dX9_changed_192 : decode cX9_changed 192 = .ok (.ifCond .ne 7, 3) := by decide +kernel
theorem dX9_changed_195 : decode cX9_changed 195 = .ok (.iload_n 3, 1) := by decide +kernel
theorem dX9_changed_196 : decode cX9_changed 196 = .ok (.goto 19, 3) := by decide +kernel
theorem dX9_changed_199 : decode cX9_changed 199 = .ok (.iload_n 3, 1) := by decide +kernel
theorem dX9_changed_200 : decode cX9_changed 200 = .ok (.sipush 12288, 3) := by decide +kernel
theorem dX9_changed_203 : decode cX9_changed 203 = .ok (.if_icmp .ne 8, 3) := by decide +kernel
theorem dX9_changed_206 : decode cX9_changed 206 = .ok (.bipush 32, 2) := by decide +kernel
theorem dX9_changed_208 : decode cX9_changed 208 = .ok (.goto 7, 3) := by decide +kernel
theorem dX9_changed_211 : decode cX9_changed 211 = .ok (.iload_n 3, 1) := by decide +kernel
theorem dX9_changed_212 : decode cX9_changed 212 = .ok (.ldc 209, 2) := by decide +kernel
theorem dX9_changed_214 : decode cX9_changed 214 = .ok (.isub, 1) := by decide +kernel
theorem dX9_changed_215 : decode cX9_changed 215 = .ok (.istore 4, 2) := by decide +kernel
theorem dX9_changed_217 : decode cX9_changed 217 = .ok (.aload_n 0, 1) := by decide +kernel
theorem dX9_changed_218 : decode cX9_changed 218 = .ok (.getfield 73, 3) := by decide +kernel
theorem dX9_changed_221 : decode cX9_changed 221 = .ok (.iload_n 1, 1) := by decide +kernel
theorem dX9_changed_222 : decode cX9_changed 222 = .ok (.dup2, 1) := by decide +kernel
theorem dX9_changed_223 : decode cX9_changed 223 = .ok (.iaload, 1) := by decide +kernel
theorem dX9_changed_224 : decode cX9_changed 224 = .ok (.iload 6, 2) := by decide +kernel
theorem dX9_changed_226 : decode cX9_changed 226 = .ok (.ifCond .eq 7, 3) := by decide +kernel
theorem dX9_changed_229 : decode cX9_changed 229 = .ok (.iconst 1, 1) := by decide +kernel
theorem dX9_changed_230 : decode cX9_changed 230 = .ok (.goto 4, 3) := by decide +kernel
theorem dX9_changed_233 : decode cX9_changed 233 = .ok (.iconst 0, 1) := by decide +kernel
theorem dX9_changed_234 : decode cX9_changed 234 = .ok (.iadd, 1) := by decide +kernel
theorem dX9_changed_235 : decode cX9_changed 235 = .ok (.iastore, 1) := by decide +kernel
theorem dX9_changed_236 : decode cX9_changed 236 = .ok (.iload 5, 2) := by decide +kernel
theorem dX9_changed_238 : decode cX9_changed 238 = .ok (.ifCond .ne 21, 3) := by decide +kernel
theorem dX9_changed_241 : decode cX9_changed 241 = .ok (.aload_n 0, 1) := by decide +kernel
theorem dX9_changed_242 : decode cX9_changed 242 = .ok (.iload 4, 2) := by decide +kernel
theorem dX9_changed_244 : decode cX9_changed 244 = .ok (.aload_n 0, 1) := by decide +kernel
theorem dX9_changed_245 : decode cX9_changed 245 = .ok (.getfield 91, 3) := by decide +kernel
theorem dX9_changed_248 : decode cX9_changed 248 = .ok (.iload_n 2, 1) := by decide +kernel
theorem dX9_changed_249 : decode cX9_changed 249 = .ok (.iaload, 1) := by decide +kernel
theorem dX9_changed_250 : decode cX9_changed 250 = .ok (.aload_n 0, 1) := by decide +kernel
theorem dX9_changed_251 : decode cX9_changed 251 = .ok (.getfield 94, 3) := by decide +kernel
theorem dX9_changed_254 : decode cX9_changed 254 = .ok (.iload_n 2, 1) := by decide +kernel
theorem dX9_changed_255 : decode cX9_changed 255 = .ok (.iaload, 1) := by decide +kernel
theorem dX9_changed_256 : decode cX9_changed 256 = .ok (.invokevirtual 187, 3) := by decide +kernel
theorem dX9_changed_259 : decode cX9_changed 259 = .ok (.return_, 1) := by decide +kernel
theorem dX9_goesThrough_0 : decode cX9_goesThrough 0 = .ok (.aload_n 0, 1) := by decide +kernel
theorem dX9_goesThrough_1 : decode cX9_goesThrough 1 = .ok (.iconst 0, 1) := by decide +kernel
theorem dX9_goesThrough_2 : decode cX9_goesThrough 2 = .ok (.putfield 184, 3) := by decide +kernel
theorem dX9_goesThrough_5 : decode cX9_goesThrough 5 = .ok (.iconst 0, 1) := by decide +kernel
theorem dX9_goesThrough_6 : decode cX9_goesThrough 6 = .ok (.istore_n 2, 1) := by decide +kernel
theorem dX9_goesThrough_7 : decode cX9_goesThrough 7 = .ok (.iload_n 2, 1) := by decide +kernel
theorem dX9_goesThrough_8 : decode cX9_goesThrough 8 = .ok (.aload_n 0, 1) := by decide +kernel
theorem dX9_goesThrough_9 : decode cX9_goesThrough 9 = .ok (.getfield 194, 3) := by decide +kernel
theorem dX9_goesThrough_12 : decode cX9_goesThrough 12 = .ok (.if_icmp .ge 89, 3) := by decide +kernel
theorem dX9_goesThrough_15 : decode cX9_goesThrough 15 = .ok (.iconst 1, 1) := by decide +kernel
theorem dX9_goesThrough_16 : decode cX9_goesThrough 16 = .ok (.istore_n 3, 1) := by decide +kernel
theorem dX9_goesThrough_17 : decode cX9_goesThrough 17 = .ok (.aload_n 0, 1) := by decide +kernel
theorem dX9_goesThrough_18 : decode cX9_goesThrough 18 = .ok (.getfield 61, 3) := by decide +kernel
theorem dX9_goesThrough_21 : decode cX9_goesThrough 21 = .ok (.iload_n 1, 1) := by decide +kernel
theorem dX9_goesThrough_22 : decode cX9_goesThrough 22 = .ok (.iaload, 1) := by decide +kernel
theorem dX9_goesThrough_23 : decode cX9_goesThrough 23 = .ok (.iconst 1, 1) := by decide +kernel
theorem dX9_goesThrough_24 : decode cX9_goesThrough 24 = .ok (.isub, 1) := by decide +kernel
theorem dX9_goesThrough_25 : decode cX9_goesThrough 25 = .ok (.tableswitch 63 0 4 #[35, 44, 63, 63, 53], 35) := by decide +kernel
theorem dX9_goesThrough_60 : decode cX9_goesThrough 60 = .ok (.aload_n 0, 1) := by decide +kernel
theorem dX9_goesThrough_61 : decode cX9_goesThrough 61 = .ok (.iload_n 1, 1) := by decide +kernel
theorem dX9_goesThrough_62 : decode cX9_goesThrough 62 = .ok (.iload_n 2, 1) := by decide +kernel
theorem dX9_goesThrough_63 : decode cX9_goesThrough 63 = .ok (.invokevirtual 210, 3) := by decide +kernel
theorem dX9_goesThrough_66 : decode cX9_goesThrough 66 = .ok (.goto 28, 3) := by decide +kernel
theorem dX9_goesThrough_69 : decode cX9_goesThrough 69 = .ok (.aload_n 0, 1) := by decide +kernel
theorem dX9_goesThrough_70 : decode cX9_goesThrough 70 = .ok (.iload_n 1, 1) := by decide +kernel
theorem dX9_goesThrough_71 : decode cX9_goesThrough 71 = .ok (.iload_n 2, 1) := by decide +kernel
theorem dX9_goesThrough_72 : decode cX9_goesThrough 72 = .ok (.invokevirtual 214, 3) := by decide +kernel
theorem dX9_goesThrough_75 : decode cX9_goesThrough 75 = .ok (.goto 19, 3) := by decide +kernel
theorem dX9_goesThrough_78 : decode cX9_goesThrough 78 = .ok (.aload_n 0, 1) := by decide +kernel
theorem dX9_goesThrough_79 : decode cX9_goesThrough 79 = .ok (.iload_n 1, 1) := by decide +kernel
theorem dX9_goesThrough_80 : decode cX9_goesThrough 80 = .ok (.iload_n 2, 1) := by decide +kernel
theorem dX9_goesThrough_81 : decode cX9_goesThrough 81 = .ok (.invokevirtual 217, 3) := by decide +kernel
theorem dX9_goesThrough_84 : decode cX9_goesThrough 84 = .ok (.istore_n 3, 1) := by decide +kernel
theorem dX9_goesThrough_85 : decode cX9_goesThrough 85 = .ok (.goto 9, 3) := by decide +kernel
theorem dX9_goesThrough_88 : decode cX9_goesThrough 88 = .ok (.aload_n 0, 1) := by decide +kernel
theorem dX9_goesThrough_89 : decode cX9_goesThrough 89 = .ok (.iload_n 1, 1) := by decide +kernel
theorem dX9_goesThrough_90 : decode cX9_goesThrough 90 = .ok (.iload_n 2, 1) := by decide +kernel
theorem dX9_goesThrough_91 : decode cX9_goesThrough 91 = .ok (.invokevirtual 220, 3) := by decide +kernel
theorem dX9_goesThrough_94 : decode cX9_goesThrough 94 = .ok (.iload_n 2, 1) := by decide +kernel
theorem dX9_goesThrough_95 : decode cX9_goesThrough 95 = .ok (.iload_n 3, 1) := by decide +kernel
theorem dX9_goesThrough_96 : decode cX9_goesThrough 96 = .ok (.iadd, 1) := by decide +kernel
theorem dX9_goesThrough_97 : decode cX9_goesThrough 97 = .ok (.istore_n 2, 1) := by decide +kernel
theorem dX9_goesThrough_98 : decode cX9_goesThrough 98 = .ok (.goto (-91), 3) := by decide +kernel
theorem dX9_goesThrough_101 : decode cX9_goesThrough 101 = .ok (.aload_n 0, 1) := by decide +kernel
theorem dX9_goesThrough_102 : decode cX9_goesThrough 102 = .ok (.getfield 184, 3) := by decide +kernel
theorem dX9_goesThrough_105 : decode cX9_goesThrough 105 = .ok (.sipush 300, 3) := by decide +kernel
theorem dX9_goesThrough_108 : decode cX9_goesThrough 108 = .ok (.if_icmp .le 5, 3) := by decide +kernel
theorem dX9_goesThrough_111 : decode cX9_goesThrough 111 = .ok (.iconst 0, 1) := by decide +kernel
theorem dX9_goesThrough_112 : decode cX9_goesThrough 112 = .ok (.ireturn, 1) := by decide +kernel
theorem dX9_goesThrough_113 : decode cX9_goesThrough 113 = .ok (.aload_n 0, 1) := by decide +kernel
theorem dX9_goesThrough_114 : decode cX9_goesThrough 114 = .ok (.aload_n 0, 1) := by decide +kernel
theorem dX9_goesThrough_115 : decode cX9_goesThrough 115 = .ok (.getfield 184, 3) := by decide +kernel
theorem dX9_goesThrough_118 : decode cX9_goesThrough 118 = .ok (.putfield 194, 3) := by decide +kernel
theorem dX9_goesThrough_121 : decode cX9_goesThrough 121 = .ok (.iconst 0, 1) := by decide +kernel
theorem dX9_goesThrough_122 : decode cX9_goesThrough 122 = .ok (.istore_n 3, 1) := by decide +kernel
theorem dX9_goesThrough_123 : decode cX9_goesThrough 123 = .ok (.iload_n 3, 1) := by decide +kernel
theorem dX9_goesThrough_124 : decode cX9_goesThrough 124 = .ok (.aload_n 0, 1) := by decide +kernel
theorem dX9_goesThrough_125 : decode cX9_goesThrough 125 = .ok (.getfield 184, 3) := by decide +kernel
theorem dX9_goesThrough_128 : decode cX9_goesThrough 128 = .ok (.if_icmp .ge 45, 3) := by decide +kernel
theorem dX9_goesThrough_131 : decode cX9_goesThrough 131 = .ok (.aload_n 0, 1) := by decide +kernel
theorem dX9_goesThrough_132 : decode cX9_goesThrough 132 = .ok (.getfield 88, 3) := by decide +kernel
theorem dX9_goesThrough_135 : decode cX9_goesThrough 135 = .ok (.iload_n 3, 1) := by decide +kernel
theorem dX9_goesThrough_136 : decode cX9_goesThrough 136 = .ok (.aload_n 0, 1) := by decide +kernel
theorem dX9_goesThrough_137 : decode cX9_goesThrough 137 = .ok (.getfield 97, 3) := by decide +kernel
theorem dX9_goesThrough_140 : decode cX9_goesThrough 140 = .ok (.iload_n 3, 1) := by decide +kernel
theorem dX9_goesThrough_141 : decode cX9_goesThrough 141 = .ok (.iaload, 1) := by decide +kernel
theorem dX9_goesThrough_142 : decode cX9_goesThrough 142 = .ok (.iastore, 1) := by decide +kernel
theorem dX9_goesThrough_143 : decode cX9_goesThrough 143 = .ok (.aload_n 0, 1) := by decide +kernel
theorem dX9_goesThrough_144 : decode cX9_goesThrough 144 = .ok (.getfield 91, 3) := by decide +kernel
theorem dX9_goesThrough_147 : decode cX9_goesThrough 147 = .ok (.iload_n 3, 1) := by decide +kernel
theorem dX9_goesThrough_148 : decode cX9_goesThrough 148 = .ok (.aload_n 0, 1) := by decide +kernel
theorem dX9_goesThrough_149 : decode cX9_goesThrough 149 = .ok (.getfield 100, 3) := by decide +kernel
theorem dX9_goesThrough_152 : decode cX9_goesThrough 152 = .ok (.iload_n 3, 1) := by decide +kernel
theorem dX9_goesThrough_153 : decode cX9_goesThrough 153 = .ok (.iaload, 1) := by decide +kernel
theorem dX9_goesThrough_154 : decode cX9_goesThrough 154 = .ok (.iastore, 1) := by decide +kernel
theorem dX9_goesThrough_155 : decode cX9_goesThrough 155 = .ok (.aload_n 0, 1) := by decide +kernel
theorem dX9_goesThrough_156 : decode cX9_goesThrough 156 = .ok (.getfield 94, 3) := by decide +kernel
theorem dX9_goesThrough_159 : decode cX9_goesThrough 159 = .ok (.iload_n 3, 1) := by decide +kernel
theorem dX9_goesThrough_160 : decode cX9_goesThrough 160 = .ok (.aload_n 0, 1) := by decide +kernel
theorem dX9_goesThrough_161 : decode cX9_goesThrough 161 = .ok (.getfield 103, 3) := by decide +kernel
theorem dX9_goesThrough_164 : decode cX9_goesThrough 164 = .ok (.iload_n 3, 1) := by decide +kernel
theorem dX9_goesThrough_165 : decode cX9_goesThrough 165 = .ok (.iaload, 1) := by decide +kernel
theorem dX9_goesThrough_166 : decode cX9_goesThrough 166 = .ok (.iastore, 1) := by decide +kernel
theorem dX9_goesThrough_167 : decode cX9_goesThrough 167 = .ok (.iinc 3 1, 3) := by decide +kernel
theorem dX9_goesThrough_170 : decode cX9_goesThrough 170 = .ok (.goto (-47), 3) := by decide +kernel
theorem dX9_goesThrough_173 : decode cX9_goesThrough 173 = .ok (.iconst 1, 1) := by decide +kernel
theorem dX9_goesThrough_174 : decode cX9_goesThrough 174 = .ok (.ireturn, 1) := by decide +kernel
theorem dX9_run_0 : decode cX9_run 0 = .ok (.aload_n 0, 1) := by decide +kernel
theorem dX9_run_1 : decode cX9_run 1 = .ok (.aload_n 0, 1) := by decide +kernel
theorem dX9_run_2 : decode cX9_run 2 = .ok (.getfield 135, 3) := by decide +kernel
theorem dX9_run_5 : decode cX9_run 5 = .ok (.putfield 194, 3) := by decide +kernel
theorem dX9_run_8 : decode cX9_run 8 = .ok (.iconst 0, 1) := by decide +kernel
theorem dX9_run_9 : decode cX9_run 9 = .ok (.istore_n 1, 1) := by decide +kernel
theorem dX9_run_10 : decode cX9_run 10 = .ok (.iload_n 1, 1) := by decide +kernel
theorem dX9_run_11 : decode cX9_run 11 = .ok (.aload_n 0, 1) := by decide +kernel
theorem dX9_run_12 : decode cX9_run 12 = .ok (.getfield 135, 3) := by decide +kernel
theorem dX9_run_15 : decode cX9_run 15 = .ok (.if_icmp .ge 45, 3) := by decide +kernel
theorem dX9_run_18 : decode cX9_run 18 = .ok (.aload_n 0, 1) := by decide +kernel
theorem dX9_run_19 : decode cX9_run 19 = .ok (.getfield 88, 3) := by decide +kernel
theorem dX9_run_22 : decode cX9_run 22 = .ok (.iload_n 1, 1) := by decide +kernel
theorem dX9_run_23 : decode cX9_run 23 = .ok (.aload_n 0, 1) := by decide +kernel
theorem dX9_run_24 : decode cX9_run 24 = .ok (.getfield 13, 3) := by decide +kernel
theorem dX9_run_27 : decode cX9_run 27 = .ok (.iload_n 1, 1) := by decide +kernel
theorem dX9_run_28 : decode cX9_run 28 = .ok (.iaload, 1) := by decide +kernel
theorem dX9_run_29 : decode cX9_run 29 = .ok (.iastore, 1) := by decide +kernel
theorem dX9_run_30 : decode cX9_run 30 = .ok (.aload_n 0, 1) := by decide +kernel
theorem dX9_run_31 : decode cX9_run 31 = .ok (.getfield 91, 3) := by decide +kernel
theorem dX9_run_34 : decode cX9_run 34 = .ok (.iload_n 1, 1) := by decide +kernel
theorem dX9_run_35 : decode cX9_run 35 = .ok (.aload_n 0, 1) := by decide +kernel
theorem dX9_run_36 : decode cX9_run 36 = .ok (.getfield 16, 3) := by decide +kernel
theorem dX9_run_39 : decode cX9_run 39 = .ok (.iload_n 1, 1) := by decide +kernel
theorem dX9_run_40 : decode cX9_run 40 = .ok (.iaload, 1) := by decide +kernel
theorem dX9_run_41 : decode cX9_run 41 = .ok (.iastore, 1) := by decide +kernel
theorem dX9_run_42 : decode cX9_run 42 = .ok (.aload_n 0, 1) := by decide +kernel
theorem dX9_run_43 : decode cX9_run 43 = .ok (.getfield 94, 3) := by decide +kernel
theorem dX9_run_46 : decode cX9_run 46 = .ok (.iload_n 1, 1) := by decide +kernel
theorem dX9_run_47 : decode cX9_run 47 = .ok (.aload_n 0, 1) := by decide +kernel
theorem dX9_run_48 : decode cX9_run 48 = .ok (.getfield 19, 3) := by decide +kernel
theorem dX9_run_51 : decode cX9_run 51 = .ok (.iload_n 1, 1) := by decide +kernel
theorem dX9_run_52 : decode cX9_run 52 = .ok (.iaload, 1) := by decide +kernel
theorem dX9_run_53 : decode cX9_run 53 = .ok (.iastore, 1) := by decide +kernel
theorem dX9_run_54 : decode cX9_run 54 = .ok (.iinc 1 1, 3) := by decide +kernel
theorem dX9_run_57 : decode cX9_run 57 = .ok (.goto (-47), 3) := by decide +kernel
theorem dX9_run_60 : decode cX9_run 60 = .ok (.iconst 0, 1) := by decide +kernel
theorem dX9_run_61 : decode cX9_run 61 = .ok (.istore_n 1, 1) := by decide +kernel
theorem dX9_run_62 : decode cX9_run 62 = .ok (.iload_n 1, 1) := by decide +kernel
theorem dX9_run_63 : decode cX9_run 63 = .ok (.bipush 8, 2) := by decide +kernel
theorem dX9_run_65 : decode cX9_run 65 = .ok (.if_icmp .ge 43, 3) := by decide +kernel
theorem dX9_run_68 : decode cX9_run 68 = .ok (.aload_n 0, 1) := by decide +kernel
theorem dX9_run_69 : decode cX9_run 69 = .ok (.getfield 73, 3) := by decide +kernel
theorem dX9_run_72 : decode cX9_run 72 = .ok (.iload_n 1, 1) := by decide +kernel
theorem dX9_run_73 : decode cX9_run 73 = .ok (.iconst 0, 1) := by decide +kernel
theorem dX9_run_74 : decode cX9_run 74 = .ok (.iastore, 1) := by decide +kernel
theorem dX9_run_75 : decode cX9_run 75 = .ok (.aload_n 0, 1) := by decide +kernel
theorem dX9_run_76 : decode cX9_run 76 = .ok (.getfield 76, 3) := by decide +kernel
theorem dX9_run_79 : decode cX9_run 79 = .ok (.iload_n 1, 1) := by decide +kernel
theorem dX9_run_80 : decode cX9_run 80 = .ok (.iconst 0, 1) := by decide +kernel
theorem dX9_run_81 : decode cX9_run 81 = .ok (.iastore, 1) := by decide +kernel
theorem dX9_run_82 : decode cX9_run 82 = .ok (.aload_n 0, 1) := by decide +kernel
theorem dX9_run_83 : decode cX9_run 83 = .ok (.getfield 61, 3) := by decide +kernel
theorem dX9_run_86 : decode cX9_run 86 = .ok (.iload_n 1, 1) := by decide +kernel
theorem dX9_run_87 : decode cX9_run 87 = .ok (.iaload, 1) := by decide +kernel
theorem dX9_run_88 : decode cX9_run 88 = .ok (.ifCond .le 14, 3) := by decide +kernel
theorem dX9_run_91 : decode cX9_run 91 = .ok (.aload_n 0, 1) := by decide +kernel
theorem dX9_run_92 : decode cX9_run 92 = .ok (.iload_n 1, 1) := by decide +kernel
theorem dX9_run_93 : decode cX9_run 93 = .ok (.invokevirtual 223, 3) := by decide +kernel
theorem dX9_run_96 : decode cX9_run 96 = .ok (.ifCond .ne 6, 3) := by decide +kernel
theorem dX9_run_99 : decode cX9_run 99 = .ok (.bipush (-3), 2) := by decide +kernel
theorem dX9_run_101 : decode cX9_run 101 = .ok (.ireturn, 1) := by decide +kernel
theorem dX9_run_102 : decode cX9_run 102 = .ok (.iinc 1 1, 3) := by decide +kernel
theorem dX9_run_105 : decode cX9_run 105 = .ok (.goto (-43), 3) := by decide +kernel
theorem dX9_run_108 : decode cX9_run 108 = .ok (.iconst 0, 1) := by decide +kernel
theorem dX9_run_109 : decode cX9_run 109 = .ok (.istore_n 1, 1) := by decide +kernel
theorem dX9_run_110 : decode cX9_run 110 = .ok (.iload_n 1, 1) := by decide +kernel
theorem dX9_run_111 : decode cX9_run 111 = .ok (.bipush 8, 2) := by decide +kernel
theorem dX9_run_113 : decode cX9_run 113 = .ok (.if_icmp .ge 33, 3) := by decide +kernel
theorem dX9_run_116 : decode cX9_run 116 = .ok (.aload_n 0, 1) := by decide +kernel
theorem dX9_run_117 : decode cX9_run 117 = .ok (.getfield 67, 3) := by decide +kernel
theorem dX9_run_120 : decode cX9_run 120 = .ok (.iload_n 1, 1) := by decide +kernel
theorem dX9_run_121 : decode cX9_run 121 = .ok (.aload_n 0, 1) := by decide +kernel
theorem dX9_run_122 : decode cX9_run 122 = .ok (.getfield 73, 3) := by decide +kernel
theorem dX9_run_125 : decode cX9_run 125 = .ok (.iload_n 1, 1) := by decide +kernel
theorem dX9_run_126 : decode cX9_run 126 = .ok (.iaload, 1) := by decide +kernel
theorem dX9_run_127 : decode cX9_run 127 = .ok (.iastore, 1) := by decide +kernel
theorem dX9_run_128 : decode cX9_run 128 = .ok (.aload_n 0, 1) := by decide +kernel
theorem dX9_run_129 : decode cX9_run 129 = .ok (.getfield 70, 3) := by decide +kernel
theorem dX9_run_132 : decode cX9_run 132 = .ok (.iload_n 1, 1) := by decide +kernel
theorem dX9_run_133 : decode cX9_run 133 = .ok (.aload_n 0, 1) := by decide +kernel
theorem dX9_run_134 : decode cX9_run 134 = .ok (.getfield 76, 3) := by decide +kernel
theorem dX9_run_137 : decode cX9_run 137 = .ok (.iload_n 1, 1) := by decide +kernel
theorem dX9_run_138 : decode cX9_run 138 = .ok (.iaload, 1) := by decide +kernel
theorem dX9_run_139 : decode cX9_run 139 = .ok (.iastore, 1) := by decide +kernel
theorem dX9_run_140 : decode cX9_run 140 = .ok (.iinc 1 1, 3) := by decide +kernel
theorem dX9_run_143 : decode cX9_run 143 = .ok (.goto (-33), 3) := by decide +kernel
theorem dX9_run_146 : decode cX9_run 146 = .ok (.aload_n 0, 1) := by decide +kernel
theorem dX9_run_147 : decode cX9_run 147 = .ok (.aload_n 0, 1) := by decide +kernel
theorem dX9_run_148 : decode cX9_run 148 = .ok (.getfield 194, 3) := by decide +kernel
theorem dX9_run_151 : decode cX9_run 151 = .ok (.putfield 226, 3) := by decide +kernel
theorem dX9_run_154 : decode cX9_run 154 = .ok (.iconst 0, 1) := by decide +kernel
theorem dX9_run_155 : decode cX9_run 155 = .ok (.istore_n 1, 1) := by decide +kernel
theorem dX9_run_156 : decode cX9_run 156 = .ok (.iload_n 1, 1) := by decide +kernel
theorem dX9_run_157 : decode cX9_run 157 = .ok (.aload_n 0, 1) := by decide +kernel
theorem dX9_run_158 : decode cX9_run 158 = .ok (.getfield 194, 3) := by decide +kernel
theorem dX9_run_161 : decode cX9_run 161 = .ok (.if_icmp .ge 45, 3) := by decide +kernel
theorem dX9_run_164 : decode cX9_run 164 = .ok (.aload_n 0, 1) := by decide +kernel
theorem dX9_run_165 : decode cX9_run 165 = .ok (.getfield 79, 3) := by decide +kernel
theorem dX9_run_168 : decode cX9_run 168 = .ok (.iload_n 1, 1) := by decide +kernel
theorem dX9_run_169 : decode cX9_run 169 = .ok (.aload_n 0, 1) := by decide +kernel
theorem dX9_run_170 : decode cX9_run 170 = .ok (.getfield 88, 3) := by decide +kernel
theorem dX9_run_173 : decode cX9_run 173 = .ok (.iload_n 1, 1) := by decide +kernel
theorem dX9_run_174 : decode cX9_run 174 = .ok (.iaload, 1) := by decide +kernel
theorem dX9_run_175 : decode cX9_run 175 = .ok (.iastore, 1) := by decide +kernel
theorem dX9_run_176 : decode cX9_run 176 = .ok (.aload_n 0, 1) := by decide +kernel
theorem dX9_run_177 : decode cX9_run 177 = .ok (.getfield 82, 3) := by decide +kernel
theorem dX9_run_180 : decode cX9_run 180 = .ok (.iload_n 1, 1) := by decide +kernel
theorem dX9_run_181 : decode cX9_run 181 = .ok (.aload_n 0, 1) := by decide +kernel
theorem dX9_run_182 : decode cX9_run 182 = .ok (.getfield 91, 3) := by decide +kernel
theorem dX9_run_185 : decode cX9_run 185 = .ok (.iload_n 1, 1) := by decide +kernel
theorem dX9_run_186 : decode cX9_run 186 = .ok (.iaload, 1) := by decide +kernel
theorem dX9_run_187 : decode cX9_run 187 = .ok (.iastore, 1) := by decide +kernel
theorem dX9_run_188 : decode cX9_run 188 = .ok (.aload_n 0, 1) := by decide +kernel
theorem dX9_run_189 : decode cX9_run 189 = .ok (.getfield 85, 3) := by decide +kernel
theorem dX9_run_192 : decode cX9_run 192 = .ok (.iload_n 1, 1) := by decide +kernel
theorem dX9_run_193 : decode cX9_run 193 = .ok (.aload_n 0, 1) := by decide +kernel
theorem dX9_run_194 : decode cX9_run 194 = .ok (.getfield 94, 3) := by decide +kernel
theorem dX9_run_197 : decode cX9_run 197 = .ok (.iload_n 1, 1) := by decide +kernel
theorem dX9_run_198 : decode cX9_run 198 = .ok (.iaload, 1) := by decide +kernel
theorem dX9_run_199 : decode cX9_run 199 = .ok (.iastore, 1) := by decide +kernel
theorem dX9_run_200 : decode cX9_run 200 = .ok (.iinc 1 1, 3) := by decide +kernel
theorem dX9_run_203 : decode cX9_run 203 = .ok (.goto (-47), 3) := by decide +kernel
theorem dX9_run_206 : decode cX9_run 206 = .ok (.aload_n 0, 1) := by decide +kernel
theorem dX9_run_207 : decode cX9_run 207 = .ok (.getfield 226, 3) := by decide +kernel
theorem dX9_run_210 : decode cX9_run 210 = .ok (.ireturn, 1) := by decide +kernel
theorem dX9_isOut_0 : decode cX9_isOut 0 = .ok (.iload_n 1, 1) := by decide +kernel
theorem dX9_isOut_1 : decode cX9_isOut 1 = .ok (.iconst 0, 1) := by decide +kernel
theorem dX9_isOut_2 : decode cX9_isOut 2 = .ok (.aload_n 0, 1) := by decide +kernel
theorem dX9_isOut_3 : decode cX9_isOut 3 = .ok (.getfield 226, 3) := by decide +kernel
theorem dX9_isOut_6 : decode cX9_isOut 6 = .ok (.iconst 1, 1) := by decide +kernel
theorem dX9_isOut_7 : decode cX9_isOut 7 = .ok (.isub, 1) := by decide +kernel
theorem dX9_isOut_8 : decode cX9_isOut 8 = .ok (.invokestatic 111, 3) := by decide +kernel
theorem dX9_isOut_11 : decode cX9_isOut 11 = .ok (.ireturn, 1) := by decide +kernel
theorem dX9_sign_0 : decode cX9_sign 0 = .ok (.aload_n 0, 1) := by decide +kernel
theorem dX9_sign_1 : decode cX9_sign 1 = .ok (.iload_n 1, 1) := by decide +kernel
theorem dX9_sign_2 : decode cX9_sign 2 = .ok (.invokevirtual 229, 3) := by decide +kernel
theorem dX9_sign_5 : decode cX9_sign 5 = .ok (.ifCond .eq 12, 3) := by decide +kernel
theorem dX9_sign_8 : decode cX9_sign 8 = .ok (.aload_n 0, 1) := by decide +kernel
theorem dX9_sign_9 : decode cX9_sign 9 = .ok (.getfield 79, 3) := by decide +kernel
theorem dX9_sign_12 : decode cX9_sign 12 = .ok (.iload_n 1, 1) := by decide +kernel
theorem dX9_sign_13 : decode cX9_sign 13 = .ok (.iaload, 1) := by decide +kernel
theorem dX9_sign_14 : decode cX9_sign 14 = .ok (.goto 5, 3) := by decide +kernel
theorem dX9_sign_17 : decode cX9_sign 17 = .ok (.bipush (-13), 2) := by decide +kernel
theorem dX9_sign_19 : decode cX9_sign 19 = .ok (.ireturn, 1) := by decide +kernel
theorem dX9_place_0 : decode cX9_place 0 = .ok (.aload_n 0, 1) := by decide +kernel
theorem dX9_place_1 : decode cX9_place 1 = .ok (.iload_n 1, 1) := by decide +kernel
theorem dX9_place_2 : decode cX9_place 2 = .ok (.invokevirtual 229, 3) := by decide +kernel
theorem dX9_place_5 : decode cX9_place 5 = .ok (.ifCond .ne 8, 3) := by decide +kernel
theorem dX9_place_8 : decode cX9_place 8 = .ok (.bipush (-13), 2) := by decide +kernel
theorem dX9_place_10 : decode cX9_place 10 = .ok (.goto 22, 3) := by decide +kernel
theorem dX9_place_13 : decode cX9_place 13 = .ok (.iload_n 2, 1) := by decide +kernel
theorem dX9_place_14 : decode cX9_place 14 = .ok (.ifCond .eq 12, 3) := by decide +kernel
theorem dX9_place_17 : decode cX9_place 17 = .ok (.aload_n 0, 1) := by decide +kernel
theorem dX9_place_18 : decode cX9_place 18 = .ok (.getfield 85, 3) := by decide +kernel
theorem dX9_place_21 : decode cX9_place 21 = .ok (.iload_n 1, 1) := by decide +kernel
theorem dX9_place_22 : decode cX9_place 22 = .ok (.iaload, 1) := by decide +kernel
theorem dX9_place_23 : decode cX9_place 23 = .ok (.goto 9, 3) := by decide +kernel
theorem dX9_place_26 : decode cX9_place 26 = .ok (.aload_n 0, 1) := by decide +kernel
theorem dX9_place_27 : decode cX9_place 27 = .ok (.getfield 82, 3) := by decide +kernel
theorem dX9_place_30 : decode cX9_place 30 = .ok (.iload_n 1, 1) := by decide +kernel
theorem dX9_place_31 : decode cX9_place 31 = .ok (.iaload, 1) := by decide +kernel
theorem dX9_place_32 : decode cX9_place 32 = .ok (.ireturn, 1) := by decide +kernel
theorem dX9_units_0 : decode cX9_units 0 = .ok (.iconst 0, 1) := by decide +kernel
theorem dX9_units_1 : decode cX9_units 1 = .ok (.istore_n 1, 1) := by decide +kernel
theorem dX9_units_2 : decode cX9_units 2 = .ok (.iconst 0, 1) := by decide +kernel
theorem dX9_units_3 : decode cX9_units 3 = .ok (.istore_n 2, 1) := by decide +kernel
theorem dX9_units_4 : decode cX9_units 4 = .ok (.iload_n 2, 1) := by decide +kernel
theorem dX9_units_5 : decode cX9_units 5 = .ok (.aload_n 0, 1) := by decide +kernel
theorem dX9_units_6 : decode cX9_units 6 = .ok (.getfield 226, 3) := by decide +kernel
theorem dX9_units_9 : decode cX9_units 9 = .ok (.if_icmp .ge 21, 3) := by decide +kernel
theorem dX9_units_12 : decode cX9_units 12 = .ok (.iload_n 1, 1) := by decide +kernel
theorem dX9_units_13 : decode cX9_units 13 = .ok (.aload_n 0, 1) := by decide +kernel
theorem dX9_units_14 : decode cX9_units 14 = .ok (.getfield 79, 3) := by decide +kernel
theorem dX9_units_17 : decode cX9_units 17 = .ok (.iload_n 2, 1) := by decide +kernel
theorem dX9_units_18 : decode cX9_units 18 = .ok (.iaload, 1) := by decide +kernel
theorem dX9_units_19 : decode cX9_units 19 = .ok (.invokestatic 191, 3) := by decide +kernel
theorem dX9_units_22 : decode cX9_units 22 = .ok (.iadd, 1) := by decide +kernel
theorem dX9_units_23 : decode cX9_units 23 = .ok (.istore_n 1, 1) := by decide +kernel
theorem dX9_units_24 : decode cX9_units 24 = .ok (.iinc 2 1, 3) := by decide +kernel
theorem dX9_units_27 : decode cX9_units 27 = .ok (.goto (-23), 3) := by decide +kernel
theorem dX9_units_30 : decode cX9_units 30 = .ok (.iload_n 1, 1) := by decide +kernel
theorem dX9_units_31 : decode cX9_units 31 = .ok (.ireturn, 1) := by decide +kernel
theorem dX9_unitAt_0 : decode cX9_unitAt 0 = .ok (.iload_n 1, 1) := by decide +kernel
theorem dX9_unitAt_1 : decode cX9_unitAt 1 = .ok (.istore_n 2, 1) := by decide +kernel
theorem dX9_unitAt_2 : decode cX9_unitAt 2 = .ok (.iconst 0, 1) := by decide +kernel
theorem dX9_unitAt_3 : decode cX9_unitAt 3 = .ok (.istore_n 3, 1) := by decide +kernel
theorem dX9_unitAt_4 : decode cX9_unitAt 4 = .ok (.iload_n 3, 1) := by decide +kernel
theorem dX9_unitAt_5 : decode cX9_unitAt 5 = .ok (.aload_n 0, 1) := by decide +kernel
theorem dX9_unitAt_6 : decode cX9_unitAt 6 = .ok (.getfield 226, 3) := by decide +kernel
theorem dX9_unitAt_9 : decode cX9_unitAt 9 = .ok (.if_icmp .ge 87, 3) := by decide +kernel
theorem dX9_unitAt_12 : decode cX9_unitAt 12 = .ok (.iload_n 1, 1) := by decide +kernel
theorem dX9_unitAt_13 : decode cX9_unitAt 13 = .ok (.ifCond .lt 83, 3) := by decide +kernel
theorem dX9_unitAt_16 : decode cX9_unitAt 16 = .ok (.aload_n 0, 1) := by decide +kernel
theorem dX9_unitAt_17 : decode cX9_unitAt 17 = .ok (.getfield 79, 3) := by decide +kernel
theorem dX9_unitAt_20 : decode cX9_unitAt 20 = .ok (.iload_n 3, 1) := by decide +kernel
theorem dX9_unitAt_21 : decode cX9_unitAt 21 = .ok (.iaload, 1) := by decide +kernel
theorem dX9_unitAt_22 : decode cX9_unitAt 22 = .ok (.invokestatic 191, 3) := by decide +kernel
theorem dX9_unitAt_25 : decode cX9_unitAt 25 = .ok (.istore 4, 2) := by decide +kernel
theorem dX9_unitAt_27 : decode cX9_unitAt 27 = .ok (.iload_n 2, 1) := by decide +kernel
theorem dX9_unitAt_28 : decode cX9_unitAt 28 = .ok (.iload 4, 2) := by decide +kernel
theorem dX9_unitAt_30 : decode cX9_unitAt 30 = .ok (.if_icmp .ge 55, 3) := by decide +kernel
theorem dX9_unitAt_33 : decode cX9_unitAt 33 = .ok (.aload_n 0, 1) := by decide +kernel
theorem dX9_unitAt_34 : decode cX9_unitAt 34 = .ok (.getfield 79, 3) := by decide +kernel
theorem dX9_unitAt_37 : decode cX9_unitAt 37 = .ok (.iload_n 3, 1) := by decide +kernel
theorem dX9_unitAt_38 : decode cX9_unitAt 38 = .ok (.iaload, 1) := by decide +kernel
theorem dX9_unitAt_39 : decode cX9_unitAt 39 = .ok (.ldc 134, 2) := by decide +kernel
theorem dX9_unitAt_41 : decode cX9_unitAt 41 = .ok (.isub, 1) := by decide +kernel
theorem dX9_unitAt_42 : decode cX9_unitAt 42 = .ok (.istore 5, 2) := by decide +kernel
theorem dX9_unitAt_44 : decode cX9_unitAt 44 = .ok (.iload 4, 2) := by decide +kernel
theorem dX9_unitAt_46 : decode cX9_unitAt 46 = .ok (.iconst 1, 1) := by decide +kernel
theorem dX9_unitAt_47 : decode cX9_unitAt 47 = .ok (.if_icmp .ne 12, 3) := by decide +kernel
theorem dX9_unitAt_50 : decode cX9_unitAt 50 = .ok (.aload_n 0, 1) := by decide +kernel
theorem dX9_unitAt_51 : decode cX9_unitAt 51 = .ok (.getfield 79, 3) := by decide +kernel
theorem dX9_unitAt_54 : decode cX9_unitAt 54 = .ok (.iload_n 3, 1) := by decide +kernel
theorem dX9_unitAt_55 : decode cX9_unitAt 55 = .ok (.iaload, 1) := by decide +kernel
theorem dX9_unitAt_56 : decode cX9_unitAt 56 = .ok (.goto 28, 3) := by decide +kernel
theorem dX9_unitAt_59 : decode cX9_unitAt 59 = .ok (.iload_n 2, 1) := by decide +kernel
theorem dX9_unitAt_60 : decode cX9_unitAt 60 = .ok (.ifCond .ne 15, 3) := by decide +kernel
theorem dX9_unitAt_63 : decode cX9_unitAt 63 = .ok (.ldc 115, 2) := by decide +kernel
theorem dX9_unitAt_65 : decode cX9_unitAt 65 = .ok (.iload 5, 2) := by decide +kernel
theorem dX9_unitAt_67 : decode cX9_unitAt 67 = .ok (.sipush 1024, 3) := by decide +kernel
theorem dX9_unitAt_70 : decode cX9_unitAt 70 = .ok (.idiv, 1) := by decide +kernel
theorem dX9_unitAt_71 : decode cX9_unitAt 71 = .ok (.iadd, 1) := by decide +kernel
theorem dX9_unitAt_72 : decode cX9_unitAt 72 = .ok (.goto 12, 3) := by decide +kernel
theorem dX9_unitAt_75 : decode cX9_unitAt 75 = .ok (.ldc 117, 2) := by decide +kernel
theorem dX9_unitAt_77 : decode cX9_unitAt 77 = .ok (.iload 5, 2) := by decide +kernel
theorem dX9_unitAt_79 : decode cX9_unitAt 79 = .ok (.sipush 1024, 3) := by decide +kernel
theorem dX9_unitAt_82 : decode cX9_unitAt 82 = .ok (.irem, 1) := by decide +kernel
theorem dX9_unitAt_83 : decode cX9_unitAt 83 = .ok (.iadd, 1) := by decide +kernel
theorem dX9_unitAt_84 : decode cX9_unitAt 84 = .ok (.ireturn, 1) := by decide +kernel
theorem dX9_unitAt_85 : decode cX9_unitAt 85 = .ok (.iload_n 2, 1) := by decide +kernel
theorem dX9_unitAt_86 : decode cX9_unitAt 86 = .ok (.iload 4, 2) := by decide +kernel
theorem dX9_unitAt_88 : decode cX9_unitAt 88 = .ok (.isub, 1) := by decide +kernel
theorem dX9_unitAt_89 : decode cX9_unitAt 89 = .ok (.istore_n 2, 1) := by decide +kernel
theorem dX9_unitAt_90 : decode cX9_unitAt 90 = .ok (.iinc 3 1, 3) := by decide +kernel
theorem dX9_unitAt_93 : decode cX9_unitAt 93 = .ok (.goto (-89), 3) := by decide +kernel
theorem dX9_unitAt_96 : decode cX9_unitAt 96 = .ok (.bipush (-13), 2) := by decide +kernel
theorem dX9_unitAt_98 : decode cX9_unitAt 98 = .ok (.ireturn, 1) := by decide +kernel
theorem dX9_classOf_0 : decode cX9_classOf 0 = .ok (.iload_n 0, 1) := by decide +kernel
theorem dX9_classOf_1 : decode cX9_classOf 1 = .ok (.bipush 127, 2) := by decide +kernel
theorem dX9_classOf_3 : decode cX9_classOf 3 = .ok (.if_icmp .gt 25, 3) := by decide +kernel
theorem dX9_classOf_6 : decode cX9_classOf 6 = .ok (.iload_n 0, 1) := by decide +kernel
theorem dX9_classOf_7 : decode cX9_classOf 7 = .ok (.bipush 65, 2) := by decide +kernel
theorem dX9_classOf_9 : decode cX9_classOf 9 = .ok (.bipush 90, 2) := by decide +kernel
theorem dX9_classOf_11 : decode cX9_classOf 11 = .ok (.invokestatic 111, 3) := by decide +kernel
theorem dX9_classOf_14 : decode cX9_classOf 14 = .ok (.ifCond .ne 14, 3) := by decide +kernel
theorem dX9_classOf_17 : decode cX9_classOf 17 = .ok (.iload_n 0, 1) := by decide +kernel
theorem dX9_classOf_18 : decode cX9_classOf 18 = .ok (.bipush 97, 2) := by decide +kernel
theorem dX9_classOf_20 : decode cX9_classOf 20 = .ok (.bipush 122, 2) := by decide +kernel
theorem dX9_classOf_22 : decode cX9_classOf 22 = .ok (.invokestatic 111, 3) := by decide +kernel
theorem dX9_classOf_25 : decode cX9_classOf 25 = .ok (.ifCond .eq 5, 3) := by decide +kernel
theorem dX9_classOf_28 : decode cX9_classOf 28 = .ok (.iconst 1, 1) := by decide +kernel
theorem dX9_classOf_29 : decode cX9_classOf 29 = .ok (.ireturn, 1) := by decide +kernel
theorem dX9_classOf_30 : decode cX9_classOf 30 = .ok (.iload_n 0, 1) := by decide +kernel
theorem dX9_classOf_31 : decode cX9_classOf 31 = .ok (.bipush 48, 2) := by decide +kernel
theorem dX9_classOf_33 : decode cX9_classOf 33 = .ok (.bipush 57, 2) := by decide +kernel
theorem dX9_classOf_35 : decode cX9_classOf 35 = .ok (.invokestatic 111, 3) := by decide +kernel
theorem dX9_classOf_38 : decode cX9_classOf 38 = .ok (.ifCond .eq 5, 3) := by decide +kernel
theorem dX9_classOf_41 : decode cX9_classOf 41 = .ok (.iconst 2, 1) := by decide +kernel
theorem dX9_classOf_42 : decode cX9_classOf 42 = .ok (.ireturn, 1) := by decide +kernel
theorem dX9_classOf_43 : decode cX9_classOf 43 = .ok (.iload_n 0, 1) := by decide +kernel
theorem dX9_classOf_44 : decode cX9_classOf 44 = .ok (.bipush 9, 2) := by decide +kernel
theorem dX9_classOf_46 : decode cX9_classOf 46 = .ok (.if_icmp .eq 21, 3) := by decide +kernel
theorem dX9_classOf_49 : decode cX9_classOf 49 = .ok (.iload_n 0, 1) := by decide +kernel
theorem dX9_classOf_50 : decode cX9_classOf 50 = .ok (.bipush 10, 2) := by decide +kernel
theorem dX9_classOf_52 : decode cX9_classOf 52 = .ok (.if_icmp .eq 15, 3) := by decide +kernel
theorem dX9_classOf_55 : decode cX9_classOf 55 = .ok (.iload_n 0, 1) := by decide +kernel
theorem dX9_classOf_56 : decode cX9_classOf 56 = .ok (.bipush 13, 2) := by decide +kernel
theorem dX9_classOf_58 : decode cX9_classOf 58 = .ok (.if_icmp .eq 9, 3) := by decide +kernel
theorem dX9_classOf_61 : decode cX9_classOf 61 = .ok (.iload_n 0, 1) := by decide +kernel
theorem dX9_classOf_62 : decode cX9_classOf 62 = .ok (.bipush 32, 2) := by decide +kernel
theorem dX9_classOf_64 : decode cX9_classOf 64 = .ok (.if_icmp .ne 5, 3) := by decide +kernel
theorem dX9_classOf_67 : decode cX9_classOf 67 = .ok (.iconst 3, 1) := by decide +kernel
theorem dX9_classOf_68 : decode cX9_classOf 68 = .ok (.ireturn, 1) := by decide +kernel
theorem dX9_classOf_69 : decode cX9_classOf 69 = .ok (.iload_n 0, 1) := by decide +kernel
theorem dX9_classOf_70 : decode cX9_classOf 70 = .ok (.bipush 33, 2) := by decide +kernel
theorem dX9_classOf_72 : decode cX9_classOf 72 = .ok (.bipush 126, 2) := by decide +kernel
theorem dX9_classOf_74 : decode cX9_classOf 74 = .ok (.invokestatic 111, 3) := by decide +kernel
theorem dX9_classOf_77 : decode cX9_classOf 77 = .ok (.ifCond .eq 7, 3) := by decide +kernel
theorem dX9_classOf_80 : decode cX9_classOf 80 = .ok (.iconst 4, 1) := by decide +kernel
theorem dX9_classOf_81 : decode cX9_classOf 81 = .ok (.goto 4, 3) := by decide +kernel
theorem dX9_classOf_84 : decode cX9_classOf 84 = .ok (.iconst 0, 1) := by decide +kernel
theorem dX9_classOf_85 : decode cX9_classOf 85 = .ok (.ireturn, 1) := by decide +kernel
theorem dX9_broken_0 : decode cX9_broken 0 = .ok (.iload_n 1, 1) := by decide +kernel
theorem dX9_broken_1 : decode cX9_broken 1 = .ok (.iconst 0, 1) := by decide +kernel
theorem dX9_broken_2 : decode cX9_broken 2 = .ok (.aload_n 0, 1) := by decide +kernel
theorem dX9_broken_3 : decode cX9_broken 3 = .ok (.getfield 226, 3) := by decide +kernel
theorem dX9_broken_6 : decode cX9_broken 6 = .ok (.invokestatic 111, 3) := by decide +kernel
theorem dX9_broken_9 : decode cX9_broken 9 = .ok (.ifCond .ne 6, 3) := by decide +kernel
theorem dX9_broken_12 : decode cX9_broken 12 = .ok (.bipush (-13), 2) := by decide +kernel
theorem dX9_broken_14 : decode cX9_broken 14 = .ok (.ireturn, 1) := by decide +kernel
theorem dX9_broken_15 : decode cX9_broken 15 = .ok (.iload_n 1, 1) := by decide +kernel
theorem dX9_broken_16 : decode cX9_broken 16 = .ok (.ifCond .eq 11, 3) := by decide +kernel
theorem dX9_broken_19 : decode cX9_broken 19 = .ok (.iload_n 1, 1) := by decide +kernel
theorem dX9_broken_20 : decode cX9_broken 20 = .ok (.aload_n 0, 1) := by decide +kernel
theorem dX9_broken_21 : decode cX9_broken 21 = .ok (.getfield 226, 3) := by decide +kernel
theorem dX9_broken_24 : decode cX9_broken 24 = .ok (.if_icmp .ne 5, 3) := by decide +kernel
theorem dX9_broken_27 : decode cX9_broken 27 = .ok (.iconst 1, 1) := by decide +kernel
theorem dX9_broken_28 : decode cX9_broken 28 = .ok (.ireturn, 1) := by decide +kernel
theorem dX9_broken_29 : decode cX9_broken 29 = .ok (.aload_n 0, 1) := by decide +kernel
theorem dX9_broken_30 : decode cX9_broken 30 = .ok (.getfield 79, 3) := by decide +kernel
theorem dX9_broken_33 : decode cX9_broken 33 = .ok (.iload_n 1, 1) := by decide +kernel
theorem dX9_broken_34 : decode cX9_broken 34 = .ok (.iconst 1, 1) := by decide +kernel
theorem dX9_broken_35 : decode cX9_broken 35 = .ok (.isub, 1) := by decide +kernel
theorem dX9_broken_36 : decode cX9_broken 36 = .ok (.iaload, 1) := by decide +kernel
theorem dX9_broken_37 : decode cX9_broken 37 = .ok (.invokestatic 232, 3) := by decide +kernel
theorem dX9_broken_40 : decode cX9_broken 40 = .ok (.istore_n 2, 1) := by decide +kernel
theorem dX9_broken_41 : decode cX9_broken 41 = .ok (.aload_n 0, 1) := by decide +kernel
theorem dX9_broken_42 : decode cX9_broken 42 = .ok (.getfield 79, 3) := by decide +kernel
theorem dX9_broken_45 : decode cX9_broken 45 = .ok (.iload_n 1, 1) := by decide +kernel
theorem dX9_broken_46 : decode cX9_broken 46 = .ok (.iaload, 1) := by decide +kernel
theorem dX9_broken_47 : decode cX9_broken 47 = .ok (.invokestatic 232, 3) := by decide +kernel
theorem dX9_broken_50 : decode cX9_broken 50 = .ok (.istore_n 3, 1) := by decide +kernel
theorem dX9_broken_51 : decode cX9_broken 51 = .ok (.iload_n 2, 1) := by decide +kernel
theorem dX9_broken_52 : decode cX9_broken 52 = .ok (.iload_n 3, 1) := by decide +kernel
theorem dX9_broken_53 : decode cX9_broken 53 = .ok (.if_icmp .ne 12, 3) := by decide +kernel
theorem dX9_broken_56 : decode cX9_broken 56 = .ok (.iload_n 2, 1) := by decide +kernel
theorem dX9_broken_57 : decode cX9_broken 57 = .ok (.ifCond .eq 8, 3) := by decide +kernel
theorem dX9_broken_60 : decode cX9_broken 60 = .ok (.iload_n 2, 1) := by decide +kernel
theorem dX9_broken_61 : decode cX9_broken 61 = .ok (.iconst 4, 1) := by decide +kernel
theorem dX9_broken_62 : decode cX9_broken 62 = .ok (.if_icmp .ne 7, 3) := by decide +kernel
theorem dX9_broken_65 : decode cX9_broken 65 = .ok (.iconst 1, 1) := by decide +kernel
theorem dX9_broken_66 : decode cX9_broken 66 = .ok (.goto 4, 3) := by decide +kernel
theorem dX9_broken_69 : decode cX9_broken 69 = .ok (.iconst 0, 1) := by decide +kernel
theorem dX9_broken_70 : decode cX9_broken 70 = .ok (.ireturn, 1) := by decide +kernel
theorem dX9_met_0 : decode cX9_met 0 = .ok (.iload_n 1, 1) := by decide +kernel
theorem dX9_met_1 : decode cX9_met 1 = .ok (.invokestatic 181, 3) := by decide +kernel
theorem dX9_met_4 : decode cX9_met 4 = .ok (.ifCond .ne 8, 3) := by decide +kernel
theorem dX9_met_7 : decode cX9_met 7 = .ok (.bipush (-13), 2) := by decide +kernel
theorem dX9_met_9 : decode cX9_met 9 = .ok (.goto 23, 3) := by decide +kernel
theorem dX9_met_12 : decode cX9_met 12 = .ok (.aload_n 0, 1) := by decide +kernel
theorem dX9_met_13 : decode cX9_met 13 = .ok (.getfield 61, 3) := by decide +kernel
theorem dX9_met_16 : decode cX9_met 16 = .ok (.iload_n 1, 1) := by decide +kernel
theorem dX9_met_17 : decode cX9_met 17 = .ok (.iaload, 1) := by decide +kernel
theorem dX9_met_18 : decode cX9_met 18 = .ok (.ifCond .ne 8, 3) := by decide +kernel
theorem dX9_met_21 : decode cX9_met 21 = .ok (.bipush (-11), 2) := by decide +kernel
theorem dX9_met_23 : decode cX9_met 23 = .ok (.goto 9, 3) := by decide +kernel
theorem dX9_met_26 : decode cX9_met 26 = .ok (.aload_n 0, 1) := by decide +kernel
theorem dX9_met_27 : decode cX9_met 27 = .ok (.getfield 67, 3) := by decide +kernel
theorem dX9_met_30 : decode cX9_met 30 = .ok (.iload_n 1, 1) := by decide +kernel
theorem dX9_met_31 : decode cX9_met 31 = .ok (.iaload, 1) := by decide +kernel
theorem dX9_met_32 : decode cX9_met 32 = .ok (.ireturn, 1) := by decide +kernel
theorem dX9_grown_0 : decode cX9_grown 0 = .ok (.iload_n 1, 1) := by decide +kernel
theorem dX9_grown_1 : decode cX9_grown 1 = .ok (.invokestatic 181, 3) := by decide +kernel
theorem dX9_grown_4 : decode cX9_grown 4 = .ok (.ifCond .ne 8, 3) := by decide +kernel
theorem dX9_grown_7 : decode cX9_grown 7 = .ok (.bipush (-13), 2) := by decide +kernel
theorem dX9_grown_9 : decode cX9_grown 9 = .ok (.goto 38, 3) := by decide +kernel
theorem dX9_grown_12 : decode cX9_grown 12 = .ok (.aload_n 0, 1) := by decide +kernel
theorem dX9_grown_13 : decode cX9_grown 13 = .ok (.getfield 61, 3) := by decide +kernel
theorem dX9_grown_16 : decode cX9_grown 16 = .ok (.iload_n 1, 1) := by decide +kernel
theorem dX9_grown_17 : decode cX9_grown 17 = .ok (.iaload, 1) := by decide +kernel
theorem dX9_grown_18 : decode cX9_grown 18 = .ok (.ifCond .ne 8, 3) := by decide +kernel
theorem dX9_grown_21 : decode cX9_grown 21 = .ok (.bipush (-11), 2) := by decide +kernel
theorem dX9_grown_23 : decode cX9_grown 23 = .ok (.goto 24, 3) := by decide +kernel
theorem dX9_grown_26 : decode cX9_grown 26 = .ok (.aload_n 0, 1) := by decide +kernel
theorem dX9_grown_27 : decode cX9_grown 27 = .ok (.getfield 61, 3) := by decide +kernel
theorem dX9_grown_30 : decode cX9_grown 30 = .ok (.iload_n 1, 1) := by decide +kernel
theorem dX9_grown_31 : decode cX9_grown 31 = .ok (.iaload, 1) := by decide +kernel
theorem dX9_grown_32 : decode cX9_grown 32 = .ok (.iconst 1, 1) := by decide +kernel
theorem dX9_grown_33 : decode cX9_grown 33 = .ok (.if_icmp .eq 8, 3) := by decide +kernel
theorem dX9_grown_36 : decode cX9_grown 36 = .ok (.bipush (-12), 2) := by decide +kernel
theorem dX9_grown_38 : decode cX9_grown 38 = .ok (.goto 9, 3) := by decide +kernel
theorem dX9_grown_41 : decode cX9_grown 41 = .ok (.aload_n 0, 1) := by decide +kernel
theorem dX9_grown_42 : decode cX9_grown 42 = .ok (.getfield 70, 3) := by decide +kernel
theorem dX9_grown_45 : decode cX9_grown 45 = .ok (.iload_n 1, 1) := by decide +kernel
theorem dX9_grown_46 : decode cX9_grown 46 = .ok (.iaload, 1) := by decide +kernel
theorem dX9_grown_47 : decode cX9_grown 47 = .ok (.ireturn, 1) := by decide +kernel
theorem dX9_table_0 : decode cX9_table 0 = .ok (.iload_n 1, 1) := by decide +kernel
theorem dX9_table_1 : decode cX9_table 1 = .ok (.iconst 0, 1) := by decide +kernel
theorem dX9_table_2 : decode cX9_table 2 = .ok (.bipush 127, 2) := by decide +kernel
theorem dX9_table_4 : decode cX9_table 4 = .ok (.invokestatic 111, 3) := by decide +kernel
theorem dX9_table_7 : decode cX9_table 7 = .ok (.ifCond .eq 10, 3) := by decide +kernel
theorem dX9_table_10 : decode cX9_table 10 = .ok (.iload_n 1, 1) := by decide +kernel
theorem dX9_table_11 : decode cX9_table 11 = .ok (.invokestatic 232, 3) := by decide +kernel
theorem dX9_table_14 : decode cX9_table 14 = .ok (.goto 5, 3) := by decide +kernel
theorem dX9_table_17 : decode cX9_table 17 = .ok (.bipush (-13), 2) := by decide +kernel
theorem dX9_table_19 : decode cX9_table 19 = .ok (.ireturn, 1) := by decide +kernel
theorem dX9_digit_0 : decode cX9_digit 0 = .ok (.aload_n 0, 1) := by decide +kernel
theorem dX9_digit_1 : decode cX9_digit 1 = .ok (.iload_n 1, 1) := by decide +kernel
theorem dX9_digit_2 : decode cX9_digit 2 = .ok (.invokevirtual 200, 3) := by decide +kernel
theorem dX9_digit_5 : decode cX9_digit 5 = .ok (.ireturn, 1) := by decide +kernel
theorem dX9_count_0 : decode cX9_count 0 = .ok (.iload_n 1, 1) := by decide +kernel
theorem dX9_count_1 : decode cX9_count 1 = .ok (.tableswitch 126 0 8 #[51, 56, 61, 66, 71, 76, 81, 86, 121], 51) := by decide +kernel
theorem dX9_count_52 : decode cX9_count 52 = .ok (.aload_n 0, 1) := by decide +kernel
theorem dX9_count_53 : decode cX9_count 53 = .ok (.getfield 106, 3) := by decide +kernel
theorem dX9_count_56 : decode cX9_count 56 = .ok (.ireturn, 1) := by decide +kernel
theorem dX9_count_57 : decode cX9_count 57 = .ok (.aload_n 0, 1) := by decide +kernel
theorem dX9_count_58 : decode cX9_count 58 = .ok (.getfield 135, 3) := by decide +kernel
theorem dX9_count_61 : decode cX9_count 61 = .ok (.ireturn, 1) := by decide +kernel
theorem dX9_count_62 : decode cX9_count 62 = .ok (.aload_n 0, 1) := by decide +kernel
theorem dX9_count_63 : decode cX9_count 63 = .ok (.getfield 155, 3) := by decide +kernel
theorem dX9_count_66 : decode cX9_count 66 = .ok (.ireturn, 1) := by decide +kernel
theorem dX9_count_67 : decode cX9_count 67 = .ok (.aload_n 0, 1) := by decide +kernel
theorem dX9_count_68 : decode cX9_count 68 = .ok (.getfield 168, 3) := by decide +kernel
theorem dX9_count_71 : decode cX9_count 71 = .ok (.ireturn, 1) := by decide +kernel
theorem dX9_count_72 : decode cX9_count 72 = .ok (.aload_n 0, 1) := by decide +kernel
theorem dX9_count_73 : decode cX9_count 73 = .ok (.getfield 175, 3) := by decide +kernel
theorem dX9_count_76 : decode cX9_count 76 = .ok (.ireturn, 1) := by decide +kernel
theorem dX9_count_77 : decode cX9_count 77 = .ok (.aload_n 0, 1) := by decide +kernel
theorem dX9_count_78 : decode cX9_count 78 = .ok (.getfield 178, 3) := by decide +kernel
theorem dX9_count_81 : decode cX9_count 81 = .ok (.ireturn, 1) := by decide +kernel
theorem dX9_count_82 : decode cX9_count 82 = .ok (.aload_n 0, 1) := by decide +kernel
theorem dX9_count_83 : decode cX9_count 83 = .ok (.getfield 149, 3) := by decide +kernel
theorem dX9_count_86 : decode cX9_count 86 = .ok (.ireturn, 1) := by decide +kernel
theorem dX9_count_87 : decode cX9_count 87 = .ok (.iconst 0, 1) := by decide +kernel
theorem dX9_count_88 : decode cX9_count 88 = .ok (.istore_n 2, 1) := by decide +kernel
theorem dX9_count_89 : decode cX9_count 89 = .ok (.iconst 0, 1) := by decide +kernel
theorem dX9_count_90 : decode cX9_count 90 = .ok (.istore_n 3, 1) := by decide +kernel
theorem dX9_count_91 : decode cX9_count 91 = .ok (.iload_n 3, 1) := by decide +kernel
theorem dX9_count_92 : decode cX9_count 92 = .ok (.bipush 8, 2) := by decide +kernel
theorem dX9_count_94 : decode cX9_count 94 = .ok (.if_icmp .ge 26, 3) := by decide +kernel
theorem dX9_count_97 : decode cX9_count 97 = .ok (.iload_n 2, 1) := by decide +kernel
theorem dX9_count_98 : decode cX9_count 98 = .ok (.aload_n 0, 1) := by decide +kernel
theorem dX9_count_99 : decode cX9_count 99 = .ok (.getfield 61, 3) := by decide +kernel
theorem dX9_count_102 : decode cX9_count 102 = .ok (.iload_n 3, 1) := by decide +kernel
theorem dX9_count_103 : decode cX9_count 103 = .ok (.iaload, 1) := by decide +kernel
theorem dX9_count_104 : decode cX9_count 104 = .ok (.ifCond .le 7, 3) := by decide +kernel
theorem dX9_count_107 : decode cX9_count 107 = .ok (.iconst 1, 1) := by decide +kernel
theorem dX9_count_108 : decode cX9_count 108 = .ok (.goto 4, 3) := by decide +kernel
theorem dX9_count_111 : decode cX9_count 111 = .ok (.iconst 0, 1) := by decide +kernel
theorem dX9_count_112 : decode cX9_count 112 = .ok (.iadd, 1) := by decide +kernel
theorem dX9_count_113 : decode cX9_count 113 = .ok (.istore_n 2, 1) := by decide +kernel
theorem dX9_count_114 : decode cX9_count 114 = .ok (.iinc 3 1, 3) := by decide +kernel
theorem dX9_count_117 : decode cX9_count 117 = .ok (.goto (-26), 3) := by decide +kernel
theorem dX9_count_120 : decode cX9_count 120 = .ok (.iload_n 2, 1) := by decide +kernel
theorem dX9_count_121 : decode cX9_count 121 = .ok (.ireturn, 1) := by decide +kernel
theorem dX9_count_122 : decode cX9_count 122 = .ok (.aload_n 0, 1) := by decide +kernel
theorem dX9_count_123 : decode cX9_count 123 = .ok (.getfield 226, 3) := by decide +kernel
theorem dX9_count_126 : decode cX9_count 126 = .ok (.ireturn, 1) := by decide +kernel
theorem dX9_count_127 : decode cX9_count 127 = .ok (.iconst (-1), 1) := by decide +kernel
theorem dX9_count_128 : decode cX9_count 128 = .ok (.ireturn, 1) := by decide +kernel
