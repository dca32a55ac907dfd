theorem fl_X1_9 : FL RX1 9 1 0 := ⟨(RX1, TX1, 5), rfl, by decide, tw_27, inT1⟩
theorem fp_X1_9 : FP RX1 9 1 0 (.array .int) true := ⟨(RX1, TX1, 5), rfl, by decide, tw_27, inT1, ⟨tyX1, tyX1_ok⟩, nmX1, by decide +kernel, rfl, fun _ => rfl⟩
theorem fl_X1_15 : FL RX1 15 1 1 := ⟨(RX1, TX1, 5), rfl, by decide, tw_28, inT1⟩
theorem fp_X1_15 : FP RX1 15 1 1 (.array .int) true := ⟨(RX1, TX1, 5), rfl, by decide, tw_28, inT1, ⟨tyX1, tyX1_ok⟩, nmX1, by decide +kernel, rfl, fun _ => rfl⟩
theorem fl_X1_18 : FL RX1 18 1 2 := ⟨(RX1, TX1, 5), rfl, by decide, tw_29, inT1⟩
theorem fp_X1_18 : FP RX1 18 1 2 (.array .int) true := ⟨(RX1, TX1, 5), rfl, by decide, tw_29, inT1, ⟨tyX1, tyX1_ok⟩, nmX1, by decide +kernel, rfl, fun _ => rfl⟩
theorem fl_X1_21 : FL RX1 21 1 3 := ⟨(RX1, TX1, 5), rfl, by decide, tw_30, inT1⟩
theorem fp_X1_21 : FP RX1 21 1 3 (.array .int) true := ⟨(RX1, TX1, 5), rfl, by decide, tw_30, inT1, ⟨tyX1, tyX1_ok⟩, nmX1, by decide +kernel, rfl, fun _ => rfl⟩
theorem fl_X1_24 : FL RX1 24 1 4 := ⟨(RX1, TX1, 5), rfl, by decide, tw_31, inT1⟩
theorem fp_X1_24 : FP RX1 24 1 4 .int false := ⟨(RX1, TX1, 5), rfl, by decide, tw_31, inT1, ⟨tyX1, tyX1_ok⟩, nmX1, by decide +kernel, rfl, fun h => nomatch h⟩
theorem fl_X2_9 : FL RX2 9 2 0 := ⟨(RX2, TX2, 4), rfl, by decide, tw_43, inT2⟩
theorem fp_X2_9 : FP RX2 9 2 0 (.array .int) true := ⟨(RX2, TX2, 4), rfl, by decide, tw_43, inT2, ⟨tyX2, tyX2_ok⟩, nmX2, by decide +kernel, rfl, fun _ => rfl⟩
theorem fl_X2_15 : FL RX2 15 2 1 := ⟨(RX2, TX2, 4), rfl, by decide, tw_44, inT2⟩
theorem fp_X2_15 : FP RX2 15 2 1 (.array .int) true := ⟨(RX2, TX2, 4), rfl, by decide, tw_44, inT2, ⟨tyX2, tyX2_ok⟩, nmX2, by decide +kernel, rfl, fun _ => rfl⟩
theorem fl_X2_18 : FL RX2 18 2 2 := ⟨(RX2, TX2, 4), rfl, by decide, tw_45, inT2⟩
theorem fp_X2_18 : FP RX2 18 2 2 (.array .int) true := ⟨(RX2, TX2, 4), rfl, by decide, tw_45, inT2, ⟨tyX2, tyX2_ok⟩, nmX2, by decide +kernel, rfl, fun _ => rfl⟩
theorem fl_X2_21 : FL RX2 21 2 3 := ⟨(RX2, TX2, 4), rfl, by decide, tw_46, inT2⟩
theorem fp_X2_21 : FP RX2 21 2 3 .int false := ⟨(RX2, TX2, 4), rfl, by decide, tw_46, inT2, ⟨tyX2, tyX2_ok⟩, nmX2, by decide +kernel, rfl, fun h => nomatch h⟩
theorem fl_X7_9 : FL RX7 9 7 0 := ⟨(RX7, TX7, 2), rfl, by decide, tw_56, inT7⟩
theorem fp_X7_9 : FP RX7 9 7 0 (.array .int) true := ⟨(RX7, TX7, 2), rfl, by decide, tw_56, inT7, ⟨tyX7, tyX7_ok⟩, nmX7, by decide +kernel, rfl, fun _ => rfl⟩
theorem fl_X7_15 : FL RX7 15 7 1 := ⟨(RX7, TX7, 2), rfl, by decide, tw_57, inT7⟩
theorem fp_X7_15 : FP RX7 15 7 1 .int false := ⟨(RX7, TX7, 2), rfl, by decide, tw_57, inT7, ⟨tyX7, tyX7_ok⟩, nmX7, by decide +kernel, rfl, fun h => nomatch h⟩
theorem fl_X3_9 : FL RX3 9 3 0 := ⟨(RX3, TX3, 3), rfl, by decide, tw_65, inT3⟩
theorem fp_X3_9 : FP RX3 9 3 0 (.array .int) true := ⟨(RX3, TX3, 3), rfl, by decide, tw_65, inT3, ⟨tyX3, tyX3_ok⟩, nmX3, by decide +kernel, rfl, fun _ => rfl⟩
theorem fl_X3_15 : FL RX3 15 3 1 := ⟨(RX3, TX3, 3), rfl, by decide, tw_66, inT3⟩
theorem fp_X3_15 : FP RX3 15 3 1 (.array .int) true := ⟨(RX3, TX3, 3), rfl, by decide, tw_66, inT3, ⟨tyX3, tyX3_ok⟩, nmX3, by decide +kernel, rfl, fun _ => rfl⟩
theorem fl_X3_18 : FL RX3 18 3 2 := ⟨(RX3, TX3, 3), rfl, by decide, tw_67, inT3⟩
theorem fp_X3_18 : FP RX3 18 3 2 .int false := ⟨(RX3, TX3, 3), rfl, by decide, tw_67, inT3, ⟨tyX3, tyX3_ok⟩, nmX3, by decide +kernel, rfl, fun h => nomatch h⟩
theorem fl_X6_11 : FL RX6 11 6 0 := ⟨(RX6, TX6, 2), rfl, by decide, tw_77, inT6⟩
theorem fp_X6_11 : FP RX6 11 6 0 (.array (.object "SignTables$Replacement")) true := ⟨(RX6, TX6, 2), rfl, by decide, tw_77, inT6, ⟨tyX6, tyX6_ok⟩, nmX6, by decide +kernel, rfl, fun _ => rfl⟩
theorem fl_X6_17 : FL RX6 17 6 1 := ⟨(RX6, TX6, 2), rfl, by decide, tw_78, inT6⟩
theorem fp_X6_17 : FP RX6 17 6 1 .int false := ⟨(RX6, TX6, 2), rfl, by decide, tw_78, inT6, ⟨tyX6, tyX6_ok⟩, nmX6, by decide +kernel, rfl, fun h => nomatch h⟩
theorem fl_X5_9 : FL RX5 9 5 0 := ⟨(RX5, TX5, 4), rfl, by decide, tw_87, inT5⟩
theorem fp_X5_9 : FP RX5 9 5 0 (.array .int) true := ⟨(RX5, TX5, 4), rfl, by decide, tw_87, inT5, ⟨tyX5, tyX5_ok⟩, nmX5, by decide +kernel, rfl, fun _ => rfl⟩
theorem fl_X5_15 : FL RX5 15 5 1 := ⟨(RX5, TX5, 4), rfl, by decide, tw_88, inT5⟩
theorem fp_X5_15 : FP RX5 15 5 1 (.array .int) true := ⟨(RX5, TX5, 4), rfl, by decide, tw_88, inT5, ⟨tyX5, tyX5_ok⟩, nmX5, by decide +kernel, rfl, fun _ => rfl⟩
theorem fl_X5_18 : FL RX5 18 5 2 := ⟨(RX5, TX5, 4), rfl, by decide, tw_89, inT5⟩
theorem fp_X5_18 : FP RX5 18 5 2 (.array .int) true := ⟨(RX5, TX5, 4), rfl, by decide, tw_89, inT5, ⟨tyX5, tyX5_ok⟩, nmX5, by decide +kernel, rfl, fun _ => rfl⟩
theorem fl_X5_21 : FL RX5 21 5 3 := ⟨(RX5, TX5, 4), rfl, by decide, tw_90, inT5⟩
theorem fp_X5_21 : FP RX5 21 5 3 .int false := ⟨(RX5, TX5, 4), rfl, by decide, tw_90, inT5, ⟨tyX5, tyX5_ok⟩, nmX5, by decide +kernel, rfl, fun h => nomatch h⟩
theorem fl_X8_9 : FL RX8 9 8 0 := ⟨(RX8, TX8, 13), rfl, by decide, tw_95, inT8⟩
theorem fp_X8_9 : FP RX8 9 8 0 (.array .int) true := ⟨(RX8, TX8, 13), rfl, by decide, tw_95, inT8, ⟨tyX8, tyX8_ok⟩, nmX8, by decide +kernel, rfl, fun _ => rfl⟩
theorem fl_X8_13 : FL RX8 13 8 1 := ⟨(RX8, TX8, 13), rfl, by decide, tw_96, inT8⟩
theorem fp_X8_13 : FP RX8 13 8 1 .int false := ⟨(RX8, TX8, 13), rfl, by decide, tw_96, inT8, ⟨tyX8, tyX8_ok⟩, nmX8, by decide +kernel, rfl, fun h => nomatch h⟩
theorem fl_X8_17 : FL RX8 17 8 2 := ⟨(RX8, TX8, 13), rfl, by decide, tw_97, inT8⟩
theorem fp_X8_17 : FP RX8 17 8 2 .int false := ⟨(RX8, TX8, 13), rfl, by decide, tw_97, inT8, ⟨tyX8, tyX8_ok⟩, nmX8, by decide +kernel, rfl, fun h => nomatch h⟩
theorem fl_X8_23 : FL RX8 23 8 3 := ⟨(RX8, TX8, 13), rfl, by decide, tw_98, inT8⟩
theorem fp_X8_23 : FP RX8 23 8 3 (.object "SignTables$FoldTable") true := ⟨(RX8, TX8, 13), rfl, by decide, tw_98, inT8, ⟨tyX8, tyX8_ok⟩, nmX8, by decide +kernel, rfl, fun _ => rfl⟩
theorem fl_X8_30 : FL RX8 30 8 4 := ⟨(RX8, TX8, 13), rfl, by decide, tw_99, inT8⟩
theorem fp_X8_30 : FP RX8 30 8 4 (.object "SignTables$PairTable") true := ⟨(RX8, TX8, 13), rfl, by decide, tw_99, inT8, ⟨tyX8, tyX8_ok⟩, nmX8, by decide +kernel, rfl, fun _ => rfl⟩
theorem fl_X8_37 : FL RX8 37 8 5 := ⟨(RX8, TX8, 13), rfl, by decide, tw_100, inT8⟩
theorem fp_X8_37 : FP RX8 37 8 5 (.object "SignTables$ZeroTable") true := ⟨(RX8, TX8, 13), rfl, by decide, tw_100, inT8, ⟨tyX8, tyX8_ok⟩, nmX8, by decide +kernel, rfl, fun _ => rfl⟩
theorem fl_X8_44 : FL RX8 44 8 6 := ⟨(RX8, TX8, 13), rfl, by decide, tw_101, inT8⟩
theorem fp_X8_44 : FP RX8 44 8 6 (.object "SignTables$RangeTable") true := ⟨(RX8, TX8, 13), rfl, by decide, tw_101, inT8, ⟨tyX8, tyX8_ok⟩, nmX8, by decide +kernel, rfl, fun _ => rfl⟩
theorem fl_X8_51 : FL RX8 51 8 7 := ⟨(RX8, TX8, 13), rfl, by decide, tw_102, inT8⟩
theorem fp_X8_51 : FP RX8 51 8 7 (.object "SignTables$StringTable") true := ⟨(RX8, TX8, 13), rfl, by decide, tw_102, inT8, ⟨tyX8, tyX8_ok⟩, nmX8, by decide +kernel, rfl, fun _ => rfl⟩
theorem fl_X8_57 : FL RX8 57 8 8 := ⟨(RX8, TX8, 13), rfl, by decide, tw_103, inT8⟩
theorem fp_X8_57 : FP RX8 57 8 8 (.array (.object "SignTables$Filter")) true := ⟨(RX8, TX8, 13), rfl, by decide, tw_103, inT8, ⟨tyX8, tyX8_ok⟩, nmX8, by decide +kernel, rfl, fun _ => rfl⟩
theorem fl_X8_64 : FL RX8 64 8 9 := ⟨(RX8, TX8, 13), rfl, by decide, tw_104, inT8⟩
theorem fp_X8_64 : FP RX8 64 8 9 (.object "SignTables$SignRow") true := ⟨(RX8, TX8, 13), rfl, by decide, tw_104, inT8, ⟨tyX8, tyX8_ok⟩, nmX8, by decide +kernel, rfl, fun _ => rfl⟩
theorem fl_X8_68 : FL RX8 68 8 10 := ⟨(RX8, TX8, 13), rfl, by decide, tw_105, inT8⟩
theorem fp_X8_68 : FP RX8 68 8 10 (.object "SignTables$SignRow") false := ⟨(RX8, TX8, 13), rfl, by decide, tw_105, inT8, ⟨tyX8, tyX8_ok⟩, nmX8, by decide +kernel, rfl, fun h => nomatch h⟩
theorem fl_X8_71 : FL RX8 71 8 11 := ⟨(RX8, TX8, 13), rfl, by decide, tw_106, inT8⟩
theorem fp_X8_71 : FP RX8 71 8 11 (.object "SignTables$SignRow") false := ⟨(RX8, TX8, 13), rfl, by decide, tw_106, inT8, ⟨tyX8, tyX8_ok⟩, nmX8, by decide +kernel, rfl, fun h => nomatch h⟩
theorem fl_X8_74 : FL RX8 74 8 12 := ⟨(RX8, TX8, 13), rfl, by decide, tw_107, inT8⟩
theorem fp_X8_74 : FP RX8 74 8 12 (.object "SignTables$SignRow") false := ⟨(RX8, TX8, 13), rfl, by decide, tw_107, inT8, ⟨tyX8, tyX8_ok⟩, nmX8, by decide +kernel, rfl, fun h => nomatch h⟩
theorem fl_X4_13 : FL RX4 13 4 0 := ⟨(RX4, TX4, 2), rfl, by decide, tw_213, inT4⟩
theorem fp_X4_13 : FP RX4 13 4 0 (.array .int) true := ⟨(RX4, TX4, 2), rfl, by decide, tw_213, inT4, ⟨tyX4, tyX4_ok⟩, nmX4, by decide +kernel, rfl, fun _ => rfl⟩
theorem fl_X4_19 : FL RX4 19 4 1 := ⟨(RX4, TX4, 2), rfl, by decide, tw_214, inT4⟩
theorem fp_X4_19 : FP RX4 19 4 1 (.array .int) true := ⟨(RX4, TX4, 2), rfl, by decide, tw_214, inT4, ⟨tyX4, tyX4_ok⟩, nmX4, by decide +kernel, rfl, fun _ => rfl⟩
theorem fl_X0_27 : FL RX0 27 0 0 := ⟨(RX0, TX0, 6), rfl, by decide, tw_300, inT0⟩
theorem fp_X0_27 : FP RX0 27 0 0 .int true := ⟨(RX0, TX0, 6), rfl, by decide, tw_300, inT0, ⟨tyX0, tyX0_ok⟩, nmX0, by decide +kernel, rfl, fun _ => rfl⟩
theorem fl_X8_124 : FL RX8 124 0 0 := ⟨(RX0, TX0, 6), rfl, by decide, tw_301, inT0⟩
theorem fl_X0_9 : FL RX0 9 0 1 := ⟨(RX0, TX0, 6), rfl, by decide, tw_302, inT0⟩
theorem fp_X0_9 : FP RX0 9 0 1 .int false := ⟨(RX0, TX0, 6), rfl, by decide, tw_302, inT0, ⟨tyX0, tyX0_ok⟩, nmX0, by decide +kernel, rfl, fun h => nomatch h⟩
theorem fl_X8_127 : FL RX8 127 0 1 := ⟨(RX0, TX0, 6), rfl, by decide, tw_303, inT0⟩
theorem fp_X8_127 : FP RX8 127 0 1 .int false := ⟨(RX0, TX0, 6), rfl, by decide, tw_303, inT0, ⟨tyX0, tyX0_ok⟩, nmX0, by decide +kernel, rfl, fun h => nomatch h⟩
theorem fl_X0_15 : FL RX0 15 0 2 := ⟨(RX0, TX0, 6), rfl, by decide, tw_304, inT0⟩
theorem fp_X0_15 : FP RX0 15 0 2 .int false := ⟨(RX0, TX0, 6), rfl, by decide, tw_304, inT0, ⟨tyX0, tyX0_ok⟩, nmX0, by decide +kernel, rfl, fun h => nomatch h⟩
theorem fl_X8_167 : FL RX8 167 0 2 := ⟨(RX0, TX0, 6), rfl, by decide, tw_305, inT0⟩
theorem fp_X8_167 : FP RX8 167 0 2 .int false := ⟨(RX0, TX0, 6), rfl, by decide, tw_305, inT0, ⟨tyX0, tyX0_ok⟩, nmX0, by decide +kernel, rfl, fun h => nomatch h⟩
theorem fl_X0_18 : FL RX0 18 0 3 := ⟨(RX0, TX0, 6), rfl, by decide, tw_306, inT0⟩
theorem fp_X0_18 : FP RX0 18 0 3 .int false := ⟨(RX0, TX0, 6), rfl, by decide, tw_306, inT0, ⟨tyX0, tyX0_ok⟩, nmX0, by decide +kernel, rfl, fun h => nomatch h⟩
theorem fl_X8_170 : FL RX8 170 0 3 := ⟨(RX0, TX0, 6), rfl, by decide, tw_307, inT0⟩
theorem fp_X8_170 : FP RX8 170 0 3 .int false := ⟨(RX0, TX0, 6), rfl, by decide, tw_307, inT0, ⟨tyX0, tyX0_ok⟩, nmX0, by decide +kernel, rfl, fun h => nomatch h⟩
theorem fl_X0_21 : FL RX0 21 0 4 := ⟨(RX0, TX0, 6), rfl, by decide, tw_308, inT0⟩
theorem fp_X0_21 : FP RX0 21 0 4 .int false := ⟨(RX0, TX0, 6), rfl, by decide, tw_308, inT0, ⟨tyX0, tyX0_ok⟩, nmX0, by decide +kernel, rfl, fun h => nomatch h⟩
theorem fl_X0_24 : FL RX0 24 0 5 := ⟨(RX0, TX0, 6), rfl, by decide, tw_309, inT0⟩
theorem fp_X0_24 : FP RX0 24 0 5 .int false := ⟨(RX0, TX0, 6), rfl, by decide, tw_309, inT0, ⟨tyX0, tyX0_ok⟩, nmX0, by decide +kernel, rfl, fun h => nomatch h⟩
theorem fl_X9_106 : FL RX9 106 9 0 := ⟨(RX9, TX9, 43), rfl, by decide, tw_498, inT9⟩
theorem fp_X9_106 : FP RX9 106 9 0 .int false := ⟨(RX9, TX9, 43), rfl, by decide, tw_498, inT9, ⟨tyX9, tyX9_ok⟩, nmX9, by decide +kernel, rfl, fun h => nomatch h⟩
theorem fl_X9_120 : FL RX9 120 9 1 := ⟨(RX9, TX9, 43), rfl, by decide, tw_499, inT9⟩
theorem fp_X9_120 : FP RX9 120 9 1 .int false := ⟨(RX9, TX9, 43), rfl, by decide, tw_499, inT9, ⟨tyX9, tyX9_ok⟩, nmX9, by decide +kernel, rfl, fun h => nomatch h⟩
theorem fl_X9_7 : FL RX9 7 9 2 := ⟨(RX9, TX9, 43), rfl, by decide, tw_500, inT9⟩
theorem fp_X9_7 : FP RX9 7 9 2 (.array .int) true := ⟨(RX9, TX9, 43), rfl, by decide, tw_500, inT9, ⟨tyX9, tyX9_ok⟩, nmX9, by decide +kernel, rfl, fun _ => rfl⟩
theorem fl_X9_135 : FL RX9 135 9 3 := ⟨(RX9, TX9, 43), rfl, by decide, tw_501, inT9⟩
theorem fp_X9_135 : FP RX9 135 9 3 .int false := ⟨(RX9, TX9, 43), rfl, by decide, tw_501, inT9, ⟨tyX9, tyX9_ok⟩, nmX9, by decide +kernel, rfl, fun h => nomatch h⟩
theorem fl_X9_13 : FL RX9 13 9 4 := ⟨(RX9, TX9, 43), rfl, by decide, tw_502, inT9⟩
theorem fp_X9_13 : FP RX9 13 9 4 (.array .int) true := ⟨(RX9, TX9, 43), rfl, by decide, tw_502, inT9, ⟨tyX9, tyX9_ok⟩, nmX9, by decide +kernel, rfl, fun _ => rfl⟩
theorem fl_X9_16 : FL RX9 16 9 5 := ⟨(RX9, TX9, 43), rfl, by decide, tw_503, inT9⟩
theorem fp_X9_16 : FP RX9 16 9 5 (.array .int) true := ⟨(RX9, TX9, 43), rfl, by decide, tw_503, inT9, ⟨tyX9, tyX9_ok⟩, nmX9, by decide +kernel, rfl, fun _ => rfl⟩
theorem fl_X9_19 : FL RX9 19 9 6 := ⟨(RX9, TX9, 43), rfl, by decide, tw_504, inT9⟩
theorem fp_X9_19 : FP RX9 19 9 6 (.array .int) true := ⟨(RX9, TX9, 43), rfl, by decide, tw_504, inT9, ⟨tyX9, tyX9_ok⟩, nmX9, by decide +kernel, rfl, fun _ => rfl⟩
theorem fl_X9_155 : FL RX9 155 9 7 := ⟨(RX9, TX9, 43), rfl, by decide, tw_505, inT9⟩
theorem fp_X9_155 : FP RX9 155 9 7 .int false := ⟨(RX9, TX9, 43), rfl, by decide, tw_505, inT9, ⟨tyX9, tyX9_ok⟩, nmX9, by decide +kernel, rfl, fun h => nomatch h⟩
theorem fl_X9_22 : FL RX9 22 9 8 := ⟨(RX9, TX9, 43), rfl, by decide, tw_506, inT9⟩
theorem fp_X9_22 : FP RX9 22 9 8 (.array .int) true := ⟨(RX9, TX9, 43), rfl, by decide, tw_506, inT9, ⟨tyX9, tyX9_ok⟩, nmX9, by decide +kernel, rfl, fun _ => rfl⟩
theorem fl_X9_25 : FL RX9 25 9 9 := ⟨(RX9, TX9, 43), rfl, by decide, tw_507, inT9⟩
theorem fp_X9_25 : FP RX9 25 9 9 (.array .int) true := ⟨(RX9, TX9, 43), rfl, by decide, tw_507, inT9, ⟨tyX9, tyX9_ok⟩, nmX9, by decide +kernel, rfl, fun _ => rfl⟩
theorem fl_X9_28 : FL RX9 28 9 10 := ⟨(RX9, TX9, 43), rfl, by decide, tw_508, inT9⟩
theorem fp_X9_28 : FP RX9 28 9 10 (.array .int) true := ⟨(RX9, TX9, 43), rfl, by decide, tw_508, inT9, ⟨tyX9, tyX9_ok⟩, nmX9, by decide +kernel, rfl, fun _ => rfl⟩
theorem fl_X9_168 : FL RX9 168 9 11 := ⟨(RX9, TX9, 43), rfl, by decide, tw_509, inT9⟩
theorem fp_X9_168 : FP RX9 168 9 11 .int false := ⟨(RX9, TX9, 43), rfl, by decide, tw_509, inT9, ⟨tyX9, tyX9_ok⟩, nmX9, by decide +kernel, rfl, fun h => nomatch h⟩
theorem fl_X9_31 : FL RX9 31 9 12 := ⟨(RX9, TX9, 43), rfl, by decide, tw_510, inT9⟩
theorem fp_X9_31 : FP RX9 31 9 12 (.array .int) true := ⟨(RX9, TX9, 43), rfl, by decide, tw_510, inT9, ⟨tyX9, tyX9_ok⟩, nmX9, by decide +kernel, rfl, fun _ => rfl⟩
theorem fl_X9_34 : FL RX9 34 9 13 := ⟨(RX9, TX9, 43), rfl, by decide, tw_511, inT9⟩
theorem fp_X9_34 : FP RX9 34 9 13 (.array .int) true := ⟨(RX9, TX9, 43), rfl, by decide, tw_511, inT9, ⟨tyX9, tyX9_ok⟩, nmX9, by decide +kernel, rfl, fun _ => rfl⟩
theorem fl_X9_37 : FL RX9 37 9 14 := ⟨(RX9, TX9, 43), rfl, by decide, tw_512, inT9⟩
theorem fp_X9_37 : FP RX9 37 9 14 (.array .int) true := ⟨(RX9, TX9, 43), rfl, by decide, tw_512, inT9, ⟨tyX9, tyX9_ok⟩, nmX9, by decide +kernel, rfl, fun _ => rfl⟩
theorem fl_X9_175 : FL RX9 175 9 15 := ⟨(RX9, TX9, 43), rfl, by decide, tw_513, inT9⟩
theorem fp_X9_175 : FP RX9 175 9 15 .int false := ⟨(RX9, TX9, 43), rfl, by decide, tw_513, inT9, ⟨tyX9, tyX9_ok⟩, nmX9, by decide +kernel, rfl, fun h => nomatch h⟩
theorem fl_X9_40 : FL RX9 40 9 16 := ⟨(RX9, TX9, 43), rfl, by decide, tw_514, inT9⟩
theorem fp_X9_40 : FP RX9 40 9 16 (.array .int) true := ⟨(RX9, TX9, 43), rfl, by decide, tw_514, inT9, ⟨tyX9, tyX9_ok⟩, nmX9, by decide +kernel, rfl, fun _ => rfl⟩
theorem fl_X9_178 : FL RX9 178 9 17 := ⟨(RX9, TX9, 43), rfl, by decide, tw_515, inT9⟩
theorem fp_X9_178 : FP RX9 178 9 17 .int false := ⟨(RX9, TX9, 43), rfl, by decide, tw_515, inT9, ⟨tyX9, tyX9_ok⟩, nmX9, by decide +kernel, rfl, fun h => nomatch h⟩
theorem fl_X9_43 : FL RX9 43 9 18 := ⟨(RX9, TX9, 43), rfl, by decide, tw_516, inT9⟩
theorem fp_X9_43 : FP RX9 43 9 18 (.array .int) true := ⟨(RX9, TX9, 43), rfl, by decide, tw_516, inT9, ⟨tyX9, tyX9_ok⟩, nmX9, by decide +kernel, rfl, fun _ => rfl⟩
theorem fl_X9_46 : FL RX9 46 9 19 := ⟨(RX9, TX9, 43), rfl, by decide, tw_517, inT9⟩
theorem fp_X9_46 : FP RX9 46 9 19 (.array .int) true := ⟨(RX9, TX9, 43), rfl, by decide, tw_517, inT9, ⟨tyX9, tyX9_ok⟩, nmX9, by decide +kernel, rfl, fun _ => rfl⟩
theorem fl_X9_149 : FL RX9 149 9 20 := ⟨(RX9, TX9, 43), rfl, by decide, tw_518, inT9⟩
theorem fp_X9_149 : FP RX9 149 9 20 .int false := ⟨(RX9, TX9, 43), rfl, by decide, tw_518, inT9, ⟨tyX9, tyX9_ok⟩, nmX9, by decide +kernel, rfl, fun h => nomatch h⟩
theorem fl_X9_49 : FL RX9 49 9 21 := ⟨(RX9, TX9, 43), rfl, by decide, tw_519, inT9⟩
theorem fp_X9_49 : FP RX9 49 9 21 (.array .int) true := ⟨(RX9, TX9, 43), rfl, by decide, tw_519, inT9, ⟨tyX9, tyX9_ok⟩, nmX9, by decide +kernel, rfl, fun _ => rfl⟩
theorem fl_X9_52 : FL RX9 52 9 22 := ⟨(RX9, TX9, 43), rfl, by decide, tw_520, inT9⟩
theorem fp_X9_52 : FP RX9 52 9 22 (.array .int) true := ⟨(RX9, TX9, 43), rfl, by decide, tw_520, inT9, ⟨tyX9, tyX9_ok⟩, nmX9, by decide +kernel, rfl, fun _ => rfl⟩
theorem fl_X9_55 : FL RX9 55 9 23 := ⟨(RX9, TX9, 43), rfl, by decide, tw_521, inT9⟩
theorem fp_X9_55 : FP RX9 55 9 23 (.array .int) true := ⟨(RX9, TX9, 43), rfl, by decide, tw_521, inT9, ⟨tyX9, tyX9_ok⟩, nmX9, by decide +kernel, rfl, fun _ => rfl⟩
theorem fl_X9_58 : FL RX9 58 9 24 := ⟨(RX9, TX9, 43), rfl, by decide, tw_522, inT9⟩
theorem fp_X9_58 : FP RX9 58 9 24 (.array .int) true := ⟨(RX9, TX9, 43), rfl, by decide, tw_522, inT9, ⟨tyX9, tyX9_ok⟩, nmX9, by decide +kernel, rfl, fun _ => rfl⟩
theorem fl_X9_61 : FL RX9 61 9 25 := ⟨(RX9, TX9, 43), rfl, by decide, tw_523, inT9⟩
theorem fp_X9_61 : FP RX9 61 9 25 (.array .int) true := ⟨(RX9, TX9, 43), rfl, by decide, tw_523, inT9, ⟨tyX9, tyX9_ok⟩, nmX9, by decide +kernel, rfl, fun _ => rfl⟩
theorem fl_X9_64 : FL RX9 64 9 26 := ⟨(RX9, TX9, 43), rfl, by decide, tw_524, inT9⟩
theorem fp_X9_64 : FP RX9 64 9 26 (.array .int) true := ⟨(RX9, TX9, 43), rfl, by decide, tw_524, inT9, ⟨tyX9, tyX9_ok⟩, nmX9, by decide +kernel, rfl, fun _ => rfl⟩
theorem fl_X9_67 : FL RX9 67 9 27 := ⟨(RX9, TX9, 43), rfl, by decide, tw_525, inT9⟩
theorem fp_X9_67 : FP RX9 67 9 27 (.array .int) true := ⟨(RX9, TX9, 43), rfl, by decide, tw_525, inT9, ⟨tyX9, tyX9_ok⟩, nmX9, by decide +kernel, rfl, fun _ => rfl⟩
theorem fl_X9_70 : FL RX9 70 9 28 := ⟨(RX9, TX9, 43), rfl, by decide, tw_526, inT9⟩
theorem fp_X9_70 : FP RX9 70 9 28 (.array .int) true := ⟨(RX9, TX9, 43), rfl, by decide, tw_526, inT9, ⟨tyX9, tyX9_ok⟩, nmX9, by decide +kernel, rfl, fun _ => rfl⟩
theorem fl_X9_73 : FL RX9 73 9 29 := ⟨(RX9, TX9, 43), rfl, by decide, tw_527, inT9⟩
theorem fp_X9_73 : FP RX9 73 9 29 (.array .int) true := ⟨(RX9, TX9, 43), rfl, by decide, tw_527, inT9, ⟨tyX9, tyX9_ok⟩, nmX9, by decide +kernel, rfl, fun _ => rfl⟩
theorem fl_X9_76 : FL RX9 76 9 30 := ⟨(RX9, TX9, 43), rfl, by decide, tw_528, inT9⟩
theorem fp_X9_76 : FP RX9 76 9 30 (.array .int) true := ⟨(RX9, TX9, 43), rfl, by decide, tw_528, inT9, ⟨tyX9, tyX9_ok⟩, nmX9, by decide +kernel, rfl, fun _ => rfl⟩
theorem fl_X9_226 : FL RX9 226 9 31 := ⟨(RX9, TX9, 43), rfl, by decide, tw_529, inT9⟩
theorem fp_X9_226 : FP RX9 226 9 31 .int false := ⟨(RX9, TX9, 43), rfl, by decide, tw_529, inT9, ⟨tyX9, tyX9_ok⟩, nmX9, by decide +kernel, rfl, fun h => nomatch h⟩
theorem fl_X9_79 : FL RX9 79 9 32 := ⟨(RX9, TX9, 43), rfl, by decide, tw_530, inT9⟩
theorem fp_X9_79 : FP RX9 79 9 32 (.array .int) true := ⟨(RX9, TX9, 43), rfl, by decide, tw_530, inT9, ⟨tyX9, tyX9_ok⟩, nmX9, by decide +kernel, rfl, fun _ => rfl⟩
theorem fl_X9_82 : FL RX9 82 9 33 := ⟨(RX9, TX9, 43), rfl, by decide, tw_531, inT9⟩
theorem fp_X9_82 : FP RX9 82 9 33 (.array .int) true := ⟨(RX9, TX9, 43), rfl, by decide, tw_531, inT9, ⟨tyX9, tyX9_ok⟩, nmX9, by decide +kernel, rfl, fun _ => rfl⟩
theorem fl_X9_85 : FL RX9 85 9 34 := ⟨(RX9, TX9, 43), rfl, by decide, tw_532, inT9⟩
theorem fp_X9_85 : FP RX9 85 9 34 (.array .int) true := ⟨(RX9, TX9, 43), rfl, by decide, tw_532, inT9, ⟨tyX9, tyX9_ok⟩, nmX9, by decide +kernel, rfl, fun _ => rfl⟩
theorem fl_X9_194 : FL RX9 194 9 35 := ⟨(RX9, TX9, 43), rfl, by decide, tw_533, inT9⟩
theorem fp_X9_194 : FP RX9 194 9 35 .int false := ⟨(RX9, TX9, 43), rfl, by decide, tw_533, inT9, ⟨tyX9, tyX9_ok⟩, nmX9, by decide +kernel, rfl, fun h => nomatch h⟩
theorem fl_X9_88 : FL RX9 88 9 36 := ⟨(RX9, TX9, 43), rfl, by decide, tw_534, inT9⟩
theorem fp_X9_88 : FP RX9 88 9 36 (.array .int) true := ⟨(RX9, TX9, 43), rfl, by decide, tw_534, inT9, ⟨tyX9, tyX9_ok⟩, nmX9, by decide +kernel, rfl, fun _ => rfl⟩
theorem fl_X9_91 : FL RX9 91 9 37 := ⟨(RX9, TX9, 43), rfl, by decide, tw_535, inT9⟩
theorem fp_X9_91 : FP RX9 91 9 37 (.array .int) true := ⟨(RX9, TX9, 43), rfl, by decide, tw_535, inT9, ⟨tyX9, tyX9_ok⟩, nmX9, by decide +kernel, rfl, fun _ => rfl⟩
theorem fl_X9_94 : FL RX9 94 9 38 := ⟨(RX9, TX9, 43), rfl, by decide, tw_536, inT9⟩
theorem fp_X9_94 : FP RX9 94 9 38 (.array .int) true := ⟨(RX9, TX9, 43), rfl, by decide, tw_536, inT9, ⟨tyX9, tyX9_ok⟩, nmX9, by decide +kernel, rfl, fun _ => rfl⟩
theorem fl_X9_184 : FL RX9 184 9 39 := ⟨(RX9, TX9, 43), rfl, by decide, tw_537, inT9⟩
theorem fp_X9_184 : FP RX9 184 9 39 .int false := ⟨(RX9, TX9, 43), rfl, by decide, tw_537, inT9, ⟨tyX9, tyX9_ok⟩, nmX9, by decide +kernel, rfl, fun h => nomatch h⟩
theorem fl_X9_97 : FL RX9 97 9 40 := ⟨(RX9, TX9, 43), rfl, by decide, tw_538, inT9⟩
theorem fp_X9_97 : FP RX9 97 9 40 (.array .int) true := ⟨(RX9, TX9, 43), rfl, by decide, tw_538, inT9, ⟨tyX9, tyX9_ok⟩, nmX9, by decide +kernel, rfl, fun _ => rfl⟩
theorem fl_X9_100 : FL RX9 100 9 41 := ⟨(RX9, TX9, 43), rfl, by decide, tw_539, inT9⟩
theorem fp_X9_100 : FP RX9 100 9 41 (.array .int) true := ⟨(RX9, TX9, 43), rfl, by decide, tw_539, inT9, ⟨tyX9, tyX9_ok⟩, nmX9, by decide +kernel, rfl, fun _ => rfl⟩
theorem fl_X9_103 : FL RX9 103 9 42 := ⟨(RX9, TX9, 43), rfl, by decide, tw_540, inT9⟩
theorem fp_X9_103 : FP RX9 103 9 42 (.array .int) true := ⟨(RX9, TX9, 43), rfl, by decide, tw_540, inT9, ⟨tyX9, tyX9_ok⟩, nmX9, by decide +kernel, rfl, fun _ => rfl⟩
theorem ml_X8_init : ML yX8_init cX8_init 1 (Option.none : Option Jvm.ClassFile.FieldType) 0 := ⟨tw_18, tw_1, ⟨by decide +kernel, by decide +kernel⟩, by decide +kernel⟩
theorem ml_X1_init : ML yX1_init cX1_init 1 (Option.none : Option Jvm.ClassFile.FieldType) 0 := ⟨tw_25, tw_2, ⟨by decide +kernel, by decide +kernel⟩, by decide +kernel⟩
theorem ml_X2_init : ML yX2_init cX2_init 1 (Option.none : Option Jvm.ClassFile.FieldType) 0 := ⟨tw_41, tw_3, ⟨by decide +kernel, by decide +kernel⟩, by decide +kernel⟩
theorem ml_X7_init : ML yX7_init cX7_init 1 (Option.none : Option Jvm.ClassFile.FieldType) 0 := ⟨tw_54, tw_4, ⟨by decide +kernel, by decide +kernel⟩, by decide +kernel⟩
theorem ml_X3_init : ML yX3_init cX3_init 1 (Option.none : Option Jvm.ClassFile.FieldType) 0 := ⟨tw_63, tw_5, ⟨by decide +kernel, by decide +kernel⟩, by decide +kernel⟩
theorem ml_X6_init : ML yX6_init cX6_init 1 (Option.none : Option Jvm.ClassFile.FieldType) 0 := ⟨tw_74, tw_6, ⟨by decide +kernel, by decide +kernel⟩, by decide +kernel⟩
theorem ml_X5_init : ML yX5_init cX5_init 1 (Option.none : Option Jvm.ClassFile.FieldType) 0 := ⟨tw_85, tw_7, ⟨by decide +kernel, by decide +kernel⟩, by decide +kernel⟩
theorem ml_X8_unit : ML yX8_unit cX8_unit 2 (Option.some Jvm.ClassFile.FieldType.int) 1 := ⟨tw_124, tw_1, ⟨by decide +kernel, by decide +kernel⟩, by decide +kernel⟩
theorem ml_X8_mark : ML yX8_mark cX8_mark 1 (Option.some Jvm.ClassFile.FieldType.int) 0 := ⟨tw_129, tw_1, ⟨by decide +kernel, by decide +kernel⟩, by decide +kernel⟩
theorem ml_X8_text : ML yX8_text cX8_text 1 (Option.some Jvm.ClassFile.FieldType.int) 0 := ⟨tw_133, tw_1, ⟨by decide +kernel, by decide +kernel⟩, by decide +kernel⟩
theorem ml_X8_readSigns : ML yX8_readSigns cX8_readSigns 7 (Option.none : Option Jvm.ClassFile.FieldType) 3 := ⟨tw_136, tw_1, ⟨by decide +kernel, by decide +kernel⟩, by decide +kernel⟩
theorem ml_X5_clear : ML yX5_clear cX5_clear 1 (Option.none : Option Jvm.ClassFile.FieldType) 0 := ⟨tw_140, tw_7, ⟨by decide +kernel, by decide +kernel⟩, by decide +kernel⟩
theorem ml_X8_isHigh : ML yX8_isHigh cX8_isHigh 1 (Option.some Jvm.ClassFile.FieldType.boolean) 1 := ⟨tw_143, tw_1, ⟨by decide +kernel, by decide +kernel⟩, by decide +kernel⟩
theorem ml_X8_isLow : ML yX8_isLow cX8_isLow 1 (Option.some Jvm.ClassFile.FieldType.boolean) 1 := ⟨tw_148, tw_1, ⟨by decide +kernel, by decide +kernel⟩, by decide +kernel⟩
theorem ml_X5_add : ML yX5_add cX5_add 4 (Option.some Jvm.ClassFile.FieldType.boolean) 3 := ⟨tw_154, tw_7, ⟨by decide +kernel, by decide +kernel⟩, by decide +kernel⟩
theorem ml_X8_emptyDraft : ML yX8_emptyDraft cX8_emptyDraft 1 (Option.none : Option Jvm.ClassFile.FieldType) 0 := ⟨tw_157, tw_1, ⟨by decide +kernel, by decide +kernel⟩, by decide +kernel⟩
theorem ml_X5_size : ML yX5_size cX5_size 1 (Option.some Jvm.ClassFile.FieldType.int) 0 := ⟨tw_161, tw_7, ⟨by decide +kernel, by decide +kernel⟩, by decide +kernel⟩
theorem ml_X8_string : ML yX8_string cX8_string 1 (Option.some Jvm.ClassFile.FieldType.int) 0 := ⟨tw_165, tw_1, ⟨by decide +kernel, by decide +kernel⟩, by decide +kernel⟩
theorem ml_X6_put : ML yX6_put cX6_put 4 (Option.some Jvm.ClassFile.FieldType.boolean) 2 := ⟨tw_169, tw_6, ⟨by decide +kernel, by decide +kernel⟩, by decide +kernel⟩
theorem ml_X6_slotOf : ML yX6_slotOf cX6_slotOf 4 (Option.some Jvm.ClassFile.FieldType.int) 1 := ⟨tw_172, tw_6, ⟨by decide +kernel, by decide +kernel⟩, by decide +kernel⟩
theorem ml_X4_length : ML yX4_length cX4_length 1 (Option.some Jvm.ClassFile.FieldType.int) 0 := ⟨tw_176, tw_9, ⟨by decide +kernel, by decide +kernel⟩, by decide +kernel⟩
theorem ml_X4_standsAt : ML yX4_standsAt cX4_standsAt 4 (Option.some Jvm.ClassFile.FieldType.boolean) 2 := ⟨tw_181, tw_9, ⟨by decide +kernel, by decide +kernel⟩, by decide +kernel⟩
theorem ml_X5_signAt : ML yX5_signAt cX5_signAt 2 (Option.some Jvm.ClassFile.FieldType.int) 1 := ⟨tw_186, tw_7, ⟨by decide +kernel, by decide +kernel⟩, by decide +kernel⟩
theorem ml_X5_has : ML yX5_has cX5_has 2 (Option.some Jvm.ClassFile.FieldType.boolean) 1 := ⟨tw_190, tw_7, ⟨by decide +kernel, by decide +kernel⟩, by decide +kernel⟩
theorem ml_X4_init : ML yX4_init cX4_init 3 (Option.none : Option Jvm.ClassFile.FieldType) 2 := ⟨tw_194, tw_9, ⟨by decide +kernel, by decide +kernel⟩, by decide +kernel⟩
theorem ml_X5_signsAlone : ML yX5_signsAlone cX5_signsAlone 1 (Option.some (Jvm.ClassFile.FieldType.array Jvm.ClassFile.FieldType.int)) 0 := ⟨tw_199, tw_7, ⟨by decide +kernel, by decide +kernel⟩, by decide +kernel⟩
theorem ml_J7_copyOf_59c91 : ML yJ7_copyOf_59c91 cJ7_copyOf_59c91 3 (Option.some (Jvm.ClassFile.FieldType.array Jvm.ClassFile.FieldType.int)) 2 := ⟨tw_202, tw_10, ⟨by decide +kernel, by decide +kernel⟩, by decide +kernel⟩
theorem ml_J9_min_7cf53 : ML yJ9_min_7cf53 cJ9_min_7cf53 2 (Option.some Jvm.ClassFile.FieldType.int) 2 := ⟨tw_209, tw_11, ⟨by decide +kernel, by decide +kernel⟩, by decide +kernel⟩
theorem ml_X6_size : ML yX6_size cX6_size 1 (Option.some Jvm.ClassFile.FieldType.int) 0 := ⟨tw_220, tw_6, ⟨by decide +kernel, by decide +kernel⟩, by decide +kernel⟩
theorem ml_X8_fold : ML yX8_fold cX8_fold 5 (Option.some Jvm.ClassFile.FieldType.int) 4 := ⟨tw_224, tw_1, ⟨by decide +kernel, by decide +kernel⟩, by decide +kernel⟩
theorem ml_X8_isSign : ML yX8_isSign cX8_isSign 1 (Option.some Jvm.ClassFile.FieldType.boolean) 1 := ⟨tw_227, tw_1, ⟨by decide +kernel, by decide +kernel⟩, by decide +kernel⟩
theorem ml_X8_isFoldRow : ML yX8_isFoldRow cX8_isFoldRow 3 (Option.some Jvm.ClassFile.FieldType.boolean) 3 := ⟨tw_231, tw_1, ⟨by decide +kernel, by decide +kernel⟩, by decide +kernel⟩
theorem ml_X8_isSignOrNone : ML yX8_isSignOrNone cX8_isSignOrNone 1 (Option.some Jvm.ClassFile.FieldType.boolean) 1 := ⟨tw_234, tw_1, ⟨by decide +kernel, by decide +kernel⟩, by decide +kernel⟩
theorem ml_X1_put : ML yX1_put cX1_put 6 (Option.some Jvm.ClassFile.FieldType.boolean) 4 := ⟨tw_238, tw_2, ⟨by decide +kernel, by decide +kernel⟩, by decide +kernel⟩
theorem ml_X1_slotOf : ML yX1_slotOf cX1_slotOf 3 (Option.some Jvm.ClassFile.FieldType.int) 1 := ⟨tw_242, tw_2, ⟨by decide +kernel, by decide +kernel⟩, by decide +kernel⟩
theorem ml_X1_size : ML yX1_size cX1_size 1 (Option.some Jvm.ClassFile.FieldType.int) 0 := ⟨tw_246, tw_2, ⟨by decide +kernel, by decide +kernel⟩, by decide +kernel⟩
theorem ml_X8_pair : ML yX8_pair cX8_pair 4 (Option.some Jvm.ClassFile.FieldType.int) 3 := ⟨tw_250, tw_1, ⟨by decide +kernel, by decide +kernel⟩, by decide +kernel⟩
theorem ml_X2_put : ML yX2_put cX2_put 5 (Option.some Jvm.ClassFile.FieldType.boolean) 3 := ⟨tw_254, tw_3, ⟨by decide +kernel, by decide +kernel⟩, by decide +kernel⟩
theorem ml_X2_slotOf : ML yX2_slotOf cX2_slotOf 4 (Option.some Jvm.ClassFile.FieldType.int) 2 := ⟨tw_258, tw_3, ⟨by decide +kernel, by decide +kernel⟩, by decide +kernel⟩
theorem ml_X2_size : ML yX2_size cX2_size 1 (Option.some Jvm.ClassFile.FieldType.int) 0 := ⟨tw_262, tw_3, ⟨by decide +kernel, by decide +kernel⟩, by decide +kernel⟩
theorem ml_X8_zero : ML yX8_zero cX8_zero 2 (Option.some Jvm.ClassFile.FieldType.int) 1 := ⟨tw_266, tw_1, ⟨by decide +kernel, by decide +kernel⟩, by decide +kernel⟩
theorem ml_X7_add : ML yX7_add cX7_add 2 (Option.some Jvm.ClassFile.FieldType.boolean) 1 := ⟨tw_271, tw_4, ⟨by decide +kernel, by decide +kernel⟩, by decide +kernel⟩
theorem ml_X7_size : ML yX7_size cX7_size 1 (Option.some Jvm.ClassFile.FieldType.int) 0 := ⟨tw_275, tw_4, ⟨by decide +kernel, by decide +kernel⟩, by decide +kernel⟩
theorem ml_X8_range : ML yX8_range cX8_range 3 (Option.some Jvm.ClassFile.FieldType.int) 2 := ⟨tw_279, tw_1, ⟨by decide +kernel, by decide +kernel⟩, by decide +kernel⟩
theorem ml_X3_add : ML yX3_add cX3_add 3 (Option.some Jvm.ClassFile.FieldType.boolean) 2 := ⟨tw_283, tw_5, ⟨by decide +kernel, by decide +kernel⟩, by decide +kernel⟩
theorem ml_X3_size : ML yX3_size cX3_size 1 (Option.some Jvm.ClassFile.FieldType.int) 0 := ⟨tw_287, tw_5, ⟨by decide +kernel, by decide +kernel⟩, by decide +kernel⟩
theorem ml_X8_filter : ML yX8_filter cX8_filter 3 (Option.some Jvm.ClassFile.FieldType.int) 2 := ⟨tw_291, tw_1, ⟨by decide +kernel, by decide +kernel⟩, by decide +kernel⟩
theorem ml_X8_isPlace : ML yX8_isPlace cX8_isPlace 1 (Option.some Jvm.ClassFile.FieldType.boolean) 1 := ⟨tw_294, tw_1, ⟨by decide +kernel, by decide +kernel⟩, by decide +kernel⟩
theorem ml_X0_init : ML yX0_init cX0_init 2 (Option.none : Option Jvm.ClassFile.FieldType) 1 := ⟨tw_298, tw_13, ⟨by decide +kernel, by decide +kernel⟩, by decide +kernel⟩
theorem ml_X8_drop : ML yX8_drop cX8_drop 3 (Option.some Jvm.ClassFile.FieldType.int) 1 := ⟨tw_319, tw_1, ⟨by decide +kernel, by decide +kernel⟩, by decide +kernel⟩
theorem ml_X8_rule : ML yX8_rule cX8_rule 5 (Option.some Jvm.ClassFile.FieldType.int) 2 := ⟨tw_323, tw_1, ⟨by decide +kernel, by decide +kernel⟩, by decide +kernel⟩
theorem ml_X8_run : ML yX8_run cX8_run 6 (Option.some Jvm.ClassFile.FieldType.int) 0 := ⟨tw_327, tw_1, ⟨by decide +kernel, by decide +kernel⟩, by decide +kernel⟩
theorem ml_X5_copyFrom : ML yX5_copyFrom cX5_copyFrom 3 (Option.none : Option Jvm.ClassFile.FieldType) 1 := ⟨tw_331, tw_7, ⟨by decide +kernel, by decide +kernel⟩, by decide +kernel⟩
theorem ml_X5_beginAt : ML yX5_beginAt cX5_beginAt 2 (Option.some Jvm.ClassFile.FieldType.int) 1 := ⟨tw_338, tw_7, ⟨by decide +kernel, by decide +kernel⟩, by decide +kernel⟩
theorem ml_X5_endAt : ML yX5_endAt cX5_endAt 2 (Option.some Jvm.ClassFile.FieldType.int) 1 := ⟨tw_342, tw_7, ⟨by decide +kernel, by decide +kernel⟩, by decide +kernel⟩
theorem ml_X0_beginRun : ML yX0_beginRun cX0_beginRun 1 (Option.none : Option Jvm.ClassFile.FieldType) 0 := ⟨tw_347, tw_13, ⟨by decide +kernel, by decide +kernel⟩, by decide +kernel⟩
theorem ml_X8_passThrough : ML yX8_passThrough cX8_passThrough 4 (Option.some Jvm.ClassFile.FieldType.boolean) 3 := ⟨tw_350, tw_1, ⟨by decide +kernel, by decide +kernel⟩, by decide +kernel⟩
theorem ml_X8_passFolding : ML yX8_passFolding cX8_passFolding 9 (Option.some Jvm.ClassFile.FieldType.boolean) 3 := ⟨tw_353, tw_1, ⟨by decide +kernel, by decide +kernel⟩, by decide +kernel⟩
theorem ml_X0_meetOne : ML yX0_meetOne cX0_meetOne 1 (Option.none : Option Jvm.ClassFile.FieldType) 0 := ⟨tw_361, tw_13, ⟨by decide +kernel, by decide +kernel⟩, by decide +kernel⟩
theorem ml_X1_unitsAt : ML yX1_unitsAt cX1_unitsAt 4 (Option.some Jvm.ClassFile.FieldType.int) 1 := ⟨tw_365, tw_2, ⟨by decide +kernel, by decide +kernel⟩, by decide +kernel⟩
theorem ml_X1_lengthAt : ML yX1_lengthAt cX1_lengthAt 3 (Option.some Jvm.ClassFile.FieldType.int) 1 := ⟨tw_369, tw_2, ⟨by decide +kernel, by decide +kernel⟩, by decide +kernel⟩
theorem ml_X1_partAt : ML yX1_partAt cX1_partAt 3 (Option.some Jvm.ClassFile.FieldType.int) 2 := ⟨tw_373, tw_2, ⟨by decide +kernel, by decide +kernel⟩, by decide +kernel⟩
theorem ml_X8_unitsOf : ML yX8_unitsOf cX8_unitsOf 1 (Option.some Jvm.ClassFile.FieldType.int) 1 := ⟨tw_375, tw_1, ⟨by decide +kernel, by decide +kernel⟩, by decide +kernel⟩
theorem ml_X0_growBy : ML yX0_growBy cX0_growBy 2 (Option.none : Option Jvm.ClassFile.FieldType) 1 := ⟨tw_380, tw_13, ⟨by decide +kernel, by decide +kernel⟩, by decide +kernel⟩
theorem ml_X8_passComposing : ML yX8_passComposing cX8_passComposing 7 (Option.some Jvm.ClassFile.FieldType.boolean) 3 := ⟨tw_385, tw_1, ⟨by decide +kernel, by decide +kernel⟩, by decide +kernel⟩
theorem ml_X2_signAt : ML yX2_signAt cX2_signAt 2 (Option.some Jvm.ClassFile.FieldType.int) 1 := ⟨tw_390, tw_3, ⟨by decide +kernel, by decide +kernel⟩, by decide +kernel⟩
theorem ml_X5_changeLast : ML yX5_changeLast cX5_changeLast 3 (Option.none : Option Jvm.ClassFile.FieldType) 2 := ⟨tw_394, tw_7, ⟨by decide +kernel, by decide +kernel⟩, by decide +kernel⟩
theorem ml_X8_passDigits : ML yX8_passDigits cX8_passDigits 8 (Option.some Jvm.ClassFile.FieldType.boolean) 3 := ⟨tw_397, tw_1, ⟨by decide +kernel, by decide +kernel⟩, by decide +kernel⟩
theorem ml_X7_digitOf : ML yX7_digitOf cX7_digitOf 3 (Option.some Jvm.ClassFile.FieldType.int) 1 := ⟨tw_401, tw_4, ⟨by decide +kernel, by decide +kernel⟩, by decide +kernel⟩
theorem ml_X8_passDropping : ML yX8_passDropping cX8_passDropping 6 (Option.some Jvm.ClassFile.FieldType.boolean) 3 := ⟨tw_404, tw_1, ⟨by decide +kernel, by decide +kernel⟩, by decide +kernel⟩
theorem ml_X3_holds : ML yX3_holds cX3_holds 3 (Option.some Jvm.ClassFile.FieldType.boolean) 1 := ⟨tw_408, tw_5, ⟨by decide +kernel, by decide +kernel⟩, by decide +kernel⟩
theorem ml_X8_passReplacing : ML yX8_passReplacing cX8_passReplacing 8 (Option.some Jvm.ClassFile.FieldType.boolean) 3 := ⟨tw_411, tw_1, ⟨by decide +kernel, by decide +kernel⟩, by decide +kernel⟩
theorem ml_X6_longestAt : ML yX6_longestAt cX6_longestAt 6 (Option.some (Jvm.ClassFile.FieldType.object "SignTables$Replacement")) 2 := ⟨tw_415, tw_6, ⟨by decide +kernel, by decide +kernel⟩, by decide +kernel⟩
theorem ml_X4_writeTo : ML yX4_writeTo cX4_writeTo 6 (Option.some Jvm.ClassFile.FieldType.boolean) 3 := ⟨tw_420, tw_9, ⟨by decide +kernel, by decide +kernel⟩, by decide +kernel⟩
theorem ml_X8_passHalves : ML yX8_passHalves cX8_passHalves 8 (Option.some Jvm.ClassFile.FieldType.boolean) 3 := ⟨tw_424, tw_1, ⟨by decide +kernel, by decide +kernel⟩, by decide +kernel⟩
theorem ml_X8_passWidths : ML yX8_passWidths cX8_passWidths 8 (Option.some Jvm.ClassFile.FieldType.boolean) 3 := ⟨tw_428, tw_1, ⟨by decide +kernel, by decide +kernel⟩, by decide +kernel⟩
theorem ml_X8_narrowed : ML yX8_narrowed cX8_narrowed 1 (Option.some Jvm.ClassFile.FieldType.int) 1 := ⟨tw_431, tw_1, ⟨by decide +kernel, by decide +kernel⟩, by decide +kernel⟩
theorem ml_X8_settleFilters : ML yX8_settleFilters cX8_settleFilters 3 (Option.none : Option Jvm.ClassFile.FieldType) 0 := ⟨tw_437, tw_1, ⟨by decide +kernel, by decide +kernel⟩, by decide +kernel⟩
theorem ml_X0_settleRun : ML yX0_settleRun cX0_settleRun 1 (Option.none : Option Jvm.ClassFile.FieldType) 0 := ⟨tw_441, tw_13, ⟨by decide +kernel, by decide +kernel⟩, by decide +kernel⟩
theorem ml_X8_sign : ML yX8_sign cX8_sign 2 (Option.some Jvm.ClassFile.FieldType.int) 1 := ⟨tw_445, tw_1, ⟨by decide +kernel, by decide +kernel⟩, by decide +kernel⟩
theorem ml_X8_place : ML yX8_place cX8_place 3 (Option.some Jvm.ClassFile.FieldType.int) 2 := ⟨tw_450, tw_1, ⟨by decide +kernel, by decide +kernel⟩, by decide +kernel⟩
theorem ml_X8_unitAt : ML yX8_unitAt cX8_unitAt 6 (Option.some Jvm.ClassFile.FieldType.int) 1 := ⟨tw_454, tw_1, ⟨by decide +kernel, by decide +kernel⟩, by decide +kernel⟩
theorem ml_X8_unitOf : ML yX8_unitOf cX8_unitOf 3 (Option.some Jvm.ClassFile.FieldType.int) 2 := ⟨tw_457, tw_1, ⟨by decide +kernel, by decide +kernel⟩, by decide +kernel⟩
theorem ml_X8_units : ML yX8_units cX8_units 3 (Option.some Jvm.ClassFile.FieldType.int) 0 := ⟨tw_461, tw_1, ⟨by decide +kernel, by decide +kernel⟩, by decide +kernel⟩
theorem ml_X8_broken : ML yX8_broken cX8_broken 5 (Option.some Jvm.ClassFile.FieldType.int) 1 := ⟨tw_465, tw_1, ⟨by decide +kernel, by decide +kernel⟩, by decide +kernel⟩
theorem ml_X8_classOf : ML yX8_classOf cX8_classOf 1 (Option.some Jvm.ClassFile.FieldType.int) 1 := ⟨tw_468, tw_1, ⟨by decide +kernel, by decide +kernel⟩, by decide +kernel⟩
theorem ml_X8_met : ML yX8_met cX8_met 3 (Option.some Jvm.ClassFile.FieldType.int) 1 := ⟨tw_472, tw_1, ⟨by decide +kernel, by decide +kernel⟩, by decide +kernel⟩
theorem ml_X8_grown : ML yX8_grown cX8_grown 3 (Option.some Jvm.ClassFile.FieldType.int) 1 := ⟨tw_476, tw_1, ⟨by decide +kernel, by decide +kernel⟩, by decide +kernel⟩
theorem ml_X8_table : ML yX8_table cX8_table 2 (Option.some Jvm.ClassFile.FieldType.int) 1 := ⟨tw_480, tw_1, ⟨by decide +kernel, by decide +kernel⟩, by decide +kernel⟩
theorem ml_X8_digit : ML yX8_digit cX8_digit 2 (Option.some Jvm.ClassFile.FieldType.int) 1 := ⟨tw_484, tw_1, ⟨by decide +kernel, by decide +kernel⟩, by decide +kernel⟩
theorem ml_X8_count : ML yX8_count cX8_count 2 (Option.some Jvm.ClassFile.FieldType.int) 1 := ⟨tw_488, tw_1, ⟨by decide +kernel, by decide +kernel⟩, by decide +kernel⟩
theorem ml_X8_filtersInChain : ML yX8_filtersInChain cX8_filtersInChain 3 (Option.some Jvm.ClassFile.FieldType.int) 0 := ⟨tw_491, tw_1, ⟨by decide +kernel, by decide +kernel⟩, by decide +kernel⟩
theorem ml_X9_init : ML yX9_init cX9_init 1 (Option.none : Option Jvm.ClassFile.FieldType) 0 := ⟨tw_496, tw_8, ⟨by decide +kernel, by decide +kernel⟩, by decide +kernel⟩
theorem ml_X9_unit : ML yX9_unit cX9_unit 2 (Option.some Jvm.ClassFile.FieldType.int) 1 := ⟨tw_587, tw_8, ⟨by decide +kernel, by decide +kernel⟩, by decide +kernel⟩
theorem ml_X9_mark : ML yX9_mark cX9_mark 1 (Option.some Jvm.ClassFile.FieldType.int) 0 := ⟨tw_592, tw_8, ⟨by decide +kernel, by decide +kernel⟩, by decide +kernel⟩
theorem ml_X9_text : ML yX9_text cX9_text 2 (Option.some Jvm.ClassFile.FieldType.int) 0 := ⟨tw_596, tw_8, ⟨by decide +kernel, by decide +kernel⟩, by decide +kernel⟩
theorem ml_X9_signAt : ML yX9_signAt cX9_signAt 3 (Option.some Jvm.ClassFile.FieldType.int) 2 := ⟨tw_599, tw_8, ⟨by decide +kernel, by decide +kernel⟩, by decide +kernel⟩
theorem ml_X9_isTwo : ML yX9_isTwo cX9_isTwo 3 (Option.some Jvm.ClassFile.FieldType.boolean) 2 := ⟨tw_602, tw_8, ⟨by decide +kernel, by decide +kernel⟩, by decide +kernel⟩
theorem ml_X9_isHigh : ML yX9_isHigh cX9_isHigh 1 (Option.some Jvm.ClassFile.FieldType.boolean) 1 := ⟨tw_605, tw_8, ⟨by decide +kernel, by decide +kernel⟩, by decide +kernel⟩
theorem ml_X9_isIn : ML yX9_isIn cX9_isIn 3 (Option.some Jvm.ClassFile.FieldType.boolean) 3 := ⟨tw_610, tw_8, ⟨by decide +kernel, by decide +kernel⟩, by decide +kernel⟩
theorem ml_X9_isLow : ML yX9_isLow cX9_isLow 1 (Option.some Jvm.ClassFile.FieldType.boolean) 1 := ⟨tw_613, tw_8, ⟨by decide +kernel, by decide +kernel⟩, by decide +kernel⟩
theorem ml_X9_emptyDraft : ML yX9_emptyDraft cX9_emptyDraft 1 (Option.none : Option Jvm.ClassFile.FieldType) 0 := ⟨tw_619, tw_8, ⟨by decide +kernel, by decide +kernel⟩, by decide +kernel⟩
theorem ml_X9_string : ML yX9_string cX9_string 3 (Option.some Jvm.ClassFile.FieldType.int) 0 := ⟨tw_623, tw_8, ⟨by decide +kernel, by decide +kernel⟩, by decide +kernel⟩
theorem ml_X9_signsOf : ML yX9_signsOf cX9_signsOf 7 (Option.some Jvm.ClassFile.FieldType.int) 4 := ⟨tw_626, tw_8, ⟨by decide +kernel, by decide +kernel⟩, by decide +kernel⟩
theorem ml_X9_isSameRow : ML yX9_isSameRow cX9_isSameRow 5 (Option.some Jvm.ClassFile.FieldType.boolean) 2 := ⟨tw_629, tw_8, ⟨by decide +kernel, by decide +kernel⟩, by decide +kernel⟩
theorem ml_X9_fold : ML yX9_fold cX9_fold 6 (Option.some Jvm.ClassFile.FieldType.int) 4 := ⟨tw_633, tw_8, ⟨by decide +kernel, by decide +kernel⟩, by decide +kernel⟩
theorem ml_X9_isSign : ML yX9_isSign cX9_isSign 1 (Option.some Jvm.ClassFile.FieldType.boolean) 1 := ⟨tw_636, tw_8, ⟨by decide +kernel, by decide +kernel⟩, by decide +kernel⟩
theorem ml_X9_isSignOrNone : ML yX9_isSignOrNone cX9_isSignOrNone 1 (Option.some Jvm.ClassFile.FieldType.boolean) 1 := ⟨tw_640, tw_8, ⟨by decide +kernel, by decide +kernel⟩, by decide +kernel⟩
theorem ml_X9_foldAt : ML yX9_foldAt cX9_foldAt 4 (Option.some Jvm.ClassFile.FieldType.int) 1 := ⟨tw_643, tw_8, ⟨by decide +kernel, by decide +kernel⟩, by decide +kernel⟩
theorem ml_X9_pair : ML yX9_pair cX9_pair 5 (Option.some Jvm.ClassFile.FieldType.int) 3 := ⟨tw_647, tw_8, ⟨by decide +kernel, by decide +kernel⟩, by decide +kernel⟩
theorem ml_X9_pairAt : ML yX9_pairAt cX9_pairAt 5 (Option.some Jvm.ClassFile.FieldType.int) 2 := ⟨tw_650, tw_8, ⟨by decide +kernel, by decide +kernel⟩, by decide +kernel⟩
theorem ml_X9_zero : ML yX9_zero cX9_zero 2 (Option.some Jvm.ClassFile.FieldType.int) 1 := ⟨tw_654, tw_8, ⟨by decide +kernel, by decide +kernel⟩, by decide +kernel⟩
theorem ml_X9_range : ML yX9_range cX9_range 3 (Option.some Jvm.ClassFile.FieldType.int) 2 := ⟨tw_659, tw_8, ⟨by decide +kernel, by decide +kernel⟩, by decide +kernel⟩
theorem ml_X9_filter : ML yX9_filter cX9_filter 3 (Option.some Jvm.ClassFile.FieldType.int) 2 := ⟨tw_663, tw_8, ⟨by decide +kernel, by decide +kernel⟩, by decide +kernel⟩
theorem ml_X9_isPlace : ML yX9_isPlace cX9_isPlace 1 (Option.some Jvm.ClassFile.FieldType.boolean) 1 := ⟨tw_666, tw_8, ⟨by decide +kernel, by decide +kernel⟩, by decide +kernel⟩
theorem ml_X9_drop : ML yX9_drop cX9_drop 3 (Option.some Jvm.ClassFile.FieldType.int) 1 := ⟨tw_670, tw_8, ⟨by decide +kernel, by decide +kernel⟩, by decide +kernel⟩
theorem ml_X9_rule : ML yX9_rule cX9_rule 4 (Option.some Jvm.ClassFile.FieldType.int) 2 := ⟨tw_674, tw_8, ⟨by decide +kernel, by decide +kernel⟩, by decide +kernel⟩
theorem ml_X9_run : ML yX9_run cX9_run 2 (Option.some Jvm.ClassFile.FieldType.int) 0 := ⟨tw_678, tw_8, ⟨by decide +kernel, by decide +kernel⟩, by decide +kernel⟩
theorem ml_X9_goesThrough : ML yX9_goesThrough cX9_goesThrough 4 (Option.some Jvm.ClassFile.FieldType.boolean) 1 := ⟨tw_681, tw_8, ⟨by decide +kernel, by decide +kernel⟩, by decide +kernel⟩
theorem ml_X9_folding : ML yX9_folding cX9_folding 5 (Option.none : Option Jvm.ClassFile.FieldType) 2 := ⟨tw_684, tw_8, ⟨by decide +kernel, by decide +kernel⟩, by decide +kernel⟩
theorem ml_X9_lay : ML yX9_lay cX9_lay 4 (Option.none : Option Jvm.ClassFile.FieldType) 3 := ⟨tw_687, tw_8, ⟨by decide +kernel, by decide +kernel⟩, by decide +kernel⟩
theorem ml_X9_unitsOf : ML yX9_unitsOf cX9_unitsOf 1 (Option.some Jvm.ClassFile.FieldType.int) 1 := ⟨tw_690, tw_8, ⟨by decide +kernel, by decide +kernel⟩, by decide +kernel⟩
theorem ml_X9_composing : ML yX9_composing cX9_composing 4 (Option.none : Option Jvm.ClassFile.FieldType) 2 := ⟨tw_693, tw_8, ⟨by decide +kernel, by decide +kernel⟩, by decide +kernel⟩
theorem ml_X9_replacing : ML yX9_replacing cX9_replacing 6 (Option.some Jvm.ClassFile.FieldType.int) 2 := ⟨tw_696, tw_8, ⟨by decide +kernel, by decide +kernel⟩, by decide +kernel⟩
theorem ml_X9_stringAt : ML yX9_stringAt cX9_stringAt 6 (Option.some Jvm.ClassFile.FieldType.int) 1 := ⟨tw_699, tw_8, ⟨by decide +kernel, by decide +kernel⟩, by decide +kernel⟩
theorem ml_X9_changed : ML yX9_changed cX9_changed 7 (Option.none : Option Jvm.ClassFile.FieldType) 2 := ⟨tw_702, tw_8, ⟨by decide +kernel, by decide +kernel⟩, by decide +kernel⟩
theorem ml_X9_digitOf : ML yX9_digitOf cX9_digitOf 4 (Option.some Jvm.ClassFile.FieldType.int) 1 := ⟨tw_705, tw_8, ⟨by decide +kernel, by decide +kernel⟩, by decide +kernel⟩
theorem ml_X9_isDropped : ML yX9_isDropped cX9_isDropped 4 (Option.some Jvm.ClassFile.FieldType.boolean) 1 := ⟨tw_708, tw_8, ⟨by decide +kernel, by decide +kernel⟩, by decide +kernel⟩
theorem ml_X9_sign : ML yX9_sign cX9_sign 2 (Option.some Jvm.ClassFile.FieldType.int) 1 := ⟨tw_716, tw_8, ⟨by decide +kernel, by decide +kernel⟩, by decide +kernel⟩
theorem ml_X9_isOut : ML yX9_isOut cX9_isOut 2 (Option.some Jvm.ClassFile.FieldType.boolean) 1 := ⟨tw_719, tw_8, ⟨by decide +kernel, by decide +kernel⟩, by decide +kernel⟩
theorem ml_X9_place : ML yX9_place cX9_place 3 (Option.some Jvm.ClassFile.FieldType.int) 2 := ⟨tw_723, tw_8, ⟨by decide +kernel, by decide +kernel⟩, by decide +kernel⟩
theorem ml_X9_units : ML yX9_units cX9_units 3 (Option.some Jvm.ClassFile.FieldType.int) 0 := ⟨tw_727, tw_8, ⟨by decide +kernel, by decide +kernel⟩, by decide +kernel⟩
theorem ml_X9_unitAt : ML yX9_unitAt cX9_unitAt 6 (Option.some Jvm.ClassFile.FieldType.int) 1 := ⟨tw_731, tw_8, ⟨by decide +kernel, by decide +kernel⟩, by decide +kernel⟩
theorem ml_X9_broken : ML yX9_broken cX9_broken 4 (Option.some Jvm.ClassFile.FieldType.int) 1 := ⟨tw_735, tw_8, ⟨by decide +kernel, by decide +kernel⟩, by decide +kernel⟩
theorem ml_X9_classOf : ML yX9_classOf cX9_classOf 1 (Option.some Jvm.ClassFile.FieldType.int) 1 := ⟨tw_738, tw_8, ⟨by decide +kernel, by decide +kernel⟩, by decide +kernel⟩
theorem ml_X9_met : ML yX9_met cX9_met 2 (Option.some Jvm.ClassFile.FieldType.int) 1 := ⟨tw_742, tw_8, ⟨by decide +kernel, by decide +kernel⟩, by decide +kernel⟩
theorem ml_X9_grown : ML yX9_grown cX9_grown 2 (Option.some Jvm.ClassFile.FieldType.int) 1 := ⟨tw_746, tw_8, ⟨by decide +kernel, by decide +kernel⟩, by decide +kernel⟩
theorem ml_X9_table : ML yX9_table cX9_table 2 (Option.some Jvm.ClassFile.FieldType.int) 1 := ⟨tw_750, tw_8, ⟨by decide +kernel, by decide +kernel⟩, by decide +kernel⟩
theorem ml_X9_digit : ML yX9_digit cX9_digit 2 (Option.some Jvm.ClassFile.FieldType.int) 1 := ⟨tw_754, tw_8, ⟨by decide +kernel, by decide +kernel⟩, by decide +kernel⟩
theorem ml_X9_count : ML yX9_count cX9_count 4 (Option.some Jvm.ClassFile.FieldType.int) 1 := ⟨tw_758, tw_8, ⟨by decide +kernel, by decide +kernel⟩, by decide +kernel⟩
theorem lk_L_9 : IL RL 9 yX8_init := ⟨tw_16, tw_17, rfl⟩
theorem lk_L_13 : VL RL 13 yX8_unit := ⟨tw_121, tw_122, tw_123⟩
theorem lk_L_18 : VL RL 18 yX8_mark := ⟨tw_126, tw_127, tw_128⟩
theorem lk_L_23 : VL RL 23 yX8_text := ⟨tw_130, tw_131, tw_132⟩
theorem lk_X8_78 : VL RX8 78 yX8_readSigns := ⟨tw_134, tw_135, tw_759⟩
theorem lk_X8_190 : VL RX8 190 yX5_clear := ⟨tw_137, tw_138, tw_139⟩
theorem lk_X8_193 : SL RX8 193 yX8_isHigh := ⟨tw_141, tw_142⟩
theorem lk_X8_196 : SL RX8 196 yX8_isLow := ⟨tw_146, tw_147⟩
theorem lk_X8_199 : VL RX8 199 yX5_add := ⟨tw_151, tw_152, tw_153⟩
theorem lk_X8_82 : VL RX8 82 yX8_emptyDraft := ⟨tw_155, tw_156, tw_760⟩
theorem lk_X8_85 : VL RX8 85 yX5_size := ⟨tw_158, tw_159, tw_160⟩
theorem lk_L_27 : VL RL 27 yX8_string := ⟨tw_162, tw_163, tw_164⟩
theorem lk_X8_89 : VL RX8 89 yX6_put := ⟨tw_166, tw_167, tw_168⟩
theorem lk_X6_21 : VL RX6 21 yX6_slotOf := ⟨tw_170, tw_171, tw_761⟩
theorem lk_X6_28 : VL RX6 28 yX4_length := ⟨tw_173, tw_174, tw_175⟩
theorem lk_X6_32 : VL RX6 32 yX5_size := ⟨tw_177, tw_159, tw_160⟩
theorem lk_X6_36 : VL RX6 36 yX4_standsAt := ⟨tw_178, tw_179, tw_180⟩
theorem lk_X4_22 : VL RX4 22 yX5_size := ⟨tw_182, tw_159, tw_160⟩
theorem lk_X4_26 : VL RX4 26 yX5_signAt := ⟨tw_183, tw_184, tw_185⟩
theorem lk_X5_25 : VL RX5 25 yX5_has := ⟨tw_187, tw_188, tw_189⟩
theorem lk_X6_25 : IL RX6 25 yX4_init := ⟨tw_192, tw_193, rfl⟩
theorem lk_X4_7 : VL RX4 7 yX5_signsAlone := ⟨tw_196, tw_197, tw_198⟩
theorem lk_X5_49 : SL RX5 49 yJ7_copyOf_59c91 := ⟨tw_200, tw_201⟩
theorem lk_J7_304 : SL RJ7 304 yJ9_min_7cf53 := ⟨tw_207, tw_208⟩
theorem lk_X8_93 : VL RX8 93 yX6_size := ⟨tw_217, tw_218, tw_219⟩
theorem lk_L_31 : VL RL 31 yX8_fold := ⟨tw_221, tw_222, tw_223⟩
theorem lk_X8_94 : SL RX8 94 yX8_isSign := ⟨tw_225, tw_226⟩
theorem lk_X8_98 : SL RX8 98 yX8_isFoldRow := ⟨tw_229, tw_230⟩
theorem lk_X8_180 : SL RX8 180 yX8_isSignOrNone := ⟨tw_232, tw_233⟩
theorem lk_X8_102 : VL RX8 102 yX1_put := ⟨tw_235, tw_236, tw_237⟩
theorem lk_X1_28 : VL RX1 28 yX1_slotOf := ⟨tw_239, tw_240, tw_241⟩
theorem lk_X8_105 : VL RX8 105 yX1_size := ⟨tw_243, tw_244, tw_245⟩
theorem lk_L_36 : VL RL 36 yX8_pair := ⟨tw_247, tw_248, tw_249⟩
theorem lk_X8_106 : VL RX8 106 yX2_put := ⟨tw_251, tw_252, tw_253⟩
theorem lk_X2_25 : VL RX2 25 yX2_slotOf := ⟨tw_255, tw_256, tw_257⟩
theorem lk_X8_108 : VL RX8 108 yX2_size := ⟨tw_259, tw_260, tw_261⟩
theorem lk_L_41 : VL RL 41 yX8_zero := ⟨tw_263, tw_264, tw_265⟩
theorem lk_X8_110 : VL RX8 110 yX7_add := ⟨tw_268, tw_269, tw_270⟩
theorem lk_X8_113 : VL RX8 113 yX7_size := ⟨tw_272, tw_273, tw_274⟩
theorem lk_L_45 : VL RL 45 yX8_range := ⟨tw_276, tw_277, tw_278⟩
theorem lk_X8_114 : VL RX8 114 yX3_add := ⟨tw_280, tw_281, tw_282⟩
theorem lk_X8_117 : VL RX8 117 yX3_size := ⟨tw_284, tw_285, tw_286⟩
theorem lk_L_50 : VL RL 50 yX8_filter := ⟨tw_288, tw_289, tw_290⟩
theorem lk_X8_118 : SL RX8 118 yX8_isPlace := ⟨tw_292, tw_293⟩
theorem lk_X8_121 : IL RX8 121 yX0_init := ⟨tw_296, tw_297, rfl⟩
theorem lk_L_54 : VL RL 54 yX8_drop := ⟨tw_316, tw_317, tw_318⟩
theorem lk_L_58 : VL RL 58 yX8_rule := ⟨tw_320, tw_321, tw_322⟩
theorem lk_L_62 : VL RL 62 yX8_run := ⟨tw_324, tw_325, tw_326⟩
theorem lk_X8_130 : VL RX8 130 yX5_copyFrom := ⟨tw_328, tw_329, tw_330⟩
theorem lk_X5_29 : VL RX5 29 yX5_clear := ⟨tw_332, tw_138, tw_139⟩
theorem lk_X5_32 : VL RX5 32 yX5_size := ⟨tw_333, tw_159, tw_160⟩
theorem lk_X5_35 : VL RX5 35 yX5_signAt := ⟨tw_334, tw_184, tw_185⟩
theorem lk_X5_39 : VL RX5 39 yX5_beginAt := ⟨tw_335, tw_336, tw_337⟩
theorem lk_X5_42 : VL RX5 42 yX5_endAt := ⟨tw_339, tw_340, tw_341⟩
theorem lk_X5_45 : VL RX5 45 yX5_add := ⟨tw_343, tw_152, tw_153⟩
theorem lk_X8_134 : VL RX8 134 yX0_beginRun := ⟨tw_344, tw_345, tw_346⟩
theorem lk_X8_137 : VL RX8 137 yX8_passThrough := ⟨tw_348, tw_349, tw_762⟩
theorem lk_X8_204 : VL RX8 204 yX8_passFolding := ⟨tw_351, tw_352, tw_763⟩
theorem lk_X8_147 : VL RX8 147 yX5_signAt := ⟨tw_354, tw_184, tw_185⟩
theorem lk_X8_225 : VL RX8 225 yX1_slotOf := ⟨tw_355, tw_240, tw_241⟩
theorem lk_X8_154 : VL RX8 154 yX5_beginAt := ⟨tw_356, tw_336, tw_337⟩
theorem lk_X8_151 : VL RX8 151 yX5_endAt := ⟨tw_357, tw_340, tw_341⟩
theorem lk_X8_228 : VL RX8 228 yX0_meetOne := ⟨tw_358, tw_359, tw_360⟩
theorem lk_X8_231 : VL RX8 231 yX1_unitsAt := ⟨tw_362, tw_363, tw_364⟩
theorem lk_X1_36 : VL RX1 36 yX1_lengthAt := ⟨tw_366, tw_367, tw_368⟩
theorem lk_X1_32 : VL RX1 32 yX1_partAt := ⟨tw_370, tw_371, tw_372⟩
theorem lk_X8_157 : SL RX8 157 yX8_unitsOf := ⟨tw_376, tw_374⟩
theorem lk_X8_234 : VL RX8 234 yX0_growBy := ⟨tw_377, tw_378, tw_379⟩
theorem lk_X8_237 : VL RX8 237 yX1_lengthAt := ⟨tw_381, tw_367, tw_368⟩
theorem lk_X8_240 : VL RX8 240 yX1_partAt := ⟨tw_382, tw_371, tw_372⟩
theorem lk_X8_207 : VL RX8 207 yX8_passComposing := ⟨tw_383, tw_384, tw_764⟩
theorem lk_X8_243 : VL RX8 243 yX2_slotOf := ⟨tw_386, tw_256, tw_257⟩
theorem lk_X8_245 : VL RX8 245 yX2_signAt := ⟨tw_387, tw_388, tw_389⟩
theorem lk_X8_246 : VL RX8 246 yX5_changeLast := ⟨tw_391, tw_392, tw_393⟩
theorem lk_X8_210 : VL RX8 210 yX8_passDigits := ⟨tw_395, tw_396, tw_765⟩
theorem lk_X8_173 : VL RX8 173 yX7_digitOf := ⟨tw_398, tw_399, tw_400⟩
theorem lk_X8_213 : VL RX8 213 yX8_passDropping := ⟨tw_402, tw_403, tw_766⟩
theorem lk_X8_250 : VL RX8 250 yX3_holds := ⟨tw_405, tw_406, tw_407⟩
theorem lk_X8_216 : VL RX8 216 yX8_passReplacing := ⟨tw_409, tw_410, tw_767⟩
theorem lk_X8_253 : VL RX8 253 yX6_longestAt := ⟨tw_412, tw_413, tw_414⟩
theorem lk_X8_257 : VL RX8 257 yX4_length := ⟨tw_416, tw_174, tw_175⟩
theorem lk_X8_262 : VL RX8 262 yX4_writeTo := ⟨tw_417, tw_418, tw_419⟩
theorem lk_X4_30 : VL RX4 30 yX5_add := ⟨tw_421, tw_152, tw_153⟩
theorem lk_X8_219 : VL RX8 219 yX8_passHalves := ⟨tw_422, tw_423, tw_768⟩
theorem lk_X8_222 : VL RX8 222 yX8_passWidths := ⟨tw_426, tw_427, tw_769⟩
theorem lk_X8_267 : SL RX8 267 yX8_narrowed := ⟨tw_429, tw_430⟩
theorem lk_X8_141 : VL RX8 141 yX8_settleFilters := ⟨tw_435, tw_436, tw_770⟩
theorem lk_X8_201 : VL RX8 201 yX0_settleRun := ⟨tw_438, tw_439, tw_440⟩
theorem lk_L_66 : VL RL 66 yX8_sign := ⟨tw_442, tw_443, tw_444⟩
theorem lk_X8_144 : VL RX8 144 yX5_has := ⟨tw_446, tw_188, tw_189⟩
theorem lk_L_70 : VL RL 70 yX8_place := ⟨tw_447, tw_448, tw_449⟩
theorem lk_L_75 : VL RL 75 yX8_unitAt := ⟨tw_451, tw_452, tw_453⟩
theorem lk_X8_160 : SL RX8 160 yX8_unitOf := ⟨tw_455, tw_456⟩
theorem lk_L_79 : VL RL 79 yX8_units := ⟨tw_458, tw_459, tw_460⟩
theorem lk_L_83 : VL RL 83 yX8_broken := ⟨tw_462, tw_463, tw_464⟩
theorem lk_X8_164 : SL RX8 164 yX8_classOf := ⟨tw_466, tw_467⟩
theorem lk_L_87 : VL RL 87 yX8_met := ⟨tw_469, tw_470, tw_471⟩
theorem lk_L_91 : VL RL 91 yX8_grown := ⟨tw_473, tw_474, tw_475⟩
theorem lk_L_95 : VL RL 95 yX8_table := ⟨tw_477, tw_478, tw_479⟩
theorem lk_L_99 : VL RL 99 yX8_digit := ⟨tw_481, tw_482, tw_483⟩
theorem lk_L_103 : VL RL 103 yX8_count := ⟨tw_485, tw_486, tw_487⟩
theorem lk_X8_176 : VL RX8 176 yX8_filtersInChain := ⟨tw_489, tw_490, tw_771⟩
theorem lk_L_12 : IL RL 12 yX9_init := ⟨tw_494, tw_495, rfl⟩
theorem lk_L_17 : VL RL 17 yX9_unit := ⟨tw_584, tw_585, tw_586⟩
theorem lk_L_22 : VL RL 22 yX9_mark := ⟨tw_589, tw_590, tw_591⟩
theorem lk_L_26 : VL RL 26 yX9_text := ⟨tw_593, tw_594, tw_595⟩
theorem lk_X9_138 : VL RX9 138 yX9_signAt := ⟨tw_597, tw_598, tw_772⟩
theorem lk_X9_130 : VL RX9 130 yX9_isTwo := ⟨tw_600, tw_601, tw_773⟩
theorem lk_X9_123 : SL RX9 123 yX9_isHigh := ⟨tw_603, tw_604⟩
theorem lk_X9_111 : SL RX9 111 yX9_isIn := ⟨tw_608, tw_609⟩
theorem lk_X9_127 : SL RX9 127 yX9_isLow := ⟨tw_611, tw_612⟩
theorem lk_X9_142 : VL RX9 142 yX9_emptyDraft := ⟨tw_617, tw_618, tw_774⟩
theorem lk_L_30 : VL RL 30 yX9_string := ⟨tw_620, tw_621, tw_622⟩
theorem lk_X9_145 : VL RX9 145 yX9_signsOf := ⟨tw_624, tw_625, tw_775⟩
theorem lk_X9_152 : VL RX9 152 yX9_isSameRow := ⟨tw_627, tw_628, tw_776⟩
theorem lk_L_35 : VL RL 35 yX9_fold := ⟨tw_630, tw_631, tw_632⟩
theorem lk_X9_158 : SL RX9 158 yX9_isSign := ⟨tw_634, tw_635⟩
theorem lk_X9_161 : SL RX9 161 yX9_isSignOrNone := ⟨tw_638, tw_639⟩
theorem lk_X9_164 : VL RX9 164 yX9_foldAt := ⟨tw_641, tw_642, tw_777⟩
theorem lk_L_40 : VL RL 40 yX9_pair := ⟨tw_644, tw_645, tw_646⟩
theorem lk_X9_171 : VL RX9 171 yX9_pairAt := ⟨tw_648, tw_649, tw_778⟩
theorem lk_L_44 : VL RL 44 yX9_zero := ⟨tw_651, tw_652, tw_653⟩
theorem lk_L_49 : VL RL 49 yX9_range := ⟨tw_656, tw_657, tw_658⟩
theorem lk_L_53 : VL RL 53 yX9_filter := ⟨tw_660, tw_661, tw_662⟩
theorem lk_X9_181 : SL RX9 181 yX9_isPlace := ⟨tw_664, tw_665⟩
theorem lk_L_57 : VL RL 57 yX9_drop := ⟨tw_667, tw_668, tw_669⟩
theorem lk_L_61 : VL RL 61 yX9_rule := ⟨tw_671, tw_672, tw_673⟩
theorem lk_L_65 : VL RL 65 yX9_run := ⟨tw_675, tw_676, tw_677⟩
theorem lk_X9_223 : VL RX9 223 yX9_goesThrough := ⟨tw_679, tw_680, tw_779⟩
theorem lk_X9_210 : VL RX9 210 yX9_folding := ⟨tw_682, tw_683, tw_780⟩
theorem lk_X9_187 : VL RX9 187 yX9_lay := ⟨tw_685, tw_686, tw_781⟩
theorem lk_X9_191 : SL RX9 191 yX9_unitsOf := ⟨tw_688, tw_689⟩
theorem lk_X9_214 : VL RX9 214 yX9_composing := ⟨tw_691, tw_692, tw_782⟩
theorem lk_X9_217 : VL RX9 217 yX9_replacing := ⟨tw_694, tw_695, tw_783⟩
theorem lk_X9_197 : VL RX9 197 yX9_stringAt := ⟨tw_697, tw_698, tw_784⟩
theorem lk_X9_220 : VL RX9 220 yX9_changed := ⟨tw_700, tw_701, tw_785⟩
theorem lk_X9_200 : VL RX9 200 yX9_digitOf := ⟨tw_703, tw_704, tw_786⟩
theorem lk_X9_203 : VL RX9 203 yX9_isDropped := ⟨tw_706, tw_707, tw_787⟩
theorem lk_L_69 : VL RL 69 yX9_sign := ⟨tw_713, tw_714, tw_715⟩
theorem lk_X9_229 : VL RX9 229 yX9_isOut := ⟨tw_717, tw_718, tw_788⟩
theorem lk_L_74 : VL RL 74 yX9_place := ⟨tw_720, tw_721, tw_722⟩
theorem lk_L_82 : VL RL 82 yX9_units := ⟨tw_724, tw_725, tw_726⟩
theorem lk_L_78 : VL RL 78 yX9_unitAt := ⟨tw_728, tw_729, tw_730⟩
theorem lk_L_86 : VL RL 86 yX9_broken := ⟨tw_732, tw_733, tw_734⟩
theorem lk_X9_232 : SL RX9 232 yX9_classOf := ⟨tw_736, tw_737⟩
theorem lk_L_90 : VL RL 90 yX9_met := ⟨tw_739, tw_740, tw_741⟩
theorem lk_L_94 : VL RL 94 yX9_grown := ⟨tw_743, tw_744, tw_745⟩
theorem lk_L_98 : VL RL 98 yX9_table := ⟨tw_747, tw_748, tw_749⟩
theorem lk_L_102 : VL RL 102 yX9_digit := ⟨tw_751, tw_752, tw_753⟩
theorem lk_L_106 : VL RL 106 yX9_count := ⟨tw_755, tw_756, tw_757⟩
theorem nl_X8_22 : NL RX8 22 yX1_init := List.mem_of_getElem? (i := 0) rfl
theorem nl_X8_29 : NL RX8 29 yX2_init := List.mem_of_getElem? (i := 1) rfl
theorem nl_X8_36 : NL RX8 36 yX7_init := List.mem_of_getElem? (i := 2) rfl
theorem nl_X8_43 : NL RX8 43 yX3_init := List.mem_of_getElem? (i := 3) rfl
theorem nl_X8_50 : NL RX8 50 yX6_init := List.mem_of_getElem? (i := 4) rfl
theorem nl_X8_63 : NL RX8 63 yX5_init := List.mem_of_getElem? (i := 5) rfl
theorem nl_X1_39 : NL RX1 39 yX8_unitsOf := List.mem_of_getElem? (i := 6) rfl
