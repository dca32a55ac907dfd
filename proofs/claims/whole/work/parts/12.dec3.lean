theorem dX9_init_0 : decode cX9_init 0 = .ok (.aload_n 0, 1) := by decide +kernel
theorem dX9_init_1 : decode cX9_init 1 = .ok (.invokespecial 1, 3) := by decide +kernel
theorem dX9_init_4 : decode cX9_init 4 = .ok (.aload_n 0, 1) := by decide +kernel
theorem dX9_init_5 : decode cX9_init 5 = .ok (.bipush 100, 2) := by decide +kernel
theorem dX9_init_7 : decode cX9_init 7 = .ok (.newarray .int, 2) := by decide +kernel
theorem dX9_init_9 : decode cX9_init 9 = .ok (.putfield 7, 3) := by decide +kernel
theorem dX9_init_12 : decode cX9_init 12 = .ok (.aload_n 0, 1) := by decide +kernel
theorem dX9_init_13 : decode cX9_init 13 = .ok (.bipush 100, 2) := by decide +kernel
theorem dX9_init_15 : decode cX9_init 15 = .ok (.newarray .int, 2) := by decide +kernel
theorem dX9_init_17 : decode cX9_init 17 = .ok (.putfield 13, 3) := by decide +kernel
theorem dX9_init_20 : decode cX9_init 20 = .ok (.aload_n 0, 1) := by decide +kernel
theorem dX9_init_21 : decode cX9_init 21 = .ok (.bipush 100, 2) := by decide +kernel
theorem dX9_init_23 : decode cX9_init 23 = .ok (.newarray .int, 2) := by decide +kernel
theorem dX9_init_25 : decode cX9_init 25 = .ok (.putfield 16, 3) := by decide +kernel
theorem dX9_init_28 : decode cX9_init 28 = .ok (.aload_n 0, 1) := by decide +kernel
theorem dX9_init_29 : decode cX9_init 29 = .ok (.bipush 100, 2) := by decide +kernel
theorem dX9_init_31 : decode cX9_init 31 = .ok (.newarray .int, 2) := by decide +kernel
theorem dX9_init_33 : decode cX9_init 33 = .ok (.putfield 19, 3) := by decide +kernel
theorem dX9_init_36 : decode cX9_init 36 = .ok (.aload_n 0, 1) := by decide +kernel
theorem dX9_init_37 : decode cX9_init 37 = .ok (.bipush 40, 2) := by decide +kernel
theorem dX9_init_39 : decode cX9_init 39 = .ok (.newarray .int, 2) := by decide +kernel
theorem dX9_init_41 : decode cX9_init 41 = .ok (.putfield 22, 3) := by decide +kernel
theorem dX9_init_44 : decode cX9_init 44 = .ok (.aload_n 0, 1) := by decide +kernel
theorem dX9_init_45 : decode cX9_init 45 = .ok (.bipush 40, 2) := by decide +kernel
theorem dX9_init_47 : decode cX9_init 47 = .ok (.newarray .int, 2) := by decide +kernel
theorem dX9_init_49 : decode cX9_init 49 = .ok (.putfield 25, 3) := by decide +kernel
theorem dX9_init_52 : decode cX9_init 52 = .ok (.aload_n 0, 1) := by decide +kernel
theorem dX9_init_53 : decode cX9_init 53 = .ok (.bipush 120, 2) := by decide +kernel
theorem dX9_init_55 : decode cX9_init 55 = .ok (.newarray .int, 2) := by decide +kernel
theorem dX9_init_57 : decode cX9_init 57 = .ok (.putfield 28, 3) := by decide +kernel
theorem dX9_init_60 : decode cX9_init 60 = .ok (.aload_n 0, 1) := by decide +kernel
theorem dX9_init_61 : decode cX9_init 61 = .ok (.bipush 20, 2) := by decide +kernel
theorem dX9_init_63 : decode cX9_init 63 = .ok (.newarray .int, 2) := by decide +kernel
theorem dX9_init_65 : decode cX9_init 65 = .ok (.putfield 31, 3) := by decide +kernel
theorem dX9_init_68 : decode cX9_init 68 = .ok (.aload_n 0, 1) := by decide +kernel
theorem dX9_init_69 : decode cX9_init 69 = .ok (.bipush 20, 2) := by decide +kernel
theorem dX9_init_71 : decode cX9_init 71 = .ok (.newarray .int, 2) := by decide +kernel
theorem dX9_init_73 : decode cX9_init 73 = .ok (.putfield 34, 3) := by decide +kernel
theorem dX9_init_76 : decode cX9_init 76 = .ok (.aload_n 0, 1) := by decide +kernel
theorem dX9_init_77 : decode cX9_init 77 = .ok (.bipush 20, 2) := by decide +kernel
theorem dX9_init_79 : decode cX9_init 79 = .ok (.newarray .int, 2) := by decide +kernel
theorem dX9_init_81 : decode cX9_init 81 = .ok (.putfield 37, 3) := by decide +kernel
theorem dX9_init_84 : decode cX9_init 84 = .ok (.aload_n 0, 1) := by decide +kernel
theorem dX9_init_85 : decode cX9_init 85 = .ok (.bipush 10, 2) := by decide +kernel
theorem dX9_init_87 : decode cX9_init 87 = .ok (.newarray .int, 2) := by decide +kernel
theorem dX9_init_89 : decode cX9_init 89 = .ok (.putfield 40, 3) := by decide +kernel
theorem dX9_init_92 : decode cX9_init 92 = .ok (.aload_n 0, 1) := by decide +kernel
theorem dX9_init_93 : decode cX9_init 93 = .ok (.bipush 8, 2) := by decide +kernel
theorem dX9_init_95 : decode cX9_init 95 = .ok (.newarray .int, 2) := by decide +kernel
theorem dX9_init_97 : decode cX9_init 97 = .ok (.putfield 43, 3) := by decide +kernel
theorem dX9_init_100 : decode cX9_init 100 = .ok (.aload_n 0, 1) := by decide +kernel
theorem dX9_init_101 : decode cX9_init 101 = .ok (.bipush 8, 2) := by decide +kernel
theorem dX9_init_103 : decode cX9_init 103 = .ok (.newarray .int, 2) := by decide +kernel
theorem dX9_init_105 : decode cX9_init 105 = .ok (.putfield 46, 3) := by decide +kernel
theorem dX9_init_108 : decode cX9_init 108 = .ok (.aload_n 0, 1) := by decide +kernel
theorem dX9_init_109 : decode cX9_init 109 = .ok (.bipush 21, 2) := by decide +kernel
theorem dX9_init_111 : decode cX9_init 111 = .ok (.newarray .int, 2) := by decide +kernel
theorem dX9_init_113 : decode cX9_init 113 = .ok (.putfield 49, 3) := by decide +kernel
theorem dX9_init_116 : decode cX9_init 116 = .ok (.aload_n 0, 1) := by decide +kernel
theorem dX9_init_117 : decode cX9_init 117 = .ok (.bipush 21, 2) := by decide +kernel
theorem dX9_init_119 : decode cX9_init 119 = .ok (.newarray .int, 2) := by decide +kernel
theorem dX9_init_121 : decode cX9_init 121 = .ok (.putfield 52, 3) := by decide +kernel
theorem dX9_init_124 : decode cX9_init 124 = .ok (.aload_n 0, 1) := by decide +kernel
theorem dX9_init_125 : decode cX9_init 125 = .ok (.sipush 2100, 3) := by decide +kernel
theorem dX9_init_128 : decode cX9_init 128 = .ok (.newarray .int, 2) := by decide +kernel
theorem dX9_init_130 : decode cX9_init 130 = .ok (.putfield 55, 3) := by decide +kernel
theorem dX9_init_133 : decode cX9_init 133 = .ok (.aload_n 0, 1) := by decide +kernel
theorem dX9_init_134 : decode cX9_init 134 = .ok (.sipush 2100, 3) := by decide +kernel
theorem dX9_init_137 : decode cX9_init 137 = .ok (.newarray .int, 2) := by decide +kernel
theorem dX9_init_139 : decode cX9_init 139 = .ok (.putfield 58, 3) := by decide +kernel
theorem dX9_init_142 : decode cX9_init 142 = .ok (.aload_n 0, 1) := by decide +kernel
theorem dX9_init_143 : decode cX9_init 143 = .ok (.bipush 8, 2) := by decide +kernel
theorem dX9_init_145 : decode cX9_init 145 = .ok (.newarray .int, 2) := by decide +kernel
theorem dX9_init_147 : decode cX9_init 147 = .ok (.putfield 61, 3) := by decide +kernel
theorem dX9_init_150 : decode cX9_init 150 = .ok (.aload_n 0, 1) := by decide +kernel
theorem dX9_init_151 : decode cX9_init 151 = .ok (.bipush 8, 2) := by decide +kernel
theorem dX9_init_153 : decode cX9_init 153 = .ok (.newarray .int, 2) := by decide +kernel
theorem dX9_init_155 : decode cX9_init 155 = .ok (.putfield 64, 3) := by decide +kernel
theorem dX9_init_158 : decode cX9_init 158 = .ok (.aload_n 0, 1) := by decide +kernel
theorem dX9_init_159 : decode cX9_init 159 = .ok (.bipush 8, 2) := by decide +kernel
theorem dX9_init_161 : decode cX9_init 161 = .ok (.newarray .int, 2) := by decide +kernel
theorem dX9_init_163 : decode cX9_init 163 = .ok (.putfield 67, 3) := by decide +kernel
theorem dX9_init_166 : decode cX9_init 166 = .ok (.aload_n 0, 1) := by decide +kernel
theorem dX9_init_167 : decode cX9_init 167 = .ok (.bipush 8, 2) := by decide +kernel
theorem dX9_init_169 : decode cX9_init 169 = .ok (.newarray .int, 2) := by decide +kernel
theorem dX9_init_171 : decode cX9_init 171 = .ok (.putfield 70, 3) := by decide +kernel
theorem dX9_init_174 : decode cX9_init 174 = .ok (.aload_n 0, 1) := by decide +kernel
theorem dX9_init_175 : decode cX9_init 175 = .ok (.bipush 8, 2) := by decide +kernel
theorem dX9_init_177 : decode cX9_init 177 = .ok (.newarray .int, 2) := by decide +kernel
theorem dX9_init_179 : decode cX9_init 179 = .ok (.putfield 73, 3) := by decide +kernel
theorem dX9_init_182 : decode cX9_init 182 = .ok (.aload_n 0, 1) := by decide +kernel
theorem dX9_init_183 : decode cX9_init 183 = .ok (.bipush 8, 2) := by decide +kernel
theorem dX9_init_185 : decode cX9_init 185 = .ok (.newarray .int, 2) := by decide +kernel
theorem dX9_init_187 : decode cX9_init 187 = .ok (.putfield 76, 3) := by decide +kernel
theorem dX9_init_190 : decode cX9_init 190 = .ok (.aload_n 0, 1) := by decide +kernel
theorem dX9_init_191 : decode cX9_init 191 = .ok (.sipush 300, 3) := by decide +kernel
theorem dX9_init_194 : decode cX9_init 194 = .ok (.newarray .int, 2) := by decide +kernel
theorem dX9_init_196 : decode cX9_init 196 = .ok (.putfield 79, 3) := by decide +kernel
theorem dX9_init_199 : decode cX9_init 199 = .ok (.aload_n 0, 1) := by decide +kernel
theorem dX9_init_200 : decode cX9_init 200 = .ok (.sipush 300, 3) := by decide +kernel
theorem dX9_init_203 : decode cX9_init 203 = .ok (.newarray .int, 2) := by decide +kernel
theorem dX9_init_205 : decode cX9_init 205 = .ok (.putfield 82, 3) := by decide +kernel
theorem dX9_init_208 : decode cX9_init 208 = .ok (.aload_n 0, 1) := by decide +kernel
theorem dX9_init_209 : decode cX9_init 209 = .ok (.sipush 300, 3) := by decide +kernel
theorem dX9_init_212 : decode cX9_init 212 = .ok (.newarray .int, 2) := by decide +kernel
theorem dX9_init_214 : decode cX9_init 214 = .ok (.putfield 85, 3) := by decide +kernel
theorem dX9_init_217 : decode cX9_init 217 = .ok (.aload_n 0, 1) := by decide +kernel
theorem dX9_init_218 : decode cX9_init 218 = .ok (.sipush 300, 3) := by decide +kernel
theorem dX9_init_221 : decode cX9_init 221 = .ok (.newarray .int, 2) := by decide +kernel
theorem dX9_init_223 : decode cX9_init 223 = .ok (.putfield 88, 3) := by decide +kernel
theorem dX9_init_226 : decode cX9_init 226 = .ok (.aload_n 0, 1) := by decide +kernel
theorem dX9_init_227 : decode cX9_init 227 = .ok (.sipush 300, 3) := by decide +kernel
theorem dX9_init_230 : decode cX9_init 230 = .ok (.newarray .int, 2) := by decide +kernel
theorem dX9_init_232 : decode cX9_init 232 = .ok (.putfield 91, 3) := by decide +kernel
theorem dX9_init_235 : decode cX9_init 235 = .ok (.aload_n 0, 1) := by decide +kernel
theorem dX9_init_236 : decode cX9_init 236 = .ok (.sipush 300, 3) := by decide +kernel
theorem dX9_init_239 : decode cX9_init 239 = .ok (.newarray .int, 2) := by decide +kernel
theorem dX9_init_241 : decode cX9_init 241 = .ok (.putfield 94, 3) := by decide +kernel
theorem dX9_init_244 : decode cX9_init 244 = .ok (.aload_n 0, 1) := by decide +kernel
theorem dX9_init_245 : decode cX9_init 245 = .ok (.sipush 300, 3) := by decide +kernel
theorem dX9_init_248 : decode cX9_init 248 = .ok (.newarray .int, 2) := by decide +kernel
theorem dX9_init_250 : decode cX9_init 250 = .ok (.putfield 97, 3) := by decide +kernel
theorem dX9_init_253 : decode cX9_init 253 = .ok (.aload_n 0, 1) := by decide +kernel
theorem dX9_init_254 : decode cX9_init 254 = .ok (.sipush 300, 3) := by decide +kernel
theorem dX9_init_257 : decode cX9_init 257 = .ok (.newarray .int, 2) := by decide +kernel
theorem dX9_init_259 : decode cX9_init 259 = .ok (.putfield 100, 3) := by decide +kernel
theorem dX9_init_262 : decode cX9_init 262 = .ok (.aload_n 0, 1) := by decide +kernel
theorem dX9_init_263 : decode cX9_init 263 = .ok (.sipush 300, 3) := by decide +kernel
theorem dX9_init_266 : decode cX9_init 266 = .ok (.newarray .int, 2) := by decide +kernel
theorem dX9_init_268 : decode cX9_init 268 = .ok (.putfield 103, 3) := by decide +kernel
theorem dX9_init_271 : decode cX9_init 271 = .ok (.aload_n 0, 1) := by decide +kernel
theorem dX9_init_272 : decode cX9_init 272 = .ok (.iconst 0, 1) := by decide +kernel
theorem dX9_init_273 : decode cX9_init 273 = .ok (.putfield 106, 3) := by decide +kernel
theorem dX9_init_276 : decode cX9_init 276 = .ok (.return_, 1) := by decide +kernel
theorem dX9_isIn_0 : decode cX9_isIn 0 = .ok (.iload_n 0, 1) := by decide +kernel
theorem dX9_isIn_1 : decode cX9_isIn 1 = .ok (.iload_n 1, 1) := by decide +kernel
theorem dX9_isIn_2 : decode cX9_isIn 2 = .ok (.if_icmp .lt 12, 3) := by decide +kernel
theorem dX9_isIn_5 : decode cX9_isIn 5 = .ok (.iload_n 0, 1) := by decide +kernel
theorem dX9_isIn_6 : decode cX9_isIn 6 = .ok (.iload_n 2, 1) := by decide +kernel
theorem dX9_isIn_7 : decode cX9_isIn 7 = .ok (.if_icmp .gt 7, 3) := by decide +kernel
theorem dX9_isIn_10 : decode cX9_isIn 10 = .ok (.iconst 1, 1) := by decide +kernel
theorem dX9_isIn_11 : decode cX9_isIn 11 = .ok (.goto 4, 3) := by decide +kernel
theorem dX9_isIn_14 : decode cX9_isIn 14 = .ok (.iconst 0, 1) := by decide +kernel
theorem dX9_isIn_15 : decode cX9_isIn 15 = .ok (.ireturn, 1) := by decide +kernel
theorem dX9_isSign_0 : decode cX9_isSign 0 = .ok (.iload_n 0, 1) := by decide +kernel
theorem dX9_isSign_1 : decode cX9_isSign 1 = .ok (.iconst 0, 1) := by decide +kernel
theorem dX9_isSign_2 : decode cX9_isSign 2 = .ok (.ldc 110, 2) := by decide +kernel
theorem dX9_isSign_4 : decode cX9_isSign 4 = .ok (.invokestatic 111, 3) := by decide +kernel
theorem dX9_isSign_7 : decode cX9_isSign 7 = .ok (.ireturn, 1) := by decide +kernel
theorem dX9_isHigh_0 : decode cX9_isHigh 0 = .ok (.iload_n 0, 1) := by decide +kernel
theorem dX9_isHigh_1 : decode cX9_isHigh 1 = .ok (.ldc 115, 2) := by decide +kernel
theorem dX9_isHigh_3 : decode cX9_isHigh 3 = .ok (.ldc 116, 2) := by decide +kernel
theorem dX9_isHigh_5 : decode cX9_isHigh 5 = .ok (.invokestatic 111, 3) := by decide +kernel
theorem dX9_isHigh_8 : decode cX9_isHigh 8 = .ok (.ireturn, 1) := by decide +kernel
theorem dX9_isLow_0 : decode cX9_isLow 0 = .ok (.iload_n 0, 1) := by decide +kernel
theorem dX9_isLow_1 : decode cX9_isLow 1 = .ok (.ldc 117, 2) := by decide +kernel
theorem dX9_isLow_3 : decode cX9_isLow 3 = .ok (.ldc 118, 2) := by decide +kernel
theorem dX9_isLow_5 : decode cX9_isLow 5 = .ok (.invokestatic 111, 3) := by decide +kernel
theorem dX9_isLow_8 : decode cX9_isLow 8 = .ok (.ireturn, 1) := by decide +kernel
theorem dX9_unit_0 : decode cX9_unit 0 = .ok (.aload_n 0, 1) := by decide +kernel
theorem dX9_unit_1 : decode cX9_unit 1 = .ok (.getfield 106, 3) := by decide +kernel
theorem dX9_unit_4 : decode cX9_unit 4 = .ok (.bipush 100, 2) := by decide +kernel
theorem dX9_unit_6 : decode cX9_unit 6 = .ok (.if_icmp .ne 6, 3) := by decide +kernel
theorem dX9_unit_9 : decode cX9_unit 9 = .ok (.bipush (-2), 2) := by decide +kernel
theorem dX9_unit_11 : decode cX9_unit 11 = .ok (.ireturn, 1) := by decide +kernel
theorem dX9_unit_12 : decode cX9_unit 12 = .ok (.aload_n 0, 1) := by decide +kernel
theorem dX9_unit_13 : decode cX9_unit 13 = .ok (.getfield 7, 3) := by decide +kernel
theorem dX9_unit_16 : decode cX9_unit 16 = .ok (.aload_n 0, 1) := by decide +kernel
theorem dX9_unit_17 : decode cX9_unit 17 = .ok (.getfield 106, 3) := by decide +kernel
theorem dX9_unit_20 : decode cX9_unit 20 = .ok (.iload_n 1, 1) := by decide +kernel
theorem dX9_unit_21 : decode cX9_unit 21 = .ok (.ldc 119, 2) := by decide +kernel
theorem dX9_unit_23 : decode cX9_unit 23 = .ok (.iand, 1) := by decide +kernel
theorem dX9_unit_24 : decode cX9_unit 24 = .ok (.iastore, 1) := by decide +kernel
theorem dX9_unit_25 : decode cX9_unit 25 = .ok (.aload_n 0, 1) := by decide +kernel
theorem dX9_unit_26 : decode cX9_unit 26 = .ok (.dup, 1) := by decide +kernel
theorem dX9_unit_27 : decode cX9_unit 27 = .ok (.getfield 106, 3) := by decide +kernel
theorem dX9_unit_30 : decode cX9_unit 30 = .ok (.iconst 1, 1) := by decide +kernel
theorem dX9_unit_31 : decode cX9_unit 31 = .ok (.iadd, 1) := by decide +kernel
theorem dX9_unit_32 : decode cX9_unit 32 = .ok (.putfield 106, 3) := by decide +kernel
theorem dX9_unit_35 : decode cX9_unit 35 = .ok (.aload_n 0, 1) := by decide +kernel
theorem dX9_unit_36 : decode cX9_unit 36 = .ok (.getfield 106, 3) := by decide +kernel
theorem dX9_unit_39 : decode cX9_unit 39 = .ok (.ireturn, 1) := by decide +kernel
theorem dX9_mark_0 : decode cX9_mark 0 = .ok (.aload_n 0, 1) := by decide +kernel
theorem dX9_mark_1 : decode cX9_mark 1 = .ok (.aload_n 0, 1) := by decide +kernel
theorem dX9_mark_2 : decode cX9_mark 2 = .ok (.getfield 106, 3) := by decide +kernel
theorem dX9_mark_5 : decode cX9_mark 5 = .ok (.putfield 120, 3) := by decide +kernel
theorem dX9_mark_8 : decode cX9_mark 8 = .ok (.aload_n 0, 1) := by decide +kernel
theorem dX9_mark_9 : decode cX9_mark 9 = .ok (.getfield 120, 3) := by decide +kernel
theorem dX9_mark_12 : decode cX9_mark 12 = .ok (.ireturn, 1) := by decide +kernel
theorem dX9_isTwo_0 : decode cX9_isTwo 0 = .ok (.iload_n 1, 1) := by decide +kernel
theorem dX9_isTwo_1 : decode cX9_isTwo 1 = .ok (.iconst 1, 1) := by decide +kernel
theorem dX9_isTwo_2 : decode cX9_isTwo 2 = .ok (.iadd, 1) := by decide +kernel
theorem dX9_isTwo_3 : decode cX9_isTwo 3 = .ok (.iload_n 2, 1) := by decide +kernel
theorem dX9_isTwo_4 : decode cX9_isTwo 4 = .ok (.if_icmp .ge 33, 3) := by decide +kernel
theorem dX9_isTwo_7 : decode cX9_isTwo 7 = .ok (.aload_n 0, 1) := by decide +kernel
theorem dX9_isTwo_8 : decode cX9_isTwo 8 = .ok (.getfield 7, 3) := by decide +kernel
theorem dX9_isTwo_11 : decode cX9_isTwo 11 = .ok (.iload_n 1, 1) := by decide +kernel
theorem dX9_isTwo_12 : decode cX9_isTwo 12 = .ok (.iaload, 1) := by decide +kernel
theorem dX9_isTwo_13 : decode cX9_isTwo 13 = .ok (.invokestatic 123, 3) := by decide +kernel
theorem dX9_isTwo_16 : decode cX9_isTwo 16 = .ok (.ifCond .eq 21, 3) := by decide +kernel
theorem dX9_isTwo_19 : decode cX9_isTwo 19 = .ok (.aload_n 0, 1) := by decide +kernel
theorem dX9_isTwo_20 : decode cX9_isTwo 20 = .ok (.getfield 7, 3) := by decide +kernel
theorem dX9_isTwo_23 : decode cX9_isTwo 23 = .ok (.iload_n 1, 1) := by decide +kernel
theorem dX9_isTwo_24 : decode cX9_isTwo 24 = .ok (.iconst 1, 1) := by decide +kernel
theorem dX9_isTwo_25 : decode cX9_isTwo 25 = .ok (.iadd, 1) := by decide +kernel
theorem dX9_isTwo_26 : decode cX9_isTwo 26 = .ok (.iaload, 1) := by decide +kernel
theorem dX9_isTwo_27 : decode cX9_isTwo 27 = .ok (.invokestatic 127, 3) := by decide +kernel
theorem dX9_isTwo_30 : decode cX9_isTwo 30 = .ok (.ifCond .eq 7, 3) := by decide +kernel
theorem dX9_isTwo_33 : decode cX9_isTwo 33 = .ok (.iconst 1, 1) := by decide +kernel
theorem dX9_isTwo_34 : decode cX9_isTwo 34 = .ok (.goto 4, 3) := by decide +kernel
theorem dX9_isTwo_37 : decode cX9_isTwo 37 = .ok (.iconst 0, 1) := by decide +kernel
theorem dX9_isTwo_38 : decode cX9_isTwo 38 = .ok (.ireturn, 1) := by decide +kernel
theorem dX9_signAt_0 : decode cX9_signAt 0 = .ok (.aload_n 0, 1) := by decide +kernel
theorem dX9_signAt_1 : decode cX9_signAt 1 = .ok (.iload_n 1, 1) := by decide +kernel
theorem dX9_signAt_2 : decode cX9_signAt 2 = .ok (.iload_n 2, 1) := by decide +kernel
theorem dX9_signAt_3 : decode cX9_signAt 3 = .ok (.invokevirtual 130, 3) := by decide +kernel
theorem dX9_signAt_6 : decode cX9_signAt 6 = .ok (.ifCond .eq 34, 3) := by decide +kernel
theorem dX9_signAt_9 : decode cX9_signAt 9 = .ok (.ldc 134, 2) := by decide +kernel
theorem dX9_signAt_11 : decode cX9_signAt 11 = .ok (.sipush 1024, 3) := by decide +kernel
theorem dX9_signAt_14 : decode cX9_signAt 14 = .ok (.aload_n 0, 1) := by decide +kernel
theorem dX9_signAt_15 : decode cX9_signAt 15 = .ok (.getfield 7, 3) := by decide +kernel
theorem dX9_signAt_18 : decode cX9_signAt 18 = .ok (.iload_n 1, 1) := by decide +kernel
theorem dX9_signAt_19 : decode cX9_signAt 19 = .ok (.iaload, 1) := by decide +kernel
theorem dX9_signAt_20 : decode cX9_signAt 20 = .ok (.ldc 115, 2) := by decide +kernel
theorem dX9_signAt_22 : decode cX9_signAt 22 = .ok (.isub, 1) := by decide +kernel
theorem dX9_signAt_23 : decode cX9_signAt 23 = .ok (.imul, 1) := by decide +kernel
theorem dX9_signAt_24 : decode cX9_signAt 24 = .ok (.iadd, 1) := by decide +kernel
theorem dX9_signAt_25 : decode cX9_signAt 25 = .ok (.aload_n 0, 1) := by decide +kernel
theorem dX9_signAt_26 : decode cX9_signAt 26 = .ok (.getfield 7, 3) := by decide +kernel
theorem dX9_signAt_29 : decode cX9_signAt 29 = .ok (.iload_n 1, 1) := by decide +kernel
theorem dX9_signAt_30 : decode cX9_signAt 30 = .ok (.iconst 1, 1) := by decide +kernel
theorem dX9_signAt_31 : decode cX9_signAt 31 = .ok (.iadd, 1) := by decide +kernel
theorem dX9_signAt_32 : decode cX9_signAt 32 = .ok (.iaload, 1) := by decide +kernel
theorem dX9_signAt_33 : decode cX9_signAt 33 = .ok (.iadd, 1) := by decide +kernel
theorem dX9_signAt_34 : decode cX9_signAt 34 = .ok (.ldc 117, 2) := by decide +kernel
theorem dX9_signAt_36 : decode cX9_signAt 36 = .ok (.isub, 1) := by decide +kernel
theorem dX9_signAt_37 : decode cX9_signAt 37 = .ok (.goto 9, 3) := by decide +kernel
theorem dX9_signAt_40 : decode cX9_signAt 40 = .ok (.aload_n 0, 1) := by decide +kernel
theorem dX9_signAt_41 : decode cX9_signAt 41 = .ok (.getfield 7, 3) := by decide +kernel
theorem dX9_signAt_44 : decode cX9_signAt 44 = .ok (.iload_n 1, 1) := by decide +kernel
theorem dX9_signAt_45 : decode cX9_signAt 45 = .ok (.iaload, 1) := by decide +kernel
theorem dX9_signAt_46 : decode cX9_signAt 46 = .ok (.ireturn, 1) := by decide +kernel
theorem dX9_emptyDraft_0 : decode cX9_emptyDraft 0 = .ok (.aload_n 0, 1) := by decide +kernel
theorem dX9_emptyDraft_1 : decode cX9_emptyDraft 1 = .ok (.iconst 0, 1) := by decide +kernel
theorem dX9_emptyDraft_2 : decode cX9_emptyDraft 2 = .ok (.putfield 106, 3) := by decide +kernel
theorem dX9_emptyDraft_5 : decode cX9_emptyDraft 5 = .ok (.aload_n 0, 1) := by decide +kernel
theorem dX9_emptyDraft_6 : decode cX9_emptyDraft 6 = .ok (.iconst 0, 1) := by decide +kernel
theorem dX9_emptyDraft_7 : decode cX9_emptyDraft 7 = .ok (.putfield 120, 3) := by decide +kernel
theorem dX9_emptyDraft_10 : decode cX9_emptyDraft 10 = .ok (.return_, 1) := by decide +kernel
theorem dX9_text_0 : decode cX9_text 0 = .ok (.aload_n 0, 1) := by decide +kernel
theorem dX9_text_1 : decode cX9_text 1 = .ok (.iconst 0, 1) := by decide +kernel
theorem dX9_text_2 : decode cX9_text 2 = .ok (.putfield 135, 3) := by decide +kernel
theorem dX9_text_5 : decode cX9_text 5 = .ok (.iconst 0, 1) := by decide +kernel
theorem dX9_text_6 : decode cX9_text 6 = .ok (.istore_n 1, 1) := by decide +kernel
theorem dX9_text_7 : decode cX9_text 7 = .ok (.iload_n 1, 1) := by decide +kernel
theorem dX9_text_8 : decode cX9_text 8 = .ok (.aload_n 0, 1) := by decide +kernel
theorem dX9_text_9 : decode cX9_text 9 = .ok (.getfield 106, 3) := by decide +kernel
theorem dX9_text_12 : decode cX9_text 12 = .ok (.if_icmp .ge 74, 3) := by decide +kernel
theorem dX9_text_15 : decode cX9_text 15 = .ok (.aload_n 0, 1) := by decide +kernel
theorem dX9_text_16 : decode cX9_text 16 = .ok (.getfield 13, 3) := by decide +kernel
theorem dX9_text_19 : decode cX9_text 19 = .ok (.aload_n 0, 1) := by decide +kernel
theorem dX9_text_20 : decode cX9_text 20 = .ok (.getfield 135, 3) := by decide +kernel
theorem dX9_text_23 : decode cX9_text 23 = .ok (.aload_n 0, 1) := by decide +kernel
theorem dX9_text_24 : decode cX9_text 24 = .ok (.iload_n 1, 1) := by decide +kernel
theorem dX9_text_25 : decode cX9_text 25 = .ok (.aload_n 0, 1) := by decide +kernel
theorem dX9_text_26 : decode cX9_text 26 = .ok (.getfield 106, 3) := by decide +kernel
theorem dX9_text_29 : decode cX9_text 29 = .ok (.invokevirtual 138, 3) := by decide +kernel
theorem dX9_text_32 : decode cX9_text 32 = .ok (.iastore, 1) := by decide +kernel
theorem dX9_text_33 : decode cX9_text 33 = .ok (.aload_n 0, 1) := by decide +kernel
theorem dX9_text_34 : decode cX9_text 34 = .ok (.getfield 16, 3) := by decide +kernel
theorem dX9_text_37 : decode cX9_text 37 = .ok (.aload_n 0, 1) := by decide +kernel
theorem dX9_text_38 : decode cX9_text 38 = .ok (.getfield 135, 3) := by decide +kernel
theorem dX9_text_41 : decode cX9_text 41 = .ok (.iload_n 1, 1) := by decide +kernel
theorem dX9_text_42 : decode cX9_text 42 = .ok (.iastore, 1) := by decide +kernel
theorem dX9_text_43 : decode cX9_text 43 = .ok (.iload_n 1, 1) := by decide +kernel
theorem dX9_text_44 : decode cX9_text 44 = .ok (.aload_n 0, 1) := by decide +kernel
theorem dX9_text_45 : decode cX9_text 45 = .ok (.iload_n 1, 1) := by decide +kernel
theorem dX9_text_46 : decode cX9_text 46 = .ok (.aload_n 0, 1) := by decide +kernel
theorem dX9_text_47 : decode cX9_text 47 = .ok (.getfield 106, 3) := by decide +kernel
theorem dX9_text_50 : decode cX9_text 50 = .ok (.invokevirtual 130, 3) := by decide +kernel
theorem dX9_text_53 : decode cX9_text 53 = .ok (.ifCond .eq 7, 3) := by decide +kernel
theorem dX9_text_56 : decode cX9_text 56 = .ok (.iconst 2, 1) := by decide +kernel
theorem dX9_text_57 : decode cX9_text 57 = .ok (.goto 4, 3) := by decide +kernel
theorem dX9_text_60 : decode cX9_text 60 = .ok (.iconst 1, 1) := by decide +kernel
theorem dX9_text_61 : decode cX9_text 61 = .ok (.iadd, 1) := by decide +kernel
theorem dX9_text_62 : decode cX9_text 62 = .ok (.istore_n 1, 1) := by decide +kernel
theorem dX9_text_63 : decode cX9_text 63 = .ok (.aload_n 0, 1) := by decide +kernel
theorem dX9_text_64 : decode cX9_text 64 = .ok (.getfield 19, 3) := by decide +kernel
theorem dX9_text_67 : decode cX9_text 67 = .ok (.aload_n 0, 1) := by decide +kernel
theorem dX9_text_68 : decode cX9_text 68 = .ok (.getfield 135, 3) := by decide +kernel
theorem dX9_text_71 : decode cX9_text 71 = .ok (.iload_n 1, 1) := by decide +kernel
theorem dX9_text_72 : decode cX9_text 72 = .ok (.iastore, 1) := by decide +kernel
theorem dX9_text_73 : decode cX9_text 73 = .ok (.aload_n 0, 1) := by decide +kernel
theorem dX9_text_74 : decode cX9_text 74 = .ok (.dup, 1) := by decide +kernel
theorem dX9_text_75 : decode cX9_text 75 = .ok (.getfield 135, 3) := by decide +kernel
theorem dX9_text_78 : decode cX9_text 78 = .ok (.iconst 1, 1) := by decide +kernel
theorem dX9_text_79 : decode cX9_text 79 = .ok (.iadd, 1) := by decide +kernel
theorem dX9_text_80 : decode cX9_text 80 = .ok (.putfield 135, 3) := by decide +kernel
theorem dX9_text_83 : decode cX9_text 83 = .ok (.goto (-76), 3) := by decide +kernel
theorem dX9_text_86 : decode cX9_text 86 = .ok (.aload_n 0, 1) := by decide +kernel
theorem dX9_text_87 : decode cX9_text 87 = .ok (.invokevirtual 142, 3) := by decide +kernel
theorem dX9_text_90 : decode cX9_text 90 = .ok (.aload_n 0, 1) := by decide +kernel
theorem dX9_text_91 : decode cX9_text 91 = .ok (.getfield 135, 3) := by decide +kernel
theorem dX9_text_94 : decode cX9_text 94 = .ok (.ireturn, 1) := by decide +kernel
theorem dX9_signsOf_0 : decode cX9_signsOf 0 = .ok (.iconst 0, 1) := by decide +kernel
theorem dX9_signsOf_1 : decode cX9_signsOf 1 = .ok (.istore 5, 2) := by decide +kernel
theorem dX9_signsOf_3 : decode cX9_signsOf 3 = .ok (.iload_n 1, 1) := by decide +kernel
theorem dX9_signsOf_4 : decode cX9_signsOf 4 = .ok (.istore 6, 2) := by decide +kernel
theorem dX9_signsOf_6 : decode cX9_signsOf 6 = .ok (.iload 6, 2) := by decide +kernel
theorem dX9_signsOf_8 : decode cX9_signsOf 8 = .ok (.iload_n 2, 1) := by decide +kernel
theorem dX9_signsOf_9 : decode cX9_signsOf 9 = .ok (.if_icmp .ge 43, 3) := by decide +kernel
theorem dX9_signsOf_12 : decode cX9_signsOf 12 = .ok (.aload_n 3, 1) := by decide +kernel
theorem dX9_signsOf_13 : decode cX9_signsOf 13 = .ok (.iload 4, 2) := by decide +kernel
theorem dX9_signsOf_15 : decode cX9_signsOf 15 = .ok (.iload 5, 2) := by decide +kernel
theorem dX9_signsOf_17 : decode cX9_signsOf 17 = .ok (.iadd, 1) := by decide +kernel
theorem dX9_signsOf_18 : decode cX9_signsOf 18 = .ok (.aload_n 0, 1) := by decide +kernel
theorem dX9_signsOf_19 : decode cX9_signsOf 19 = .ok (.iload 6, 2) := by decide +kernel
theorem dX9_signsOf_21 : decode cX9_signsOf 21 = .ok (.iload_n 2, 1) := by decide +kernel
theorem dX9_signsOf_22 : decode cX9_signsOf 22 = .ok (.invokevirtual 138, 3) := by decide +kernel
theorem dX9_signsOf_25 : decode cX9_signsOf 25 = .ok (.iastore, 1) := by decide +kernel
theorem dX9_signsOf_26 : decode cX9_signsOf 26 = .ok (.iload 6, 2) := by decide +kernel
theorem dX9_signsOf_28 : decode cX9_signsOf 28 = .ok (.aload_n 0, 1) := by decide +kernel
theorem dX9_signsOf_29 : decode cX9_signsOf 29 = .ok (.iload 6, 2) := by decide +kernel
theorem dX9_signsOf_31 : decode cX9_signsOf 31 = .ok (.iload_n 2, 1) := by decide +kernel
theorem dX9_signsOf_32 : decode cX9_signsOf 32 = .ok (.invokevirtual 130, 3) := by decide +kernel
theorem dX9_signsOf_35 : decode cX9_signsOf 35 = .ok (.ifCond .eq 7, 3) := by decide +kernel
theorem dX9_signsOf_38 : decode cX9_signsOf 38 = .ok (.iconst 2, 1) := by decide +kernel
theorem dX9_signsOf_39 : decode cX9_signsOf 39 = .ok (.goto 4, 3) := by decide +kernel
theorem dX9_signsOf_42 : decode cX9_signsOf 42 = .ok (.iconst 1, 1) := by decide +kernel
theorem dX9_signsOf_43 : decode cX9_signsOf 43 = .ok (.iadd, 1) := by decide +kernel
theorem dX9_signsOf_44 : decode cX9_signsOf 44 = .ok (.istore 6, 2) := by decide +kernel
theorem dX9_signsOf_46 : decode cX9_signsOf 46 = .ok (.iinc 5 1, 3) := by decide +kernel
theorem dX9_signsOf_49 : decode cX9_signsOf 49 = .ok (.goto (-43), 3) := by decide +kernel
theorem dX9_signsOf_52 : decode cX9_signsOf 52 = .ok (.iload 5, 2) := by decide +kernel
theorem dX9_signsOf_54 : decode cX9_signsOf 54 = .ok (.ireturn, 1) := by decide +kernel
theorem dX9_isSameRow_0 : decode cX9_isSameRow 0 = .ok (.aload_n 0, 1) := by decide +kernel
theorem dX9_isSameRow_1 : decode cX9_isSameRow 1 = .ok (.getfield 49, 3) := by decide +kernel
theorem dX9_isSameRow_4 : decode cX9_isSameRow 4 = .ok (.iload_n 1, 1) := by decide +kernel
theorem dX9_isSameRow_5 : decode cX9_isSameRow 5 = .ok (.iaload, 1) := by decide +kernel
theorem dX9_isSameRow_6 : decode cX9_isSameRow 6 = .ok (.aload_n 0, 1) := by decide +kernel
theorem dX9_isSameRow_7 : decode cX9_isSameRow 7 = .ok (.getfield 49, 3) := by decide +kernel
theorem dX9_isSameRow_10 : decode cX9_isSameRow 10 = .ok (.iload_n 2, 1) := by decide +kernel
theorem dX9_isSameRow_11 : decode cX9_isSameRow 11 = .ok (.iaload, 1) := by decide +kernel
theorem dX9_isSameRow_12 : decode cX9_isSameRow 12 = .ok (.if_icmp .ne 7, 3) := by decide +kernel
theorem dX9_isSameRow_15 : decode cX9_isSameRow 15 = .ok (.iconst 1, 1) := by decide +kernel
theorem dX9_isSameRow_16 : decode cX9_isSameRow 16 = .ok (.goto 4, 3) := by decide +kernel
theorem dX9_isSameRow_19 : decode cX9_isSameRow 19 = .ok (.iconst 0, 1) := by decide +kernel
theorem dX9_isSameRow_20 : decode cX9_isSameRow 20 = .ok (.istore_n 3, 1) := by decide +kernel
theorem dX9_isSameRow_21 : decode cX9_isSameRow 21 = .ok (.iconst 0, 1) := by decide +kernel
theorem dX9_isSameRow_22 : decode cX9_isSameRow 22 = .ok (.istore 4, 2) := by decide +kernel
theorem dX9_isSameRow_24 : decode cX9_isSameRow 24 = .ok (.iload 4, 2) := by decide +kernel
theorem dX9_isSameRow_26 : decode cX9_isSameRow 26 = .ok (.aload_n 0, 1) := by decide +kernel
theorem dX9_isSameRow_27 : decode cX9_isSameRow 27 = .ok (.getfield 49, 3) := by decide +kernel
theorem dX9_isSameRow_30 : decode cX9_isSameRow 30 = .ok (.iload_n 1, 1) := by decide +kernel
theorem dX9_isSameRow_31 : decode cX9_isSameRow 31 = .ok (.iaload, 1) := by decide +kernel
theorem dX9_isSameRow_32 : decode cX9_isSameRow 32 = .ok (.if_icmp .ge 46, 3) := by decide +kernel
theorem dX9_isSameRow_35 : decode cX9_isSameRow 35 = .ok (.iload_n 3, 1) := by decide +kernel
theorem dX9_isSameRow_36 : decode cX9_isSameRow 36 = .ok (.ifCond .eq 42, 3) := by decide +kernel
theorem dX9_isSameRow_39 : decode cX9_isSameRow 39 = .ok (.aload_n 0, 1) := by decide +kernel
theorem dX9_isSameRow_40 : decode cX9_isSameRow 40 = .ok (.getfield 55, 3) := by decide +kernel
theorem dX9_isSameRow_43 : decode cX9_isSameRow 43 = .ok (.bipush 100, 2) := by decide +kernel
theorem dX9_isSameRow_45 : decode cX9_isSameRow 45 = .ok (.iload_n 1, 1) := by decide +kernel
theorem dX9_isSameRow_46 : decode cX9_isSameRow 46 = .ok (.imul, 1) := by decide +kernel
theorem dX9_isSameRow_47 : decode cX9_isSameRow 47 = .ok (.iload 4, 2) := by decide +kernel
theorem dX9_isSameRow_49 : decode cX9_isSameRow 49 = .ok (.iadd, 1) := by decide +kernel
theorem dX9_isSameRow_50 : decode cX9_isSameRow 50 = .ok (.iaload, 1) := by decide +kernel
theorem dX9_isSameRow_51 : decode cX9_isSameRow 51 = .ok (.aload_n 0, 1) := by decide +kernel
theorem dX9_isSameRow_52 : decode cX9_isSameRow 52 = .ok (.getfield 55, 3) := by decide +kernel
theorem dX9_isSameRow_55 : decode cX9_isSameRow 55 = .ok (.bipush 100, 2) := by decide +kernel
theorem dX9_isSameRow_57 : decode cX9_isSameRow 57 = .ok (.iload_n 2, 1) := by decide +kernel
theorem dX9_isSameRow_58 : decode cX9_isSameRow 58 = .ok (.imul, 1) := by decide +kernel
theorem dX9_isSameRow_59 : decode cX9_isSameRow 59 = .ok (.iload 4, 2) := by decide +kernel
theorem dX9_isSameRow_61 : decode cX9_isSameRow 61 = .ok (.iadd, 1) := by decide +kernel
theorem dX9_isSameRow_62 : decode cX9_isSameRow 62 = .ok (.iaload, 1) := by decide +kernel
theorem dX9_isSameRow_63 : decode cX9_isSameRow 63 = .ok (.if_icmp .ne 7, 3) := by decide +kernel
theorem dX9_isSameRow_66 : decode cX9_isSameRow 66 = .ok (.iconst 1, 1) := by decide +kernel
theorem dX9_isSameRow_67 : decode cX9_isSameRow 67 = .ok (.goto 4, 3) := by decide +kernel
theorem dX9_isSameRow_70 : decode cX9_isSameRow 70 = .ok (.iconst 0, 1) := by decide +kernel
theorem dX9_isSameRow_71 : decode cX9_isSameRow 71 = .ok (.istore_n 3, 1) := by decide +kernel
theorem dX9_isSameRow_72 : decode cX9_isSameRow 72 = .ok (.iinc 4 1, 3) := by decide +kernel
theorem dX9_isSameRow_75 : decode cX9_isSameRow 75 = .ok (.goto (-51), 3) := by decide +kernel
theorem dX9_isSameRow_78 : decode cX9_isSameRow 78 = .ok (.iload_n 3, 1) := by decide +kernel
theorem dX9_isSameRow_79 : decode cX9_isSameRow 79 = .ok (.ireturn, 1) := by decide +kernel
theorem dX9_string_0 : decode cX9_string 0 = .ok (.aload_n 0, 1) := by decide +kernel
theorem dX9_string_1 : decode cX9_string 1 = .ok (.getfield 120, 3) := by decide +kernel
theorem dX9_string_4 : decode cX9_string 4 = .ok (.ifCond .ne 5, 3) := by decide +kernel
theorem dX9_string_7 : decode cX9_string 7 = .ok (.iconst (-1), 1) := by decide +kernel
theorem dX9_string_8 : decode cX9_string 8 = .ok (.ireturn, 1) := by decide +kernel
theorem dX9_string_9 : decode cX9_string 9 = .ok (.bipush 20, 2) := by decide +kernel
theorem dX9_string_11 : decode cX9_string 11 = .ok (.istore_n 1, 1) := by decide +kernel
theorem dX9_string_12 : decode cX9_string 12 = .ok (.aload_n 0, 1) := by decide +kernel
theorem dX9_string_13 : decode cX9_string 13 = .ok (.getfield 49, 3) := by decide +kernel
theorem dX9_string_16 : decode cX9_string 16 = .ok (.iload_n 1, 1) := by decide +kernel
theorem dX9_string_17 : decode cX9_string 17 = .ok (.aload_n 0, 1) := by decide +kernel
theorem dX9_string_18 : decode cX9_string 18 = .ok (.iconst 0, 1) := by decide +kernel
theorem dX9_string_19 : decode cX9_string 19 = .ok (.aload_n 0, 1) := by decide +kernel
theorem dX9_string_20 : decode cX9_string 20 = .ok (.getfield 120, 3) := by decide +kernel
theorem dX9_string_23 : decode cX9_string 23 = .ok (.aload_n 0, 1) := by decide +kernel
theorem dX9_string_24 : decode cX9_string 24 = .ok (.getfield 55, 3) := by decide +kernel
theorem dX9_string_27 : decode cX9_string 27 = .ok (.bipush 100, 2) := by decide +kernel
theorem dX9_string_29 : decode cX9_string 29 = .ok (.iload_n 1, 1) := by decide +kernel
theorem dX9_string_30 : decode cX9_string 30 = .ok (.imul, 1) := by decide +kernel
theorem dX9_string_31 : decode cX9_string 31 = .ok (.invokevirtual 145, 3) := by decide +kernel
theorem dX9_string_34 : decode cX9_string 34 = .ok (.iastore, 1) := by decide +kernel
theorem dX9_string_35 : decode cX9_string 35 = .ok (.iconst 0, 1) := by decide +kernel
theorem dX9_string_36 : decode cX9_string 36 = .ok (.istore_n 2, 1) := by decide +kernel
theorem dX9_string_37 : decode cX9_string 37 = .ok (.iload_n 2, 1) := by decide +kernel
theorem dX9_string_38 : decode cX9_string 38 = .ok (.aload_n 0, 1) := by decide +kernel
theorem dX9_string_39 : decode cX9_string 39 = .ok (.getfield 149, 3) := by decide +kernel
theorem dX9_string_42 : decode cX9_string 42 = .ok (.if_icmp .ge 18, 3) := by decide +kernel
theorem dX9_string_45 : decode cX9_string 45 = .ok (.aload_n 0, 1) := by decide +kernel
theorem dX9_string_46 : decode cX9_string 46 = .ok (.iload_n 2, 1) := by decide +kernel
theorem dX9_string_47 : decode cX9_string 47 = .ok (.iload_n 1, 1) := by decide +kernel
theorem dX9_string_48 : decode cX9_string 48 = .ok (.invokevirtual 152, 3) := by decide +kernel
theorem dX9_string_51 : decode cX9_string 51 = .ok (.ifCond .ne 9, 3) := by decide +kernel
theorem dX9_string_54 : decode cX9_string 54 = .ok (.iinc 2 1, 3) := by decide +kernel
theorem dX9_string_57 : decode cX9_string 57 = .ok (.goto (-20), 3) := by decide +kernel
theorem dX9_string_60 : decode cX9_string 60 = .ok (.iload_n 2, 1) := by decide +kernel
theorem dX9_string_61 : decode cX9_string 61 = .ok (.bipush 20, 2) := by decide +kernel
theorem dX9_string_63 : decode cX9_string 63 = .ok (.if_icmp .ne 6, 3) := by decide +kernel
theorem dX9_string_66 : decode cX9_string 66 = .ok (.bipush (-2), 2) := by decide +kernel
theorem dX9_string_68 : decode cX9_string 68 = .ok (.ireturn, 1) := by decide +kernel
theorem dX9_string_69 : decode cX9_string 69 = .ok (.aload_n 0, 1) := by decide +kernel
theorem dX9_string_70 : decode cX9_string 70 = .ok (.getfield 49, 3) := by decide +kernel
theorem dX9_string_73 : decode cX9_string 73 = .ok (.iload_n 2, 1) := by decide +kernel
theorem dX9_string_74 : decode cX9_string 74 = .ok (.aload_n 0, 1) := by decide +kernel
theorem dX9_string_75 : decode cX9_string 75 = .ok (.iconst 0, 1) := by decide +kernel
theorem dX9_string_76 : decode cX9_string 76 = .ok (.aload_n 0, 1) := by decide +kernel
theorem dX9_string_77 : decode cX9_string 77 = .ok (.getfield 120, 3) := by decide +kernel
theorem dX9_string_80 : decode cX9_string 80 = .ok (.aload_n 0, 1) := by decide +kernel
theorem dX9_string_81 : decode cX9_string 81 = .ok (.getfield 55, 3) := by decide +kernel
theorem dX9_string_84 : decode cX9_string 84 = .ok (.bipush 100, 2) := by decide +kernel
theorem dX9_string_86 : decode cX9_string 86 = .ok (.iload_n 2, 1) := by decide +kernel
theorem dX9_string_87 : decode cX9_string 87 = .ok (.imul, 1) := by decide +kernel
theorem dX9_string_88 : decode cX9_string 88 = .ok (.invokevirtual 145, 3) := by decide +kernel
theorem dX9_string_91 : decode cX9_string 91 = .ok (.iastore, 1) := by decide +kernel
theorem dX9_string_92 : decode cX9_string 92 = .ok (.aload_n 0, 1) := by decide +kernel
theorem dX9_string_93 : decode cX9_string 93 = .ok (.getfield 52, 3) := by decide +kernel
theorem dX9_string_96 : decode cX9_string 96 = .ok (.iload_n 2, 1) := by decide +kernel
theorem dX9_string_97 : decode cX9_string 97 = .ok (.aload_n 0, 1) := by decide +kernel
theorem dX9_string_98 : decode cX9_string 98 = .ok (.aload_n 0, 1) := by decide +kernel
theorem dX9_string_99 : decode cX9_string 99 = .ok (.getfield 120, 3) := by decide +kernel
theorem dX9_string_102 : decode cX9_string 102 = .ok (.aload_n 0, 1) := by decide +kernel
theorem dX9_string_103 : decode cX9_string 103 = .ok (.getfield 106, 3) := by decide +kernel
theorem dX9_string_106 : decode cX9_string 106 = .ok (.aload_n 0, 1) := by decide +kernel
theorem dX9_string_107 : decode cX9_string 107 = .ok (.getfield 58, 3) := by decide +kernel
theorem dX9_string_110 : decode cX9_string 110 = .ok (.bipush 100, 2) := by decide +kernel
theorem dX9_string_112 : decode cX9_string 112 = .ok (.iload_n 2, 1) := by decide +kernel
theorem dX9_string_113 : decode cX9_string 113 = .ok (.imul, 1) := by decide +kernel
theorem dX9_string_114 : decode cX9_string 114 = .ok (.invokevirtual 145, 3) := by decide +kernel
theorem dX9_string_117 : decode cX9_string 117 = .ok (.iastore, 1) := by decide +kernel
theorem dX9_string_118 : decode cX9_string 118 = .ok (.aload_n 0, 1) := by decide +kernel
theorem dX9_string_119 : decode cX9_string 119 = .ok (.dup, 1) := by decide +kernel
theorem dX9_string_120 : decode cX9_string 120 = .ok (.getfield 149, 3) := by decide +kernel
theorem dX9_string_123 : decode cX9_string 123 = .ok (.iload_n 2, 1) := by decide +kernel
theorem dX9_string_124 : decode cX9_string 124 = .ok (.aload_n 0, 1) := by decide +kernel
theorem dX9_string_125 : decode cX9_string 125 = .ok (.getfield 149, 3) := by decide +kernel
theorem dX9_string_128 : decode cX9_string 128 = .ok (.if_icmp .ne 7, 3) := by decide +kernel
theorem dX9_string_131 : decode cX9_string 131 = .ok (.iconst 1, 1) := by decide +kernel
theorem dX9_string_132 : decode cX9_string 132 = .ok (.goto 4, 3) := by decide +kernel
theorem dX9_string_135 : decode cX9_string 135 = .ok (.iconst 0, 1) := by decide +kernel
theorem dX9_string_136 : decode cX9_string 136 = .ok (.iadd, 1) := by decide +kernel
theorem dX9_string_137 : decode cX9_string 137 = .ok (.putfield 149, 3) := by decide +kernel
theorem dX9_string_140 : decode cX9_string 140 = .ok (.aload_n 0, 1) := by decide +kernel
theorem dX9_string_141 : decode cX9_string 141 = .ok (.invokevirtual 142, 3) := by decide +kernel
theorem dX9_string_144 : decode cX9_string 144 = .ok (.aload_n 0, 1) := by decide +kernel
theorem dX9_string_145 : decode cX9_string 145 = .ok (.getfield 149, 3) := by decide +kernel
theorem dX9_string_148 : decode cX9_string 148 = .ok (.ireturn, 1) := by decide +kernel
theorem dX9_foldAt_0 : decode cX9_foldAt 0 = .ok (.iconst (-1), 1) := by decide +kernel
theorem dX9_foldAt_1 : decode cX9_foldAt 1 = .ok (.istore_n 2, 1) := by decide +kernel
theorem dX9_foldAt_2 : decode cX9_foldAt 2 = .ok (.iconst 0, 1) := by decide +kernel
theorem dX9_foldAt_3 : decode cX9_foldAt 3 = .ok (.istore_n 3, 1) := by decide +kernel
theorem dX9_foldAt_4 : decode cX9_foldAt 4 = .ok (.iload_n 3, 1) := by decide +kernel
theorem dX9_foldAt_5 : decode cX9_foldAt 5 = .ok (.aload_n 0, 1) := by decide +kernel
theorem dX9_foldAt_6 : decode cX9_foldAt 6 = .ok (.getfield 155, 3) := by decide +kernel
theorem dX9_foldAt_9 : decode cX9_foldAt 9 = .ok (.if_icmp .ge 25, 3) := by decide +kernel
theorem dX9_foldAt_12 : decode cX9_foldAt 12 = .ok (.aload_n 0, 1) := by decide +kernel
theorem dX9_foldAt_13 : decode cX9_foldAt 13 = .ok (.getfield 22, 3) := by decide +kernel
theorem dX9_foldAt_16 : decode cX9_foldAt 16 = .ok (.iload_n 3, 1) := by decide +kernel
theorem dX9_foldAt_17 : decode cX9_foldAt 17 = .ok (.iaload, 1) := by decide +kernel
theorem dX9_foldAt_18 : decode cX9_foldAt 18 = .ok (.iload_n 1, 1) := by decide +kernel
theorem dX9_foldAt_19 : decode cX9_foldAt 19 = .ok (.if_icmp .ne 7, 3) := by decide +kernel
theorem dX9_foldAt_22 : decode cX9_foldAt 22 = .ok (.iload_n 3, 1) := by decide +kernel
theorem dX9_foldAt_23 : decode cX9_foldAt 23 = .ok (.goto 4, 3) := by decide +kernel
theorem dX9_foldAt_26 : decode cX9_foldAt 26 = .ok (.iload_n 2, 1) := by decide +kernel
theorem dX9_foldAt_27 : decode cX9_foldAt 27 = .ok (.istore_n 2, 1) := by decide +kernel
theorem dX9_foldAt_28 : decode cX9_foldAt 28 = .ok (.iinc 3 1, 3) := by decide +kernel
theorem dX9_foldAt_31 : decode cX9_foldAt 31 = .ok (.goto (-27), 3) := by decide +kernel
theorem dX9_foldAt_34 : decode cX9_foldAt 34 = .ok (.iload_n 2, 1) := by decide +kernel
theorem dX9_foldAt_35 : decode cX9_foldAt 35 = .ok (.ireturn, 1) := by decide +kernel
theorem dX9_isSignOrNone_0 : decode cX9_isSignOrNone 0 = .ok (.iload_n 0, 1) := by decide +kernel
theorem dX9_isSignOrNone_1 : decode cX9_isSignOrNone 1 = .ok (.iconst (-1), 1) := by decide +kernel
theorem dX9_isSignOrNone_2 : decode cX9_isSignOrNone 2 = .ok (.if_icmp .eq 10, 3) := by decide +kernel
theorem dX9_isSignOrNone_5 : decode cX9_isSignOrNone 5 = .ok (.iload_n 0, 1) := by decide +kernel
theorem dX9_isSignOrNone_6 : decode cX9_isSignOrNone 6 = .ok (.invokestatic 158, 3) := by decide +kernel
theorem dX9_isSignOrNone_9 : decode cX9_isSignOrNone 9 = .ok (.ifCond .eq 7, 3) := by decide +kernel
theorem dX9_isSignOrNone_12 : decode cX9_isSignOrNone 12 = .ok (.iconst 1, 1) := by decide +kernel
theorem dX9_isSignOrNone_13 : decode cX9_isSignOrNone 13 = .ok (.goto 4, 3) := by decide +kernel
theorem dX9_isSignOrNone_16 : decode cX9_isSignOrNone 16 = .ok (.iconst 0, 1) := by decide +kernel
theorem dX9_isSignOrNone_17 : decode cX9_isSignOrNone 17 = .ok (.ireturn, 1) := by decide +kernel
theorem dX9_fold_0 : decode cX9_fold 0 = .ok (.iload_n 1, 1) := by decide +kernel
theorem dX9_fold_1 : decode cX9_fold 1 = .ok (.invokestatic 158, 3) := by decide +kernel
theorem dX9_fold_4 : decode cX9_fold 4 = .ok (.ifCond .eq 46, 3) := by decide +kernel
theorem dX9_fold_7 : decode cX9_fold 7 = .ok (.iload_n 2, 1) := by decide +kernel
theorem dX9_fold_8 : decode cX9_fold 8 = .ok (.invokestatic 161, 3) := by decide +kernel
theorem dX9_fold_11 : decode cX9_fold 11 = .ok (.ifCond .eq 39, 3) := by decide +kernel
theorem dX9_fold_14 : decode cX9_fold 14 = .ok (.iload_n 3, 1) := by decide +kernel
theorem dX9_fold_15 : decode cX9_fold 15 = .ok (.invokestatic 161, 3) := by decide +kernel
theorem dX9_fold_18 : decode cX9_fold 18 = .ok (.ifCond .eq 32, 3) := by decide +kernel
theorem dX9_fold_21 : decode cX9_fold 21 = .ok (.iload 4, 2) := by decide +kernel
theorem dX9_fold_23 : decode cX9_fold 23 = .ok (.invokestatic 161, 3) := by decide +kernel
theorem dX9_fold_26 : decode cX9_fold 26 = .ok (.ifCond .eq 24, 3) := by decide +kernel
theorem dX9_fold_29 : decode cX9_fold 29 = .ok (.iload_n 2, 1) := by decide +kernel
theorem dX9_fold_30 : decode cX9_fold 30 = .ok (.iconst (-1), 1) := by decide +kernel
theorem dX9_fold_31 : decode cX9_fold 31 = .ok (.if_icmp .ne 8, 3) := by decide +kernel
theorem dX9_fold_34 : decode cX9_fold 34 = .ok (.iload_n 3, 1) := by decide +kernel
theorem dX9_fold_35 : decode cX9_fold 35 = .ok (.iconst (-1), 1) := by decide +kernel
theorem dX9_fold_36 : decode cX9_fold 36 = .ok (.if_icmp .ne 14, 3) := by decide +kernel
theorem dX9_fold_39 : decode cX9_fold 39 = .ok (.iload_n 3, 1) := by decide +kernel
theorem dX9_fold_40 : decode cX9_fold 40 = .ok (.iconst (-1), 1) := by decide +kernel
theorem dX9_fold_41 : decode cX9_fold 41 = .ok (.if_icmp .ne 11, 3) := by decide +kernel
theorem dX9_fold_44 : decode cX9_fold 44 = .ok (.iload 4, 2) := by decide +kernel
theorem dX9_fold_46 : decode cX9_fold 46 = .ok (.iconst (-1), 1) := by decide +kernel
theorem dX9_fold_47 : decode cX9_fold 47 = .ok (.if_icmp .eq 5, 3) := by decide +kernel
theorem dX9_fold_50 : decode cX9_fold 50 = .ok (.iconst (-1), 1) := by decide +kernel
theorem dX9_fold_51 : decode cX9_fold 51 = .ok (.ireturn, 1) := by decide +kernel
theorem dX9_fold_52 : decode cX9_fold 52 = .ok (.aload_n 0, 1) := by decide +kernel
theorem dX9_fold_53 : decode cX9_fold 53 = .ok (.iload_n 1, 1) := by decide +kernel
theorem dX9_fold_54 : decode cX9_fold 54 = .ok (.invokevirtual 164, 3) := by decide +kernel
theorem dX9_fold_57 : decode cX9_fold 57 = .ok (.istore 5, 2) := by decide +kernel
theorem dX9_fold_59 : decode cX9_fold 59 = .ok (.iload 5, 2) := by decide +kernel
theorem dX9_fold_61 : decode cX9_fold 61 = .ok (.ifCond .ge 15, 3) := by decide +kernel
theorem dX9_fold_64 : decode cX9_fold 64 = .ok (.aload_n 0, 1) := by decide +kernel
theorem dX9_fold_65 : decode cX9_fold 65 = .ok (.getfield 155, 3) := by decide +kernel
theorem dX9_fold_68 : decode cX9_fold 68 = .ok (.bipush 40, 2) := by decide +kernel
theorem dX9_fold_70 : decode cX9_fold 70 = .ok (.if_icmp .ne 6, 3) := by decide +kernel
theorem dX9_fold_73 : decode cX9_fold 73 = .ok (.bipush (-2), 2) := by decide +kernel
theorem dX9_fold_75 : decode cX9_fold 75 = .ok (.ireturn, 1) := by decide +kernel
theorem dX9_fold_76 : decode cX9_fold 76 = .ok (.iload 5, 2) := by decide +kernel
theorem dX9_fold_78 : decode cX9_fold 78 = .ok (.ifCond .ge 19, 3) := by decide +kernel
theorem dX9_fold_81 : decode cX9_fold 81 = .ok (.aload_n 0, 1) := by decide +kernel
theorem dX9_fold_82 : decode cX9_fold 82 = .ok (.getfield 155, 3) := by decide +kernel
theorem dX9_fold_85 : decode cX9_fold 85 = .ok (.istore 5, 2) := by decide +kernel
theorem dX9_fold_87 : decode cX9_fold 87 = .ok (.aload_n 0, 1) := by decide +kernel
theorem dX9_fold_88 : decode cX9_fold 88 = .ok (.dup, 1) := by decide +kernel
theorem dX9_fold_89 : decode cX9_fold 89 = .ok (.getfield 155, 3) := by decide +kernel
theorem dX9_fold_92 : decode cX9_fold 92 = .ok (.iconst 1, 1) := by decide +kernel
theorem dX9_fold_93 : decode cX9_fold 93 = .ok (.iadd, 1) := by decide +kernel
theorem dX9_fold_94 : decode cX9_fold 94 = .ok (.putfield 155, 3) := by decide +kernel
theorem dX9_fold_97 : decode cX9_fold 97 = .ok (.aload_n 0, 1) := by decide +kernel
theorem dX9_fold_98 : decode cX9_fold 98 = .ok (.getfield 22, 3) := by decide +kernel
theorem dX9_fold_101 : decode cX9_fold 101 = .ok (.iload 5, 2) := by decide +kernel
theorem dX9_fold_103 : decode cX9_fold 103 = .ok (.iload_n 1, 1) := by decide +kernel
theorem dX9_fold_104 : decode cX9_fold 104 = .ok (.iastore, 1) := by decide +kernel
theorem dX9_fold_105 : decode cX9_fold 105 = .ok (.aload_n 0, 1) := by decide +kernel
theorem dX9_fold_106 : decode cX9_fold 106 = .ok (.getfield 25, 3) := by decide +kernel
theorem dX9_fold_109 : decode cX9_fold 109 = .ok (.iload 5, 2) := by decide +kernel
theorem dX9_fold_111 : decode cX9_fold 111 = .ok (.iload_n 2, 1) := by decide +kernel
theorem dX9_fold_112 : decode cX9_fold 112 = .ok (.ifCond .ge 7, 3) := by decide +kernel
theorem dX9_fold_115 : decode cX9_fold 115 = .ok (.iconst 0, 1) := by decide +kernel
theorem dX9_fold_116 : decode cX9_fold 116 = .ok (.goto 4, 3) := by decide +kernel
theorem dX9_fold_119 : decode cX9_fold 119 = .ok (.iconst 1, 1) := by decide +kernel
theorem dX9_fold_120 : decode cX9_fold 120 = .ok (.iload_n 3, 1) := by decide +kernel
theorem dX9_fold_121 : decode cX9_fold 121 = .ok (.ifCond .ge 7, 3) := by decide +kernel
theorem dX9_fold_124 : decode cX9_fold 124 = .ok (.iconst 0, 1) := by decide +kernel
theorem dX9_fold_125 : decode cX9_fold 125 = .ok (.goto 4, 3) := by decide +kernel
theorem dX9_fold_128 : decode cX9_fold 128 = .ok (.iconst 1, 1) := by decide +kernel
theorem dX9_fold_129 : decode cX9_fold 129 = .ok (.iadd, 1) := by decide +kernel
theorem dX9_fold_130 : decode cX9_fold 130 = .ok (.iload 4, 2) := by decide +kernel
theorem dX9_fold_132 : decode cX9_fold 132 = .ok (.ifCond .ge 7, 3) := by decide +kernel
theorem dX9_fold_135 : decode cX9_fold 135 = .ok (.iconst 0, 1) := by decide +kernel
theorem dX9_fold_136 : decode cX9_fold 136 = .ok (.goto 4, 3) := by decide +kernel
theorem dX9_fold_139 : decode cX9_fold 139 = .ok (.iconst 1, 1) := by decide +kernel
theorem dX9_fold_140 : decode cX9_fold 140 = .ok (.iadd, 1) := by decide +kernel
theorem dX9_fold_141 : decode cX9_fold 141 = .ok (.iastore, 1) := by decide +kernel
theorem dX9_fold_142 : decode cX9_fold 142 = .ok (.aload_n 0, 1) := by decide +kernel
theorem dX9_fold_143 : decode cX9_fold 143 = .ok (.getfield 28, 3) := by decide +kernel
theorem dX9_fold_146 : decode cX9_fold 146 = .ok (.iconst 3, 1) := by decide +kernel
theorem dX9_fold_147 : decode cX9_fold 147 = .ok (.iload 5, 2) := by decide +kernel
theorem dX9_fold_149 : decode cX9_fold 149 = .ok (.imul, 1) := by decide +kernel
theorem dX9_fold_150 : decode cX9_fold 150 = .ok (.iload_n 2, 1) := by decide +kernel
theorem dX9_fold_151 : decode cX9_fold 151 = .ok (.iastore, 1) := by decide +kernel
theorem dX9_fold_152 : decode cX9_fold 152 = .ok (.aload_n 0, 1) := by decide +kernel
theorem dX9_fold_153 : decode cX9_fold 153 = .ok (.getfield 28, 3) := by decide +kernel
theorem dX9_fold_156 : decode cX9_fold 156 = .ok (.iconst 3, 1) := by decide +kernel
theorem dX9_fold_157 : decode cX9_fold 157 = .ok (.iload 5, 2) := by decide +kernel
theorem dX9_fold_159 : decode cX9_fold 159 = .ok (.imul, 1) := by decide +kernel
theorem dX9_fold_160 : decode cX9_fold 160 = .ok (.iconst 1, 1) := by decide +kernel
theorem dX9_fold_161 : decode cX9_fold 161 = .ok (.iadd, 1) := by decide +kernel
theorem dX9_fold_162 : decode cX9_fold 162 = .ok (.iload_n 3, 1) := by decide +kernel
theorem dX9_fold_163 : decode cX9_fold 163 = .ok (.iastore, 1) := by decide +kernel
theorem dX9_fold_164 : decode cX9_fold 164 = .ok (.aload_n 0, 1) := by decide +kernel
theorem dX9_fold_165 : decode cX9_fold 165 = .ok (.getfield 28, 3) := by decide +kernel
theorem dX9_fold_168 : decode cX9_fold 168 = .ok (.iconst 3, 1) := by decide +kernel
theorem dX9_fold_169 : decode cX9_fold 169 = .ok (.iload 5, 2) := by decide +kernel
theorem dX9_fold_171 : decode cX9_fold 171 = .ok (.imul, 1) := by decide +kernel
theorem dX9_fold_172 : decode cX9_fold 172 = .ok (.iconst 2, 1) := by decide +kernel
theorem dX9_fold_173 : decode cX9_fold 173 = .ok (.iadd, 1) := by decide +kernel
theorem dX9_fold_174 : decode cX9_fold 174 = .ok (.iload 4, 2) := by decide +kernel
theorem dX9_fold_176 : decode cX9_fold 176 = .ok (.iastore, 1) := by decide +kernel
theorem dX9_fold_177 : decode cX9_fold 177 = .ok (.aload_n 0, 1) := by decide +kernel
theorem dX9_fold_178 : decode cX9_fold 178 = .ok (.getfield 155, 3) := by decide +kernel
theorem dX9_fold_181 : decode cX9_fold 181 = .ok (.ireturn, 1) := by decide +kernel
theorem dX9_pairAt_0 : decode cX9_pairAt 0 = .ok (.iconst (-1), 1) := by decide +kernel
theorem dX9_pairAt_1 : decode cX9_pairAt 1 = .ok (.istore_n 3, 1) := by decide +kernel
theorem dX9_pairAt_2 : decode cX9_pairAt 2 = .ok (.iconst 0, 1) := by decide +kernel
theorem dX9_pairAt_3 : decode cX9_pairAt 3 = .ok (.istore 4, 2) := by decide +kernel
theorem dX9_pairAt_5 : decode cX9_pairAt 5 = .ok (.iload 4, 2) := by decide +kernel
theorem dX9_pairAt_7 : decode cX9_pairAt 7 = .ok (.aload_n 0, 1) := by decide +kernel
theorem dX9_pairAt_8 : decode cX9_pairAt 8 = .ok (.getfield 168, 3) := by decide +kernel
theorem dX9_pairAt_11 : decode cX9_pairAt 11 = .ok (.if_icmp .ge 38, 3) := by decide +kernel
theorem dX9_pairAt_14 : decode cX9_pairAt 14 = .ok (.aload_n 0, 1) := by decide +kernel
theorem dX9_pairAt_15 : decode cX9_pairAt 15 = .ok (.getfield 31, 3) := by decide +kernel
theorem dX9_pairAt_18 : decode cX9_pairAt 18 = .ok (.iload 4, 2) := by decide +kernel
theorem dX9_pairAt_20 : decode cX9_pairAt 20 = .ok (.iaload, 1) := by decide +kernel
theorem dX9_pairAt_21 : decode cX9_pairAt 21 = .ok (.iload_n 1, 1) := by decide +kernel
theorem dX9_pairAt_22 : decode cX9_pairAt 22 = .ok (.if_icmp .ne 19, 3) := by decide +kernel
theorem dX9_pairAt_25 : decode cX9_pairAt 25 = .ok (.aload_n 0, 1) := by decide +kernel
theorem dX9_pairAt_26 : decode cX9_pairAt 26 = .ok (.getfield 34, 3) := by decide +kernel
theorem dX9_pairAt_29 : decode cX9_pairAt 29 = .ok (.iload 4, 2) := by decide +kernel
theorem dX9_pairAt_31 : decode cX9_pairAt 31 = .ok (.iaload, 1) := by decide +kernel
theorem dX9_pairAt_32 : decode cX9_pairAt 32 = .ok (.iload_n 2, 1) := by decide +kernel
theorem dX9_pairAt_33 : decode cX9_pairAt 33 = .ok (.if_icmp .ne 8, 3) := by decide +kernel
theorem dX9_pairAt_36 : decode cX9_pairAt 36 = .ok (.iload 4, 2) := by decide +kernel
theorem dX9_pairAt_38 : decode cX9_pairAt 38 = .ok (.goto 4, 3) := by decide +kernel
theorem dX9_pairAt_41 : decode cX9_pairAt 41 = .ok (.iload_n 3, 1) := by decide +kernel
theorem dX9_pairAt_42 : decode cX9_pairAt 42 = .ok (.istore_n 3, 1) := by decide +kernel
theorem dX9_pairAt_43 : decode cX9_pairAt 43 = .ok (.iinc 4 1, 3) := by decide +kernel
theorem dX9_pairAt_46 : decode cX9_pairAt 46 = .ok (.goto (-41), 3) := by decide +kernel
theorem dX9_pairAt_49 : decode cX9_pairAt 49 = .ok (.iload_n 3, 1) := by decide +kernel
theorem dX9_pairAt_50 : decode cX9_pairAt 50 = .ok (.ireturn, 1) := by decide +kernel
theorem dX9_pair_0 : decode cX9_pair 0 = .ok (.iload_n 1, 1) := by decide +kernel
theorem dX9_pair_1 : decode cX9_pair 1 = .ok (.invokestatic 158, 3) := by decide +kernel
theorem dX9_pair_4 : decode cX9_pair 4 = .ok (.ifCond .eq 17, 3) := by decide +kernel
theorem dX9_pair_7 : decode cX9_pair 7 = .ok (.iload_n 2, 1) := by decide +kernel
theorem dX9_pair_8 : decode cX9_pair 8 = .ok (.invokestatic 158, 3) := by decide +kernel
theorem dX9_pair_11 : decode cX9_pair 11 = .ok (.ifCond .eq 10, 3) := by decide +kernel
theorem dX9_pair_14 : decode cX9_pair 14 = .ok (.iload_n 3, 1) := by decide +kernel
theorem dX9_pair_15 : decode cX9_pair 15 = .ok (.invokestatic 158, 3) := by decide +kernel
theorem dX9_pair_18 : decode cX9_pair 18 = .ok (.ifCond .ne 5, 3) := by decide +kernel
theorem dX9_pair_21 : decode cX9_pair 21 = .ok (.iconst (-1), 1) := by decide +kernel
theorem dX9_pair_22 : decode cX9_pair 22 = .ok (.ireturn, 1) := by decide +kernel
theorem dX9_pair_23 : decode cX9_pair 23 = .ok (.aload_n 0, 1) := by decide +kernel
theorem dX9_pair_24 : decode cX9_pair 24 = .ok (.iload_n 1, 1) := by decide +kernel
theorem dX9_pair_25 : decode cX9_pair 25 = .ok (.iload_n 2, 1) := by decide +kernel
theorem dX9_pair_26 : decode cX9_pair 26 = .ok (.invokevirtual 171, 3) := by decide +kernel
theorem dX9_pair_29 : decode cX9_pair 29 = .ok (.istore 4, 2) := by decide +kernel
theorem dX9_pair_31 : decode cX9_pair 31 = .ok (.iload 4, 2) := by decide +kernel
theorem dX9_pair_33 : decode cX9_pair 33 = .ok (.ifCond .ge 15, 3) := by decide +kernel
theorem dX9_pair_36 : decode cX9_pair 36 = .ok (.aload_n 0, 1) := by decide +kernel
theorem dX9_pair_37 : decode cX9_pair 37 = .ok (.getfield 168, 3) := by decide +kernel
theorem dX9_pair_40 : decode cX9_pair 40 = .ok (.bipush 20, 2) := by decide +kernel
theorem dX9_pair_42 : decode cX9_pair 42 = .ok (.if_icmp .ne 6, 3) := by decide +kernel
theorem dX9_pair_45 : decode cX9_pair 45 = .ok (.bipush (-2), 2) := by decide +kernel
theorem dX9_pair_47 : decode cX9_pair 47 = .ok (.ireturn, 1) := by decide +kernel
theorem dX9_pair_48 : decode cX9_pair 48 = .ok (.iload 4, 2) := by decide +kernel
theorem dX9_pair_50 : decode cX9_pair 50 = .ok (.ifCond .ge 19, 3) := by decide +kernel
theorem dX9_pair_53 : decode cX9_pair 53 = .ok (.aload_n 0, 1) := by decide +kernel
theorem dX9_pair_54 : decode cX9_pair 54 = .ok (.getfield 168, 3) := by decide +kernel
theorem dX9_pair_57 : decode cX9_pair 57 = .ok (.istore 4, 2) := by decide +kernel
theorem dX9_pair_59 : decode cX9_pair 59 = .ok (.aload_n 0, 1) := by decide +kernel
theorem dX9_pair_60 : decode cX9_pair 60 = .ok (.dup, 1) := by decide +kernel
theorem dX9_pair_61 : decode cX9_pair 61 = .ok (.getfield 168, 3) := by decide +kernel
theorem dX9_pair_64 : decode cX9_pair 64 = .ok (.iconst 1, 1) := by decide +kernel
theorem dX9_pair_65 : decode cX9_pair 65 = .ok (.iadd, 1) := by decide +kernel
theorem dX9_pair_66 : decode cX9_pair 66 = .ok (.putfield 168, 3) := by decide +kernel
theorem dX9_pair_69 : decode cX9_pair 69 = .ok (.aload_n 0, 1) := by decide +kernel
theorem dX9_pair_70 : decode cX9_pair 70 = .ok (.getfield 31, 3) := by decide +kernel
theorem dX9_pair_73 : decode cX9_pair 73 = .ok (.iload 4, 2) := by decide +kernel
theorem dX9_pair_75 : decode cX9_pair 75 = .ok (.iload_n 1, 1) := by decide +kernel
theorem dX9_pair_76 : decode cX9_pair 76 = .ok (.iastore, 1) := by decide +kernel
theorem dX9_pair_77 : decode cX9_pair 77 = .ok (.aload_n 0, 1) := by decide +kernel
theorem dX9_pair_78 : decode cX9_pair 78 = .ok (.getfield 34, 3) := by decide +kernel
theorem dX9_pair_81 : decode cX9_pair 81 = .ok (.iload 4, 2) := by decide +kernel
theorem dX9_pair_83 : decode cX9_pair 83 = .ok (.iload_n 2, 1) := by decide +kernel
theorem dX9_pair_84 : decode cX9_pair 84 = .ok (.iastore, 1) := by decide +kernel
theorem dX9_pair_85 : decode cX9_pair 85 = .ok (.aload_n 0, 1) := by decide +kernel
theorem dX9_pair_86 : decode cX9_pair 86 = .ok (.getfield 37, 3) := by decide +kernel
theorem dX9_pair_89 : decode cX9_pair 89 = .ok (.iload 4, 2) := by decide +kernel
theorem dX9_pair_91 : decode cX9_pair 91 = .ok (.iload_n 3, 1) := by decide +kernel
theorem dX9_pair_92 : decode cX9_pair 92 = .ok (.iastore, 1) := by decide +kernel
theorem dX9_pair_93 : decode cX9_pair 93 = .ok (.aload_n 0, 1) := by decide +kernel
theorem dX9_pair_94 : decode cX9_pair 94 = .ok (.getfield 168, 3) := by decide +kernel
theorem dX9_pair_97 : decode cX9_pair 97 = .ok (.ireturn, 1) := by decide +kernel
theorem dX9_zero_0 : decode cX9_zero 0 = .ok (.iload_n 1, 1) := by decide +kernel
theorem dX9_zero_1 : decode cX9_zero 1 = .ok (.iconst 0, 1) := by decide +kernel
theorem dX9_zero_2 : decode cX9_zero 2 = .ok (.ldc 174, 2) := by decide +kernel
theorem dX9_zero_4 : decode cX9_zero 4 = .ok (.invokestatic 111, 3) := by decide +kernel
theorem dX9_zero_7 : decode cX9_zero 7 = .ok (.ifCond .ne 5, 3) := by decide +kernel
theorem dX9_zero_10 : decode cX9_zero 10 = .ok (.iconst (-1), 1) := by decide +kernel
theorem dX9_zero_11 : decode cX9_zero 11 = .ok (.ireturn, 1) := by decide +kernel
theorem dX9_zero_12 : decode cX9_zero 12 = .ok (.aload_n 0, 1) := by decide +kernel
theorem dX9_zero_13 : decode cX9_zero 13 = .ok (.getfield 175, 3) := by decide +kernel
theorem dX9_zero_16 : decode cX9_zero 16 = .ok (.bipush 10, 2) := by decide +kernel
theorem dX9_zero_18 : decode cX9_zero 18 = .ok (.if_icmp .ne 6, 3) := by decide +kernel
theorem dX9_zero_21 : decode cX9_zero 21 = .ok (.bipush (-2), 2) := by decide +kernel
theorem dX9_zero_23 : decode cX9_zero 23 = .ok (.ireturn, 1) := by decide +kernel
theorem dX9_zero_24 : decode cX9_zero 24 = .ok (.aload_n 0, 1) := by decide +kernel
theorem dX9_zero_25 : decode cX9_zero 25 = .ok (.getfield 40, 3) := by decide +kernel
theorem dX9_zero_28 : decode cX9_zero 28 = .ok (.aload_n 0, 1) := by decide +kernel
theorem dX9_zero_29 : decode cX9_zero 29 = .ok (.getfield 175, 3) := by decide +kernel
theorem dX9_zero_32 : decode cX9_zero 32 = .ok (.iload_n 1, 1) := by decide +kernel
theorem dX9_zero_33 : decode cX9_zero 33 = .ok (.iastore, 1) := by decide +kernel
theorem dX9_zero_34 : decode cX9_zero 34 = .ok (.aload_n 0, 1) := by decide +kernel
theorem dX9_zero_35 : decode cX9_zero 35 = .ok (.dup, 1) := by decide +kernel
theorem dX9_zero_36 : decode cX9_zero 36 = .ok (.getfield 175, 3) := by decide +kernel
theorem dX9_zero_39 : decode cX9_zero 39 = .ok (.iconst 1, 1) := by decide +kernel
theorem dX9_zero_40 : decode cX9_zero 40 = .ok (.iadd, 1) := by decide +kernel
theorem dX9_zero_41 : decode cX9_zero 41 = .ok (.putfield 175, 3) := by decide +kernel
theorem dX9_zero_44 : decode cX9_zero 44 = .ok (.aload_n 0, 1) := by decide +kernel
theorem dX9_zero_45 : decode cX9_zero 45 = .ok (.getfield 175, 3) := by decide +kernel
theorem dX9_zero_48 : decode cX9_zero 48 = .ok (.ireturn, 1) := by decide +kernel
theorem dX9_range_0 : decode cX9_range 0 = .ok (.iload_n 1, 1) := by decide +kernel
theorem dX9_range_1 : decode cX9_range 1 = .ok (.invokestatic 158, 3) := by decide +kernel
theorem dX9_range_4 : decode cX9_range 4 = .ok (.ifCond .eq 15, 3) := by decide +kernel
theorem dX9_range_7 : decode cX9_range 7 = .ok (.iload_n 2, 1) := by decide +kernel
theorem dX9_range_8 : decode cX9_range 8 = .ok (.invokestatic 158, 3) := by decide +kernel
theorem dX9_range_11 : decode cX9_range 11 = .ok (.ifCond .eq 8, 3) := by decide +kernel
theorem dX9_range_14 : decode cX9_range 14 = .ok (.iload_n 2, 1) := by decide +kernel
theorem dX9_range_15 : decode cX9_range 15 = .ok (.iload_n 1, 1) := by decide +kernel
theorem dX9_range_16 : decode cX9_range 16 = .ok (.if_icmp .ge 5, 3) := by decide +kernel
theorem dX9_range_19 : decode cX9_range 19 = .ok (.iconst (-1), 1) := by decide +kernel
theorem dX9_range_20 : decode cX9_range 20 = .ok (.ireturn, 1) := by decide +kernel
theorem dX9_range_21 : decode cX9_range 21 = .ok (.aload_n 0, 1) := by decide +kernel
theorem dX9_range_22 : decode cX9_range 22 = .ok (.getfield 178, 3) := by decide +kernel
theorem dX9_range_25 : decode cX9_range 25 = .ok (.bipush 8, 2) := by decide +kernel
theorem dX9_range_27 : decode cX9_range 27 = .ok (.if_icmp .ne 6, 3) := by decide +kernel
theorem dX9_range_30 : decode cX9_range 30 = .ok (.bipush (-2), 2) := by decide +kernel
theorem dX9_range_32 : decode cX9_range 32 = .ok (.ireturn, 1) := by decide +kernel
theorem dX9_range_33 : decode cX9_range 33 = .ok (.aload_n 0, 1) := by decide +kernel
theorem dX9_range_34 : decode cX9_range 34 = .ok (.getfield 43, 3) := by decide +kernel
theorem dX9_range_37 : decode cX9_range 37 = .ok (.aload_n 0, 1) := by decide +kernel
theorem dX9_range_38 : decode cX9_range 38 = .ok (.getfield 178, 3) := by decide +kernel
theorem dX9_range_41 : decode cX9_range 41 = .ok (.iload_n 1, 1) := by decide +kernel
theorem dX9_range_42 : decode cX9_range 42 = .ok (.iastore, 1) := by decide +kernel
theorem dX9_range_43 : decode cX9_range 43 = .ok (.aload_n 0, 1) := by decide +kernel
theorem dX9_range_44 : decode cX9_range 44 = .ok (.getfield 46, 3) := by decide +kernel
theorem dX9_range_47 : decode cX9_range 47 = .ok (.aload_n 0, 1) := by decide +kernel
theorem dX9_range_48 : decode cX9_range 48 = .ok (.getfield 178, 3) := by decide +kernel
theorem dX9_range_51 : decode cX9_range 51 = .ok (.iload_n 2, 1) := by decide +kernel
theorem dX9_range_52 : decode cX9_range 52 = .ok (.iastore, 1) := by decide +kernel
theorem dX9_range_53 : decode cX9_range 53 = .ok (.aload_n 0, 1) := by decide +kernel
theorem dX9_range_54 : decode cX9_range 54 = .ok (.dup, 1) := by decide +kernel
theorem dX9_range_55 : decode cX9_range 55 = .ok (.getfield 178, 3) := by decide +kernel
theorem dX9_range_58 : decode cX9_range 58 = .ok (.iconst 1, 1) := by decide +kernel
theorem dX9_range_59 : decode cX9_range 59 = .ok (.iadd, 1) := by decide +kernel
theorem dX9_range_60 : decode cX9_range 60 = .ok (.putfield 178, 3) := by decide +kernel
theorem dX9_range_63 : decode cX9_range 63 = .ok (.aload_n 0, 1) := by decide +kernel
theorem dX9_range_64 : decode cX9_range 64 = .ok (.getfield 178, 3) := by decide +kernel
theorem dX9_range_67 : decode cX9_range 67 = .ok (.ireturn, 1) := by decide +kernel
theorem dX9_isPlace_0 : decode cX9_isPlace 0 = .ok (.iload_n 0, 1) := by decide +kernel
theorem dX9_isPlace_1 : decode cX9_isPlace 1 = .ok (.iconst 0, 1) := by decide +kernel
theorem dX9_isPlace_2 : decode cX9_isPlace 2 = .ok (.bipush 7, 2) := by decide +kernel
theorem dX9_isPlace_4 : decode cX9_isPlace 4 = .ok (.invokestatic 111, 3) := by decide +kernel
theorem dX9_isPlace_7 : decode cX9_isPlace 7 = .ok (.ireturn, 1) := by decide +kernel
theorem dX9_filter_0 : decode cX9_filter 0 = .ok (.iload_n 2, 1) := by decide +kernel
theorem dX9_filter_1 : decode cX9_filter 1 = .ok (.iconst 0, 1) := by decide +kernel
theorem dX9_filter_2 : decode cX9_filter 2 = .ok (.bipush 6, 2) := by decide +kernel
theorem dX9_filter_4 : decode cX9_filter 4 = .ok (.invokestatic 111, 3) := by decide +kernel
theorem dX9_filter_7 : decode cX9_filter 7 = .ok (.ifCond .ne 5, 3) := by decide +kernel
theorem dX9_filter_10 : decode cX9_filter 10 = .ok (.iconst (-1), 1) := by decide +kernel
theorem dX9_filter_11 : decode cX9_filter 11 = .ok (.ireturn, 1) := by decide +kernel
theorem dX9_filter_12 : decode cX9_filter 12 = .ok (.iload_n 1, 1) := by decide +kernel
theorem dX9_filter_13 : decode cX9_filter 13 = .ok (.invokestatic 181, 3) := by decide +kernel
theorem dX9_filter_16 : decode cX9_filter 16 = .ok (.ifCond .ne 6, 3) := by decide +kernel
theorem dX9_filter_19 : decode cX9_filter 19 = .ok (.bipush (-13), 2) := by decide +kernel
theorem dX9_filter_21 : decode cX9_filter 21 = .ok (.ireturn, 1) := by decide +kernel
theorem dX9_filter_22 : decode cX9_filter 22 = .ok (.aload_n 0, 1) := by decide +kernel
theorem dX9_filter_23 : decode cX9_filter 23 = .ok (.getfield 61, 3) := by decide +kernel
theorem dX9_filter_26 : decode cX9_filter 26 = .ok (.iload_n 1, 1) := by decide +kernel
theorem dX9_filter_27 : decode cX9_filter 27 = .ok (.iload_n 2, 1) := by decide +kernel
theorem dX9_filter_28 : decode cX9_filter 28 = .ok (.iconst 1, 1) := by decide +kernel
theorem dX9_filter_29 : decode cX9_filter 29 = .ok (.iadd, 1) := by decide +kernel
theorem dX9_filter_30 : decode cX9_filter 30 = .ok (.iastore, 1) := by decide +kernel
theorem dX9_filter_31 : decode cX9_filter 31 = .ok (.aload_n 0, 1) := by decide +kernel
theorem dX9_filter_32 : decode cX9_filter 32 = .ok (.getfield 64, 3) := by decide +kernel
theorem dX9_filter_35 : decode cX9_filter 35 = .ok (.iload_n 1, 1) := by decide +kernel
theorem dX9_filter_36 : decode cX9_filter 36 = .ok (.iconst 0, 1) := by decide +kernel
theorem dX9_filter_37 : decode cX9_filter 37 = .ok (.iastore, 1) := by decide +kernel
theorem dX9_filter_38 : decode cX9_filter 38 = .ok (.aload_n 0, 1) := by decide +kernel
theorem dX9_filter_39 : decode cX9_filter 39 = .ok (.getfield 67, 3) := by decide +kernel
theorem dX9_filter_42 : decode cX9_filter 42 = .ok (.iload_n 1, 1) := by decide +kernel
theorem dX9_filter_43 : decode cX9_filter 43 = .ok (.iconst 0, 1) := by decide +kernel
theorem dX9_filter_44 : decode cX9_filter 44 = .ok (.iastore, 1) := by decide +kernel
theorem dX9_filter_45 : decode cX9_filter 45 = .ok (.aload_n 0, 1) := by decide +kernel
theorem dX9_filter_46 : decode cX9_filter 46 = .ok (.getfield 70, 3) := by decide +kernel
theorem dX9_filter_49 : decode cX9_filter 49 = .ok (.iload_n 1, 1) := by decide +kernel
theorem dX9_filter_50 : decode cX9_filter 50 = .ok (.iconst 0, 1) := by decide +kernel
theorem dX9_filter_51 : decode cX9_filter 51 = .ok (.iastore, 1) := by decide +kernel
theorem dX9_filter_52 : decode cX9_filter 52 = .ok (.iconst 0, 1) := by decide +kernel
theorem dX9_filter_53 : decode cX9_filter 53 = .ok (.ireturn, 1) := by decide +kernel
theorem dX9_drop_0 : decode cX9_drop 0 = .ok (.iload_n 1, 1) := by decide +kernel
theorem dX9_drop_1 : decode cX9_drop 1 = .ok (.invokestatic 181, 3) := by decide +kernel
theorem dX9_drop_4 : decode cX9_drop 4 = .ok (.ifCond .ne 6, 3) := by decide +kernel
theorem dX9_drop_7 : decode cX9_drop 7 = .ok (.bipush (-13), 2) := by decide +kernel
theorem dX9_drop_9 : decode cX9_drop 9 = .ok (.ireturn, 1) := by decide +kernel
theorem dX9_drop_10 : decode cX9_drop 10 = .ok (.aload_n 0, 1) := by decide +kernel
theorem dX9_drop_11 : decode cX9_drop 11 = .ok (.getfield 61, 3) := by decide +kernel
theorem dX9_drop_14 : decode cX9_drop 14 = .ok (.iload_n 1, 1) := by decide +kernel
theorem dX9_drop_15 : decode cX9_drop 15 = .ok (.iaload, 1) := by decide +kernel
theorem dX9_drop_16 : decode cX9_drop 16 = .ok (.ifCond .le 7, 3) := by decide +kernel
theorem dX9_drop_19 : decode cX9_drop 19 = .ok (.iconst 1, 1) := by decide +kernel
theorem dX9_drop_20 : decode cX9_drop 20 = .ok (.goto 4, 3) := by decide +kernel
theorem dX9_drop_23 : decode cX9_drop 23 = .ok (.iconst 0, 1) := by decide +kernel
theorem dX9_drop_24 : decode cX9_drop 24 = .ok (.istore_n 2, 1) := by decide +kernel
theorem dX9_drop_25 : decode cX9_drop 25 = .ok (.aload_n 0, 1) := by decide +kernel
theorem dX9_drop_26 : decode cX9_drop 26 = .ok (.getfield 61, 3) := by decide +kernel
theorem dX9_drop_29 : decode cX9_drop 29 = .ok (.iload_n 1, 1) := by decide +kernel
theorem dX9_drop_30 : decode cX9_drop 30 = .ok (.iconst 0, 1) := by decide +kernel
theorem dX9_drop_31 : decode cX9_drop 31 = .ok (.iastore, 1) := by decide +kernel
theorem dX9_drop_32 : decode cX9_drop 32 = .ok (.iload_n 2, 1) := by decide +kernel
theorem dX9_drop_33 : decode cX9_drop 33 = .ok (.ireturn, 1) := by decide +kernel
theorem dX9_rule_0 : decode cX9_rule 0 = .ok (.iload_n 2, 1) := by decide +kernel
theorem dX9_rule_1 : decode cX9_rule 1 = .ok (.iconst 0, 1) := by decide +kernel
theorem dX9_rule_2 : decode cX9_rule 2 = .ok (.iconst 2, 1) := by decide +kernel
theorem dX9_rule_3 : decode cX9_rule 3 = .ok (.invokestatic 111, 3) := by decide +kernel
theorem dX9_rule_6 : decode cX9_rule 6 = .ok (.ifCond .ne 5, 3) := by decide +kernel
theorem dX9_rule_9 : decode cX9_rule 9 = .ok (.iconst (-1), 1) := by decide +kernel
theorem dX9_rule_10 : decode cX9_rule 10 = .ok (.ireturn, 1) := by decide +kernel
theorem dX9_rule_11 : decode cX9_rule 11 = .ok (.iload_n 1, 1) := by decide +kernel
theorem dX9_rule_12 : decode cX9_rule 12 = .ok (.invokestatic 181, 3) := by decide +kernel
theorem dX9_rule_15 : decode cX9_rule 15 = .ok (.ifCond .ne 6, 3) := by decide +kernel
theorem dX9_rule_18 : decode cX9_rule 18 = .ok (.bipush (-13), 2) := by decide +kernel
theorem dX9_rule_20 : decode cX9_rule 20 = .ok (.ireturn, 1) := by decide +kernel
theorem dX9_rule_21 : decode cX9_rule 21 = .ok (.aload_n 0, 1) := by decide +kernel
theorem dX9_rule_22 : decode cX9_rule 22 = .ok (.getfield 61, 3) := by decide +kernel
theorem dX9_rule_25 : decode cX9_rule 25 = .ok (.iload_n 1, 1) := by decide +kernel
theorem dX9_rule_26 : decode cX9_rule 26 = .ok (.iaload, 1) := by decide +kernel
theorem dX9_rule_27 : decode cX9_rule 27 = .ok (.bipush 6, 2) := by decide +kernel
theorem dX9_rule_29 : decode cX9_rule 29 = .ok (.if_icmp .eq 20, 3) := by decide +kernel
theorem dX9_rule_32 : decode cX9_rule 32 = .ok (.aload_n 0, 1) := by decide +kernel
theorem dX9_rule_33 : decode cX9_rule 33 = .ok (.getfield 61, 3) := by decide +kernel
theorem dX9_rule_36 : decode cX9_rule 36 = .ok (.iload_n 1, 1) := by decide +kernel
theorem dX9_rule_37 : decode cX9_rule 37 = .ok (.iaload, 1) := by decide +kernel
theorem dX9_rule_38 : decode cX9_rule 38 = .ok (.ifCond .ne 8, 3) := by decide +kernel
theorem dX9_rule_41 : decode cX9_rule 41 = .ok (.bipush (-11), 2) := by decide +kernel
theorem dX9_rule_43 : decode cX9_rule 43 = .ok (.goto 5, 3) := by decide +kernel
theorem dX9_rule_46 : decode cX9_rule 46 = .ok (.bipush (-12), 2) := by decide +kernel
theorem dX9_rule_48 : decode cX9_rule 48 = .ok (.ireturn, 1) := by decide +kernel
theorem dX9_rule_49 : decode cX9_rule 49 = .ok (.aload_n 0, 1) := by decide +kernel
theorem dX9_rule_50 : decode cX9_rule 50 = .ok (.getfield 64, 3) := by decide +kernel
theorem dX9_rule_53 : decode cX9_rule 53 = .ok (.iload_n 1, 1) := by decide +kernel
theorem dX9_rule_54 : decode cX9_rule 54 = .ok (.iaload, 1) := by decide +kernel
theorem dX9_rule_55 : decode cX9_rule 55 = .ok (.istore_n 3, 1) := by decide +kernel
theorem dX9_rule_56 : decode cX9_rule 56 = .ok (.aload_n 0, 1) := by decide +kernel
theorem dX9_rule_57 : decode cX9_rule 57 = .ok (.getfield 64, 3) := by decide +kernel
theorem dX9_rule_60 : decode cX9_rule 60 = .ok (.iload_n 1, 1) := by decide +kernel
theorem dX9_rule_61 : decode cX9_rule 61 = .ok (.iload_n 2, 1) := by decide +kernel
theorem dX9_rule_62 : decode cX9_rule 62 = .ok (.iastore, 1) := by decide +kernel
theorem dX9_rule_63 : decode cX9_rule 63 = .ok (.iload_n 3, 1) := by decide +kernel
theorem dX9_rule_64 : decode cX9_rule 64 = .ok (.ireturn, 1) := by decide +kernel
theorem dX9_lay_0 : decode cX9_lay 0 = .ok (.aload_n 0, 1) := by decide +kernel
theorem dX9_lay_1 : decode cX9_lay 1 = .ok (.getfield 184, 3) := by decide +kernel
theorem dX9_lay_4 : decode cX9_lay 4 = .ok (.sipush 300, 3) := by decide +kernel
theorem dX9_lay_7 : decode cX9_lay 7 = .ok (.if_icmp .ge 33, 3) := by decide +kernel
theorem dX9_lay_10 : decode cX9_lay 10 = .ok (.aload_n 0, 1) := by decide +kernel
theorem dX9_lay_11 : decode cX9_lay 11 = .ok (.getfield 97, 3) := by decide +kernel
theorem dX9_lay_14 : decode cX9_lay 14 = .ok (.aload_n 0, 1) := by decide +kernel
theorem dX9_lay_15 : decode cX9_lay 15 = .ok (.getfield 184, 3) := by decide +kernel
theorem dX9_lay_18 : decode cX9_lay 18 = .ok (.iload_n 1, 1) := by decide +kernel
theorem dX9_lay_19 : decode cX9_lay 19 = .ok (.iastore, 1) := by decide +kernel
theorem dX9_lay_20 : decode cX9_lay 20 = .ok (.aload_n 0, 1) := by decide +kernel
theorem dX9_lay_21 : decode cX9_lay 21 = .ok (.getfield 100, 3) := by decide +kernel
theorem dX9_lay_24 : decode cX9_lay 24 = .ok (.aload_n 0, 1) := by decide +kernel
theorem dX9_lay_25 : decode cX9_lay 25 = .ok (.getfield 184, 3) := by decide +kernel
theorem dX9_lay_28 : decode cX9_lay 28 = .ok (.iload_n 2, 1) := by decide +kernel
theorem dX9_lay_29 : decode cX9_lay 29 = .ok (.iastore, 1) := by decide +kernel
theorem dX9_lay_30 : decode cX9_lay 30 = .ok (.aload_n 0, 1) := by decide +kernel
theorem dX9_lay_31 : decode cX9_lay 31 = .ok (.getfield 103, 3) := by decide +kernel
theorem dX9_lay_34 : decode cX9_lay 34 = .ok (.aload_n 0, 1) := by decide +kernel
theorem dX9_lay_35 : decode cX9_lay 35 = .ok (.getfield 184, 3) := by decide +kernel
theorem dX9_lay_38 : decode cX9_lay 38 = .ok (.iload_n 3, 1) := by decide +kernel
theorem dX9_lay_39 : decode cX9_lay 39 = .ok (.iastore, 1) := by decide +kernel
theorem dX9_lay_40 : decode cX9_lay 40 = .ok (.aload_n 0, 1) := by decide +kernel
theorem dX9_lay_41 : decode cX9_lay 41 = .ok (.dup, 1) := by decide +kernel
theorem dX9_lay_42 : decode cX9_lay 42 = .ok (.getfield 184, 3) := by decide +kernel
theorem dX9_lay_45 : decode cX9_lay 45 = .ok (.iconst 1, 1) := by decide +kernel
theorem dX9_lay_46 : decode cX9_lay 46 = .ok (.iadd, 1) := by decide +kernel
theorem dX9_lay_47 : decode cX9_lay 47 = .ok (.putfield 184, 3) := by decide +kernel
theorem dX9_lay_50 : decode cX9_lay 50 = .ok (.return_, 1) := by decide +kernel
theorem dX9_unitsOf_0 : decode cX9_unitsOf 0 = .ok (.iload_n 0, 1) := by decide +kernel
theorem dX9_unitsOf_1 : decode cX9_unitsOf 1 = .ok (.ldc 119, 2) := by decide +kernel
theorem dX9_unitsOf_3 : decode cX9_unitsOf 3 = .ok (.if_icmp .le 7, 3) := by decide +kernel
theorem dX9_unitsOf_6 : decode cX9_unitsOf 6 = .ok (.iconst 2, 1) := by decide +kernel
theorem dX9_unitsOf_7 : decode cX9_unitsOf 7 = .ok (.goto 4, 3) := by decide +kernel
theorem dX9_unitsOf_10 : decode cX9_unitsOf 10 = .ok (.iconst 1, 1) := by decide +kernel
theorem dX9_unitsOf_11 : decode cX9_unitsOf 11 = .ok (.ireturn, 1) := by decide +kernel
theorem dX9_folding_0 : decode cX9_folding 0 = .ok (.aload_n 0, 1) := by decide +kernel
theorem dX9_folding_1 : decode cX9_folding 1 = .ok (.aload_n 0, 1) := by decide +kernel
theorem dX9_folding_2 : decode cX9_folding 2 = .ok (.getfield 88, 3) := by decide +kernel
theorem dX9_folding_5 : decode cX9_folding 5 = .ok (.iload_n 2, 1) := by decide +kernel
theorem dX9_folding_6 : decode cX9_folding 6 = .ok (.iaload, 1) := by decide +kernel
theorem dX9_folding_7 : decode cX9_folding 7 = .ok (.invokevirtual 164, 3) := by decide +kernel
theorem dX9_folding_10 : decode cX9_folding 10 = .ok (.istore_n 3, 1) := by decide +kernel
theorem dX9_folding_11 : decode cX9_folding 11 = .ok (.iload_n 3, 1) := by decide +kernel
theorem dX9_folding_12 : decode cX9_folding 12 = .ok (.ifCond .ge 26, 3) := by decide +kernel
theorem dX9_folding_15 : decode cX9_folding 15 = .ok (.aload_n 0, 1) := by decide +kernel
theorem dX9_folding_16 : decode cX9_folding 16 = .ok (.aload_n 0, 1) := by decide +kernel
theorem dX9_folding_17 : decode cX9_folding 17 = .ok (.getfield 88, 3) := by decide +kernel
theorem dX9_folding_20 : decode cX9_folding 20 = .ok (.iload_n 2, 1) := by decide +kernel
theorem dX9_folding_21 : decode cX9_folding 21 = .ok (.iaload, 1) := by decide +kernel
theorem dX9_folding_22 : decode cX9_folding 22 = .ok (.aload_n 0, 1) := by decide +kernel
theorem dX9_folding_23 : decode cX9_folding 23 = .ok (.getfield 91, 3) := by decide +kernel
theorem dX9_folding_26 : decode cX9_folding 26 = .ok (.iload_n 2, 1) := by decide +kernel
theorem dX9_folding_27 : decode cX9_folding 27 = .ok (.iaload, 1) := by decide +kernel
theorem dX9_folding_28 : decode cX9_folding 28 = .ok (.aload_n 0, 1) := by decide +kernel
theorem dX9_folding_29 : decode cX9_folding 29 = .ok (.getfield 94, 3) := by decide +kernel
theorem dX9_folding_32 : decode cX9_folding 32 = .ok (.iload_n 2, 1) := by decide +kernel
theorem dX9_folding_33 : decode cX9_folding 33 = .ok (.iaload, 1) := by decide +kernel
theorem dX9_folding_34 : decode cX9_folding 34 = .ok (.invokevirtual 187, 3) := by decide +kernel
theorem dX9_folding_37 : decode cX9_folding 37 = .ok (.return_, 1) := by decide +kernel
theorem dX9_folding_38 : decode cX9_folding 38 = .ok (.aload_n 0, 1) := by decide +kernel
theorem dX9_folding_39 : decode cX9_folding 39 = .ok (.getfield 73, 3) := by decide +kernel
theorem dX9_folding_42 : decode cX9_folding 42 = .ok (.iload_n 1, 1) := by decide +kernel
theorem dX9_folding_43 : decode cX9_folding 43 = .ok (.dup2, 1) := by decide +kernel
theorem dX9_folding_44 : decode cX9_folding 44 = .ok (.iaload, 1) := by decide +kernel
theorem dX9_folding_45 : decode cX9_folding 45 = .ok (.iconst 1, 1) := by decide +kernel
theorem dX9_folding_46 : decode cX9_folding 46 = .ok (.iadd, 1) := by decide +kernel
theorem dX9_folding_47 : decode cX9_folding 47 = .ok (.iastore, 1) := by decide +kernel
theorem dX9_folding_48 : decode cX9_folding 48 = .ok (.aload_n 0, 1) := by decide +kernel
theorem dX9_folding_49 : decode cX9_folding 49 = .ok (.getfield 76, 3) := by decide +kernel
theorem dX9_folding_52 : decode cX9_folding 52 = .ok (.iload_n 1, 1) := by decide +kernel
theorem dX9_folding_53 : decode cX9_folding 53 = .ok (.dup2, 1) := by decide +kernel
theorem dX9_folding_54 : decode cX9_folding 54 = .ok (.iaload, 1) := by decide +kernel
theorem dX9_folding_55 : decode cX9_folding 55 = .ok (.aload_n 0, 1) := by decide +kernel
theorem dX9_folding_56 : decode cX9_folding 56 = .ok (.getfield 88, 3) := by decide +kernel
theorem dX9_folding_59 : decode cX9_folding 59 = .ok (.iload_n 2, 1) := by decide +kernel
theorem dX9_folding_60 : decode cX9_folding 60 = .ok (.iaload, 1) := by decide +kernel
theorem dX9_folding_61 : decode cX9_folding 61 = .ok (.invokestatic 191, 3) := by decide +kernel
theorem dX9_folding_64 : decode cX9_folding 64 = .ok (.isub, 1) := by decide +kernel
theorem dX9_folding_65 : decode cX9_folding 65 = .ok (.iastore, 1) := by decide +kernel
theorem dX9_folding_66 : decode cX9_folding 66 = .ok (.iconst 0, 1) := by decide +kernel
theorem dX9_folding_67 : decode cX9_folding 67 = .ok (.istore 4, 2) := by decide +kernel
theorem dX9_folding_69 : decode cX9_folding 69 = .ok (.iload 4, 2) := by decide +kernel
theorem dX9_folding_71 : decode cX9_folding 71 = .ok (.aload_n 0, 1) := by decide +kernel
theorem dX9_folding_72 : decode cX9_folding 72 = .ok (.getfield 25, 3) := by decide +kernel
theorem dX9_folding_75 : decode cX9_folding 75 = .ok (.iload_n 3, 1) := by decide +kernel
theorem dX9_folding_76 : decode cX9_folding 76 = .ok (.iaload, 1) := by decide +kernel
theorem dX9_folding_77 : decode cX9_folding 77 = .ok (.if_icmp .ge 59, 3) := by decide +kernel
theorem dX9_folding_80 : decode cX9_folding 80 = .ok (.aload_n 0, 1) := by decide +kernel
theorem dX9_folding_81 : decode cX9_folding 81 = .ok (.aload_n 0, 1) := by decide +kernel
theorem dX9_folding_82 : decode cX9_folding 82 = .ok (.getfield 28, 3) := by decide +kernel
theorem dX9_folding_85 : decode cX9_folding 85 = .ok (.iconst 3, 1) := by decide +kernel
theorem dX9_folding_86 : decode cX9_folding 86 = .ok (.iload_n 3, 1) := by decide +kernel
theorem dX9_folding_87 : decode cX9_folding 87 = .ok (.imul, 1) := by decide +kernel
theorem dX9_folding_88 : decode cX9_folding 88 = .ok (.iload 4, 2) := by decide +kernel
theorem dX9_folding_90 : decode cX9_folding 90 = .ok (.iadd, 1) := by decide +kernel
theorem dX9_folding_91 : decode cX9_folding 91 = .ok (.iaload, 1) := by decide +kernel
theorem dX9_folding_92 : decode cX9_folding 92 = .ok (.aload_n 0, 1) := by decide +kernel
theorem dX9_folding_93 : decode cX9_folding 93 = .ok (.getfield 91, 3) := by decide +kernel
