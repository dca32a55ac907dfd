theorem tw_0 : Cond.initialized RL ∈ TB := tb_t 0 (by decide +kernel) rfl
theorem tw_1 : Cond.initialized RX8 ∈ TB := tb_t 1 (by decide +kernel) rfl
theorem tw_2 : Cond.initialized RX1 ∈ TB := tb_t 2 (by decide +kernel) rfl
theorem tw_3 : Cond.initialized RX2 ∈ TB := tb_t 3 (by decide +kernel) rfl
theorem tw_4 : Cond.initialized RX7 ∈ TB := tb_t 4 (by decide +kernel) rfl
theorem tw_5 : Cond.initialized RX3 ∈ TB := tb_t 5 (by decide +kernel) rfl
theorem tw_6 : Cond.initialized RX6 ∈ TB := tb_t 6 (by decide +kernel) rfl
theorem tw_7 : Cond.initialized RX5 ∈ TB := tb_t 7 (by decide +kernel) rfl
theorem tw_8 : Cond.initialized RX9 ∈ TB := tb_t 8 (by decide +kernel) rfl
theorem tw_9 : Cond.initialized RX4 ∈ TB := tb_t 9 (by decide +kernel) rfl
theorem tw_10 : Cond.initialized RJ7 ∈ TB := tb_t 10 (by decide +kernel) rfl
theorem tw_11 : Cond.initialized RJ9 ∈ TB := tb_t 11 (by decide +kernel) rfl
theorem tw_12 : Cond.initialized RJ10 ∈ TB := tb_t 12 (by decide +kernel) rfl
theorem tw_13 : Cond.initialized RX0 ∈ TB := tb_t 13 (by decide +kernel) rfl
theorem tw_14 : Cond.classLink RL 7 RX8 ∈ TB := tb_t 14 (by decide +kernel) rfl
theorem tw_15 : Cond.instantiable RX8 13 ∈ TB := tb_t 15 (by decide +kernel) rfl
theorem tw_16 : Cond.methodLink RL 9 yX8_init ∈ TB := tb_t 16 (by decide +kernel) rfl
theorem tw_17 : Cond.instanceMethod yX8_init ∈ TB := tb_t 17 (by decide +kernel) rfl
set_option maxRecDepth 100000 in
theorem tw_18 : Cond.code yX8_init cX8_init 1 (Option.none : Option Jvm.ClassFile.FieldType) ∈ TB := tb_t 18 rfl rfl
theorem tw_19 : Cond.methodLink RX8 1 (⟨"java/lang/Object", "<init>", "()V"⟩ : MethodName) ∈ TB := tb_t 19 (by decide +kernel) rfl
theorem tw_20 : Cond.instanceMethod (⟨"java/lang/Object", "<init>", "()V"⟩ : MethodName) ∈ TB := tb_t 20 (by decide +kernel) rfl
set_option maxRecDepth 100000 in
theorem tw_21 : Cond.code (⟨"java/lang/Object", "<init>", "()V"⟩ : MethodName) object_method_1_code 1 (Option.none : Option Jvm.ClassFile.FieldType) ∈ TB := tb_t 21 rfl rfl
theorem tw_22 : Cond.classLink RX8 20 RX1 ∈ TB := tb_t 22 (by decide +kernel) rfl
theorem tw_23 : Cond.instantiable RX1 5 ∈ TB := tb_t 23 (by decide +kernel) rfl
theorem tw_24 : Cond.instanceMethod yX1_init ∈ TB := tb_t 25 (by decide +kernel) rfl
set_option maxRecDepth 100000 in
theorem tw_25 : Cond.code yX1_init cX1_init 1 (Option.none : Option Jvm.ClassFile.FieldType) ∈ TB := tb_t 26 rfl rfl
theorem tw_26 : Cond.methodLink RX1 3 (⟨"java/lang/Object", "<init>", "()V"⟩ : MethodName) ∈ TB := tb_t 27 (by decide +kernel) rfl
theorem tw_27 : Cond.fieldLink RX1 9 "SignTables$FoldTable" "signs" "[I" ∈ TB := tb_t 28 (by decide +kernel) rfl
theorem tw_28 : Cond.fieldLink RX1 15 "SignTables$FoldTable" "firsts" "[I" ∈ TB := tb_t 29 (by decide +kernel) rfl
theorem tw_29 : Cond.fieldLink RX1 18 "SignTables$FoldTable" "seconds" "[I" ∈ TB := tb_t 30 (by decide +kernel) rfl
theorem tw_30 : Cond.fieldLink RX1 21 "SignTables$FoldTable" "thirds" "[I" ∈ TB := tb_t 31 (by decide +kernel) rfl
theorem tw_31 : Cond.fieldLink RX1 24 "SignTables$FoldTable" "size" "I" ∈ TB := tb_t 32 (by decide +kernel) rfl
theorem tw_32 : Cond.laysFinal RX1 "SignTables$FoldTable" "signs" "[I" ∈ TB := tb_t 33 (by decide +kernel) rfl
theorem tw_33 : Cond.laysFinal RX1 "SignTables$FoldTable" "firsts" "[I" ∈ TB := tb_t 35 (by decide +kernel) rfl
theorem tw_34 : Cond.laysFinal RX1 "SignTables$FoldTable" "seconds" "[I" ∈ TB := tb_t 37 (by decide +kernel) rfl
theorem tw_35 : Cond.laysFinal RX1 "SignTables$FoldTable" "thirds" "[I" ∈ TB := tb_t 39 (by decide +kernel) rfl
theorem tw_36 : Cond.lays RX1 "SignTables$FoldTable" "size" "I" ∈ TB := tb_t 41 (by decide +kernel) rfl
theorem tw_37 : Cond.arrayClass .int ∈ TB := tb_t 44 (by decide +kernel) rfl
theorem tw_38 : Cond.classLink RX8 27 RX2 ∈ TB := tb_t 45 (by decide +kernel) rfl
theorem tw_39 : Cond.instantiable RX2 4 ∈ TB := tb_t 46 (by decide +kernel) rfl
theorem tw_40 : Cond.instanceMethod yX2_init ∈ TB := tb_t 48 (by decide +kernel) rfl
set_option maxRecDepth 100000 in
theorem tw_41 : Cond.code yX2_init cX2_init 1 (Option.none : Option Jvm.ClassFile.FieldType) ∈ TB := tb_t 49 rfl rfl
theorem tw_42 : Cond.methodLink RX2 3 (⟨"java/lang/Object", "<init>", "()V"⟩ : MethodName) ∈ TB := tb_t 50 (by decide +kernel) rfl
theorem tw_43 : Cond.fieldLink RX2 9 "SignTables$PairTable" "firsts" "[I" ∈ TB := tb_t 51 (by decide +kernel) rfl
theorem tw_44 : Cond.fieldLink RX2 15 "SignTables$PairTable" "seconds" "[I" ∈ TB := tb_t 52 (by decide +kernel) rfl
theorem tw_45 : Cond.fieldLink RX2 18 "SignTables$PairTable" "signs" "[I" ∈ TB := tb_t 53 (by decide +kernel) rfl
theorem tw_46 : Cond.fieldLink RX2 21 "SignTables$PairTable" "size" "I" ∈ TB := tb_t 54 (by decide +kernel) rfl
theorem tw_47 : Cond.laysFinal RX2 "SignTables$PairTable" "firsts" "[I" ∈ TB := tb_t 55 (by decide +kernel) rfl
theorem tw_48 : Cond.laysFinal RX2 "SignTables$PairTable" "seconds" "[I" ∈ TB := tb_t 57 (by decide +kernel) rfl
theorem tw_49 : Cond.laysFinal RX2 "SignTables$PairTable" "signs" "[I" ∈ TB := tb_t 59 (by decide +kernel) rfl
theorem tw_50 : Cond.lays RX2 "SignTables$PairTable" "size" "I" ∈ TB := tb_t 61 (by decide +kernel) rfl
theorem tw_51 : Cond.classLink RX8 34 RX7 ∈ TB := tb_t 64 (by decide +kernel) rfl
theorem tw_52 : Cond.instantiable RX7 2 ∈ TB := tb_t 65 (by decide +kernel) rfl
theorem tw_53 : Cond.instanceMethod yX7_init ∈ TB := tb_t 67 (by decide +kernel) rfl
set_option maxRecDepth 100000 in
theorem tw_54 : Cond.code yX7_init cX7_init 1 (Option.none : Option Jvm.ClassFile.FieldType) ∈ TB := tb_t 68 rfl rfl
theorem tw_55 : Cond.methodLink RX7 3 (⟨"java/lang/Object", "<init>", "()V"⟩ : MethodName) ∈ TB := tb_t 69 (by decide +kernel) rfl
theorem tw_56 : Cond.fieldLink RX7 9 "SignTables$ZeroTable" "signs" "[I" ∈ TB := tb_t 70 (by decide +kernel) rfl
theorem tw_57 : Cond.fieldLink RX7 15 "SignTables$ZeroTable" "size" "I" ∈ TB := tb_t 71 (by decide +kernel) rfl
theorem tw_58 : Cond.laysFinal RX7 "SignTables$ZeroTable" "signs" "[I" ∈ TB := tb_t 72 (by decide +kernel) rfl
theorem tw_59 : Cond.lays RX7 "SignTables$ZeroTable" "size" "I" ∈ TB := tb_t 74 (by decide +kernel) rfl
theorem tw_60 : Cond.classLink RX8 41 RX3 ∈ TB := tb_t 77 (by decide +kernel) rfl
theorem tw_61 : Cond.instantiable RX3 3 ∈ TB := tb_t 78 (by decide +kernel) rfl
theorem tw_62 : Cond.instanceMethod yX3_init ∈ TB := tb_t 80 (by decide +kernel) rfl
set_option maxRecDepth 100000 in
theorem tw_63 : Cond.code yX3_init cX3_init 1 (Option.none : Option Jvm.ClassFile.FieldType) ∈ TB := tb_t 81 rfl rfl
theorem tw_64 : Cond.methodLink RX3 3 (⟨"java/lang/Object", "<init>", "()V"⟩ : MethodName) ∈ TB := tb_t 82 (by decide +kernel) rfl
theorem tw_65 : Cond.fieldLink RX3 9 "SignTables$RangeTable" "firsts" "[I" ∈ TB := tb_t 83 (by decide +kernel) rfl
theorem tw_66 : Cond.fieldLink RX3 15 "SignTables$RangeTable" "lasts" "[I" ∈ TB := tb_t 84 (by decide +kernel) rfl
theorem tw_67 : Cond.fieldLink RX3 18 "SignTables$RangeTable" "size" "I" ∈ TB := tb_t 85 (by decide +kernel) rfl
theorem tw_68 : Cond.laysFinal RX3 "SignTables$RangeTable" "firsts" "[I" ∈ TB := tb_t 86 (by decide +kernel) rfl
theorem tw_69 : Cond.laysFinal RX3 "SignTables$RangeTable" "lasts" "[I" ∈ TB := tb_t 88 (by decide +kernel) rfl
theorem tw_70 : Cond.lays RX3 "SignTables$RangeTable" "size" "I" ∈ TB := tb_t 90 (by decide +kernel) rfl
theorem tw_71 : Cond.classLink RX8 48 RX6 ∈ TB := tb_t 93 (by decide +kernel) rfl
theorem tw_72 : Cond.instantiable RX6 2 ∈ TB := tb_t 94 (by decide +kernel) rfl
theorem tw_73 : Cond.instanceMethod yX6_init ∈ TB := tb_t 96 (by decide +kernel) rfl
set_option maxRecDepth 100000 in
theorem tw_74 : Cond.code yX6_init cX6_init 1 (Option.none : Option Jvm.ClassFile.FieldType) ∈ TB := tb_t 97 rfl rfl
theorem tw_75 : Cond.methodLink RX6 3 (⟨"java/lang/Object", "<init>", "()V"⟩ : MethodName) ∈ TB := tb_t 98 (by decide +kernel) rfl
theorem tw_76 : Cond.classLink RX6 9 RX4 ∈ TB := tb_t 99 (by decide +kernel) rfl
theorem tw_77 : Cond.fieldLink RX6 11 "SignTables$StringTable" "replacements" "[LSignTables$Replacement;" ∈ TB := tb_t 101 (by decide +kernel) rfl
theorem tw_78 : Cond.fieldLink RX6 17 "SignTables$StringTable" "size" "I" ∈ TB := tb_t 102 (by decide +kernel) rfl
theorem tw_79 : Cond.laysFinal RX6 "SignTables$StringTable" "replacements" "[LSignTables$Replacement;" ∈ TB := tb_t 103 (by decide +kernel) rfl
theorem tw_80 : Cond.lays RX6 "SignTables$StringTable" "size" "I" ∈ TB := tb_t 105 (by decide +kernel) rfl
theorem tw_81 : Cond.classLink RX8 55 RX0 ∈ TB := tb_t 108 (by decide +kernel) rfl
theorem tw_82 : Cond.classLink RX8 61 RX5 ∈ TB := tb_t 110 (by decide +kernel) rfl
theorem tw_83 : Cond.instantiable RX5 4 ∈ TB := tb_t 111 (by decide +kernel) rfl
theorem tw_84 : Cond.instanceMethod yX5_init ∈ TB := tb_t 113 (by decide +kernel) rfl
set_option maxRecDepth 100000 in
theorem tw_85 : Cond.code yX5_init cX5_init 1 (Option.none : Option Jvm.ClassFile.FieldType) ∈ TB := tb_t 114 rfl rfl
theorem tw_86 : Cond.methodLink RX5 3 (⟨"java/lang/Object", "<init>", "()V"⟩ : MethodName) ∈ TB := tb_t 115 (by decide +kernel) rfl
theorem tw_87 : Cond.fieldLink RX5 9 "SignTables$SignRow" "signs" "[I" ∈ TB := tb_t 116 (by decide +kernel) rfl
theorem tw_88 : Cond.fieldLink RX5 15 "SignTables$SignRow" "begins" "[I" ∈ TB := tb_t 117 (by decide +kernel) rfl
theorem tw_89 : Cond.fieldLink RX5 18 "SignTables$SignRow" "ends" "[I" ∈ TB := tb_t 118 (by decide +kernel) rfl
theorem tw_90 : Cond.fieldLink RX5 21 "SignTables$SignRow" "size" "I" ∈ TB := tb_t 119 (by decide +kernel) rfl
theorem tw_91 : Cond.laysFinal RX5 "SignTables$SignRow" "signs" "[I" ∈ TB := tb_t 120 (by decide +kernel) rfl
theorem tw_92 : Cond.laysFinal RX5 "SignTables$SignRow" "begins" "[I" ∈ TB := tb_t 122 (by decide +kernel) rfl
theorem tw_93 : Cond.laysFinal RX5 "SignTables$SignRow" "ends" "[I" ∈ TB := tb_t 124 (by decide +kernel) rfl
theorem tw_94 : Cond.lays RX5 "SignTables$SignRow" "size" "I" ∈ TB := tb_t 126 (by decide +kernel) rfl
theorem tw_95 : Cond.fieldLink RX8 9 "SignTables" "draft" "[I" ∈ TB := tb_t 129 (by decide +kernel) rfl
theorem tw_96 : Cond.fieldLink RX8 13 "SignTables" "draftSize" "I" ∈ TB := tb_t 130 (by decide +kernel) rfl
theorem tw_97 : Cond.fieldLink RX8 17 "SignTables" "markAt" "I" ∈ TB := tb_t 131 (by decide +kernel) rfl
theorem tw_98 : Cond.fieldLink RX8 23 "SignTables" "folds" "LSignTables$FoldTable;" ∈ TB := tb_t 132 (by decide +kernel) rfl
theorem tw_99 : Cond.fieldLink RX8 30 "SignTables" "pairs" "LSignTables$PairTable;" ∈ TB := tb_t 133 (by decide +kernel) rfl
theorem tw_100 : Cond.fieldLink RX8 37 "SignTables" "zeros" "LSignTables$ZeroTable;" ∈ TB := tb_t 134 (by decide +kernel) rfl
theorem tw_101 : Cond.fieldLink RX8 44 "SignTables" "ranges" "LSignTables$RangeTable;" ∈ TB := tb_t 135 (by decide +kernel) rfl
theorem tw_102 : Cond.fieldLink RX8 51 "SignTables" "strings" "LSignTables$StringTable;" ∈ TB := tb_t 136 (by decide +kernel) rfl
theorem tw_103 : Cond.fieldLink RX8 57 "SignTables" "chain" "[LSignTables$Filter;" ∈ TB := tb_t 137 (by decide +kernel) rfl
theorem tw_104 : Cond.fieldLink RX8 64 "SignTables" "source" "LSignTables$SignRow;" ∈ TB := tb_t 138 (by decide +kernel) rfl
theorem tw_105 : Cond.fieldLink RX8 68 "SignTables" "latest" "LSignTables$SignRow;" ∈ TB := tb_t 139 (by decide +kernel) rfl
theorem tw_106 : Cond.fieldLink RX8 71 "SignTables" "spareOne" "LSignTables$SignRow;" ∈ TB := tb_t 140 (by decide +kernel) rfl
theorem tw_107 : Cond.fieldLink RX8 74 "SignTables" "spareTwo" "LSignTables$SignRow;" ∈ TB := tb_t 141 (by decide +kernel) rfl
theorem tw_108 : Cond.laysFinal RX8 "SignTables" "draft" "[I" ∈ TB := tb_t 142 (by decide +kernel) rfl
theorem tw_109 : Cond.lays RX8 "SignTables" "draftSize" "I" ∈ TB := tb_t 144 (by decide +kernel) rfl
theorem tw_110 : Cond.lays RX8 "SignTables" "markAt" "I" ∈ TB := tb_t 146 (by decide +kernel) rfl
theorem tw_111 : Cond.laysFinal RX8 "SignTables" "folds" "LSignTables$FoldTable;" ∈ TB := tb_t 148 (by decide +kernel) rfl
theorem tw_112 : Cond.laysFinal RX8 "SignTables" "pairs" "LSignTables$PairTable;" ∈ TB := tb_t 150 (by decide +kernel) rfl
theorem tw_113 : Cond.laysFinal RX8 "SignTables" "zeros" "LSignTables$ZeroTable;" ∈ TB := tb_t 152 (by decide +kernel) rfl
theorem tw_114 : Cond.laysFinal RX8 "SignTables" "ranges" "LSignTables$RangeTable;" ∈ TB := tb_t 154 (by decide +kernel) rfl
theorem tw_115 : Cond.laysFinal RX8 "SignTables" "strings" "LSignTables$StringTable;" ∈ TB := tb_t 156 (by decide +kernel) rfl
theorem tw_116 : Cond.laysFinal RX8 "SignTables" "chain" "[LSignTables$Filter;" ∈ TB := tb_t 158 (by decide +kernel) rfl
theorem tw_117 : Cond.laysFinal RX8 "SignTables" "source" "LSignTables$SignRow;" ∈ TB := tb_t 160 (by decide +kernel) rfl
theorem tw_118 : Cond.lays RX8 "SignTables" "latest" "LSignTables$SignRow;" ∈ TB := tb_t 162 (by decide +kernel) rfl
theorem tw_119 : Cond.lays RX8 "SignTables" "spareOne" "LSignTables$SignRow;" ∈ TB := tb_t 164 (by decide +kernel) rfl
theorem tw_120 : Cond.lays RX8 "SignTables" "spareTwo" "LSignTables$SignRow;" ∈ TB := tb_t 166 (by decide +kernel) rfl
theorem tw_121 : Cond.methodLink RL 13 yX8_unit ∈ TB := tb_t 169 (by decide +kernel) rfl
theorem tw_122 : Cond.instanceMethod yX8_unit ∈ TB := tb_t 170 (by decide +kernel) rfl
theorem tw_123 : Cond.selects RX8 yX8_unit yX8_unit ∈ TB := tb_t 171 (by decide +kernel) rfl
set_option maxRecDepth 100000 in
theorem tw_124 : Cond.code yX8_unit cX8_unit 2 (Option.some Jvm.ClassFile.FieldType.int) ∈ TB := tb_t 172 rfl rfl
theorem tw_125 : Cond.constant RX8 77 (65535) ∈ TB := tb_t 173 (by decide +kernel) rfl
theorem tw_126 : Cond.methodLink RL 18 yX8_mark ∈ TB := tb_t 174 (by decide +kernel) rfl
theorem tw_127 : Cond.instanceMethod yX8_mark ∈ TB := tb_t 175 (by decide +kernel) rfl
theorem tw_128 : Cond.selects RX8 yX8_mark yX8_mark ∈ TB := tb_t 176 (by decide +kernel) rfl
set_option maxRecDepth 100000 in
theorem tw_129 : Cond.code yX8_mark cX8_mark 1 (Option.some Jvm.ClassFile.FieldType.int) ∈ TB := tb_t 177 rfl rfl
theorem tw_130 : Cond.methodLink RL 23 yX8_text ∈ TB := tb_t 178 (by decide +kernel) rfl
theorem tw_131 : Cond.instanceMethod yX8_text ∈ TB := tb_t 179 (by decide +kernel) rfl
theorem tw_132 : Cond.selects RX8 yX8_text yX8_text ∈ TB := tb_t 180 (by decide +kernel) rfl
set_option maxRecDepth 100000 in
theorem tw_133 : Cond.code yX8_text cX8_text 1 (Option.some Jvm.ClassFile.FieldType.int) ∈ TB := tb_t 181 rfl rfl
theorem tw_134 : Cond.methodLink RX8 78 yX8_readSigns ∈ TB := tb_t 182 (by decide +kernel) rfl
theorem tw_135 : Cond.instanceMethod yX8_readSigns ∈ TB := tb_t 184 (by decide +kernel) rfl
set_option maxRecDepth 100000 in
theorem tw_136 : Cond.code yX8_readSigns cX8_readSigns 7 (Option.none : Option Jvm.ClassFile.FieldType) ∈ TB := tb_t 185 rfl rfl
theorem tw_137 : Cond.methodLink RX8 190 yX5_clear ∈ TB := tb_t 186 (by decide +kernel) rfl
theorem tw_138 : Cond.instanceMethod yX5_clear ∈ TB := tb_t 187 (by decide +kernel) rfl
theorem tw_139 : Cond.selects RX5 yX5_clear yX5_clear ∈ TB := tb_t 188 (by decide +kernel) rfl
set_option maxRecDepth 100000 in
theorem tw_140 : Cond.code yX5_clear cX5_clear 1 (Option.none : Option Jvm.ClassFile.FieldType) ∈ TB := tb_t 189 rfl rfl
theorem tw_141 : Cond.methodLink RX8 193 yX8_isHigh ∈ TB := tb_t 190 (by decide +kernel) rfl
theorem tw_142 : Cond.static yX8_isHigh ∈ TB := tb_t 191 (by decide +kernel) rfl
set_option maxRecDepth 100000 in
theorem tw_143 : Cond.code yX8_isHigh cX8_isHigh 1 (Option.some Jvm.ClassFile.FieldType.boolean) ∈ TB := tb_t 192 rfl rfl
theorem tw_144 : Cond.constant RX8 183 (55296) ∈ TB := tb_t 193 (by decide +kernel) rfl
theorem tw_145 : Cond.constant RX8 184 (56320) ∈ TB := tb_t 194 (by decide +kernel) rfl
theorem tw_146 : Cond.methodLink RX8 196 yX8_isLow ∈ TB := tb_t 195 (by decide +kernel) rfl
theorem tw_147 : Cond.static yX8_isLow ∈ TB := tb_t 196 (by decide +kernel) rfl
set_option maxRecDepth 100000 in
theorem tw_148 : Cond.code yX8_isLow cX8_isLow 1 (Option.some Jvm.ClassFile.FieldType.boolean) ∈ TB := tb_t 197 rfl rfl
theorem tw_149 : Cond.constant RX8 185 (57343) ∈ TB := tb_t 198 (by decide +kernel) rfl
theorem tw_150 : Cond.constant RX8 186 (65536) ∈ TB := tb_t 199 (by decide +kernel) rfl
theorem tw_151 : Cond.methodLink RX8 199 yX5_add ∈ TB := tb_t 200 (by decide +kernel) rfl
theorem tw_152 : Cond.instanceMethod yX5_add ∈ TB := tb_t 201 (by decide +kernel) rfl
theorem tw_153 : Cond.selects RX5 yX5_add yX5_add ∈ TB := tb_t 202 (by decide +kernel) rfl
set_option maxRecDepth 100000 in
theorem tw_154 : Cond.code yX5_add cX5_add 4 (Option.some Jvm.ClassFile.FieldType.boolean) ∈ TB := tb_t 203 rfl rfl
theorem tw_155 : Cond.methodLink RX8 82 yX8_emptyDraft ∈ TB := tb_t 204 (by decide +kernel) rfl
theorem tw_156 : Cond.instanceMethod yX8_emptyDraft ∈ TB := tb_t 206 (by decide +kernel) rfl
set_option maxRecDepth 100000 in
theorem tw_157 : Cond.code yX8_emptyDraft cX8_emptyDraft 1 (Option.none : Option Jvm.ClassFile.FieldType) ∈ TB := tb_t 207 rfl rfl
theorem tw_158 : Cond.methodLink RX8 85 yX5_size ∈ TB := tb_t 208 (by decide +kernel) rfl
theorem tw_159 : Cond.instanceMethod yX5_size ∈ TB := tb_t 209 (by decide +kernel) rfl
theorem tw_160 : Cond.selects RX5 yX5_size yX5_size ∈ TB := tb_t 210 (by decide +kernel) rfl
set_option maxRecDepth 100000 in
theorem tw_161 : Cond.code yX5_size cX5_size 1 (Option.some Jvm.ClassFile.FieldType.int) ∈ TB := tb_t 211 rfl rfl
theorem tw_162 : Cond.methodLink RL 27 yX8_string ∈ TB := tb_t 212 (by decide +kernel) rfl
theorem tw_163 : Cond.instanceMethod yX8_string ∈ TB := tb_t 213 (by decide +kernel) rfl
theorem tw_164 : Cond.selects RX8 yX8_string yX8_string ∈ TB := tb_t 214 (by decide +kernel) rfl
set_option maxRecDepth 100000 in
theorem tw_165 : Cond.code yX8_string cX8_string 1 (Option.some Jvm.ClassFile.FieldType.int) ∈ TB := tb_t 215 rfl rfl
theorem tw_166 : Cond.methodLink RX8 89 yX6_put ∈ TB := tb_t 216 (by decide +kernel) rfl
theorem tw_167 : Cond.instanceMethod yX6_put ∈ TB := tb_t 217 (by decide +kernel) rfl
theorem tw_168 : Cond.selects RX6 yX6_put yX6_put ∈ TB := tb_t 218 (by decide +kernel) rfl
set_option maxRecDepth 100000 in
theorem tw_169 : Cond.code yX6_put cX6_put 4 (Option.some Jvm.ClassFile.FieldType.boolean) ∈ TB := tb_t 219 rfl rfl
theorem tw_170 : Cond.methodLink RX6 21 yX6_slotOf ∈ TB := tb_t 220 (by decide +kernel) rfl
theorem tw_171 : Cond.instanceMethod yX6_slotOf ∈ TB := tb_t 222 (by decide +kernel) rfl
set_option maxRecDepth 100000 in
theorem tw_172 : Cond.code yX6_slotOf cX6_slotOf 4 (Option.some Jvm.ClassFile.FieldType.int) ∈ TB := tb_t 223 rfl rfl
theorem tw_173 : Cond.methodLink RX6 28 yX4_length ∈ TB := tb_t 224 (by decide +kernel) rfl
theorem tw_174 : Cond.instanceMethod yX4_length ∈ TB := tb_t 225 (by decide +kernel) rfl
theorem tw_175 : Cond.selects RX4 yX4_length yX4_length ∈ TB := tb_t 226 (by decide +kernel) rfl
set_option maxRecDepth 100000 in
theorem tw_176 : Cond.code yX4_length cX4_length 1 (Option.some Jvm.ClassFile.FieldType.int) ∈ TB := tb_t 227 rfl rfl
theorem tw_177 : Cond.methodLink RX6 32 yX5_size ∈ TB := tb_t 228 (by decide +kernel) rfl
theorem tw_178 : Cond.methodLink RX6 36 yX4_standsAt ∈ TB := tb_t 229 (by decide +kernel) rfl
theorem tw_179 : Cond.instanceMethod yX4_standsAt ∈ TB := tb_t 230 (by decide +kernel) rfl
theorem tw_180 : Cond.selects RX4 yX4_standsAt yX4_standsAt ∈ TB := tb_t 231 (by decide +kernel) rfl
set_option maxRecDepth 100000 in
theorem tw_181 : Cond.code yX4_standsAt cX4_standsAt 4 (Option.some Jvm.ClassFile.FieldType.boolean) ∈ TB := tb_t 232 rfl rfl
theorem tw_182 : Cond.methodLink RX4 22 yX5_size ∈ TB := tb_t 233 (by decide +kernel) rfl
theorem tw_183 : Cond.methodLink RX4 26 yX5_signAt ∈ TB := tb_t 234 (by decide +kernel) rfl
theorem tw_184 : Cond.instanceMethod yX5_signAt ∈ TB := tb_t 235 (by decide +kernel) rfl
theorem tw_185 : Cond.selects RX5 yX5_signAt yX5_signAt ∈ TB := tb_t 236 (by decide +kernel) rfl
set_option maxRecDepth 100000 in
theorem tw_186 : Cond.code yX5_signAt cX5_signAt 2 (Option.some Jvm.ClassFile.FieldType.int) ∈ TB := tb_t 237 rfl rfl
theorem tw_187 : Cond.methodLink RX5 25 yX5_has ∈ TB := tb_t 238 (by decide +kernel) rfl
theorem tw_188 : Cond.instanceMethod yX5_has ∈ TB := tb_t 239 (by decide +kernel) rfl
theorem tw_189 : Cond.selects RX5 yX5_has yX5_has ∈ TB := tb_t 240 (by decide +kernel) rfl
set_option maxRecDepth 100000 in
theorem tw_190 : Cond.code yX5_has cX5_has 2 (Option.some Jvm.ClassFile.FieldType.boolean) ∈ TB := tb_t 241 rfl rfl
theorem tw_191 : Cond.instantiable RX4 2 ∈ TB := tb_t 242 (by decide +kernel) rfl
theorem tw_192 : Cond.methodLink RX6 25 yX4_init ∈ TB := tb_t 243 (by decide +kernel) rfl
theorem tw_193 : Cond.instanceMethod yX4_init ∈ TB := tb_t 244 (by decide +kernel) rfl
set_option maxRecDepth 100000 in
theorem tw_194 : Cond.code yX4_init cX4_init 3 (Option.none : Option Jvm.ClassFile.FieldType) ∈ TB := tb_t 245 rfl rfl
theorem tw_195 : Cond.methodLink RX4 1 (⟨"java/lang/Object", "<init>", "()V"⟩ : MethodName) ∈ TB := tb_t 246 (by decide +kernel) rfl
theorem tw_196 : Cond.methodLink RX4 7 yX5_signsAlone ∈ TB := tb_t 247 (by decide +kernel) rfl
theorem tw_197 : Cond.instanceMethod yX5_signsAlone ∈ TB := tb_t 248 (by decide +kernel) rfl
theorem tw_198 : Cond.selects RX5 yX5_signsAlone yX5_signsAlone ∈ TB := tb_t 249 (by decide +kernel) rfl
set_option maxRecDepth 100000 in
theorem tw_199 : Cond.code yX5_signsAlone cX5_signsAlone 1 (Option.some (Jvm.ClassFile.FieldType.array Jvm.ClassFile.FieldType.int)) ∈ TB := tb_t 250 rfl rfl
theorem tw_200 : Cond.methodLink RX5 49 yJ7_copyOf_59c91 ∈ TB := tb_t 251 (by decide +kernel) rfl
theorem tw_201 : Cond.static yJ7_copyOf_59c91 ∈ TB := tb_t 252 (by decide +kernel) rfl
set_option maxRecDepth 100000 in
theorem tw_202 : Cond.code yJ7_copyOf_59c91 cJ7_copyOf_59c91 3 (Option.some (Jvm.ClassFile.FieldType.array Jvm.ClassFile.FieldType.int)) ∈ TB := tb_t 253 rfl rfl
theorem tw_203 : Cond.methodLink RJ7 316 (⟨"[I", "clone", "()Ljava/lang/Object;"⟩ : MethodName) ∈ TB := tb_t 254 (by decide +kernel) rfl
theorem tw_204 : Cond.native (⟨"java/lang/Object", "clone", "()Ljava/lang/Object;"⟩ : MethodName) ∈ TB := tb_t 256 (by decide +kernel) rfl
theorem tw_205 : Cond.instanceMethod (⟨"java/lang/Object", "clone", "()Ljava/lang/Object;"⟩ : MethodName) ∈ TB := tb_t 257 (by decide +kernel) rfl
theorem tw_206 : Cond.classLink RJ7 317 "[I" ∈ TB := tb_t 260 (by decide +kernel) rfl
theorem tw_207 : Cond.methodLink RJ7 304 yJ9_min_7cf53 ∈ TB := tb_t 261 (by decide +kernel) rfl
theorem tw_208 : Cond.static yJ9_min_7cf53 ∈ TB := tb_t 262 (by decide +kernel) rfl
set_option maxRecDepth 100000 in
theorem tw_209 : Cond.code yJ9_min_7cf53 cJ9_min_7cf53 2 (Option.some Jvm.ClassFile.FieldType.int) ∈ TB := tb_t 263 rfl rfl
theorem tw_210 : Cond.methodLink RJ7 150 (⟨"java/lang/System", "arraycopy", "(Ljava/lang/Object;ILjava/lang/Object;II)V"⟩ : MethodName) ∈ TB := tb_t 264 (by decide +kernel) rfl
theorem tw_211 : Cond.static (⟨"java/lang/System", "arraycopy", "(Ljava/lang/Object;ILjava/lang/Object;II)V"⟩ : MethodName) ∈ TB := tb_t 265 (by decide +kernel) rfl
theorem tw_212 : Cond.native (⟨"java/lang/System", "arraycopy", "(Ljava/lang/Object;ILjava/lang/Object;II)V"⟩ : MethodName) ∈ TB := tb_t 266 (by decide +kernel) rfl
theorem tw_213 : Cond.fieldLink RX4 13 "SignTables$Replacement" "before" "[I" ∈ TB := tb_t 267 (by decide +kernel) rfl
theorem tw_214 : Cond.fieldLink RX4 19 "SignTables$Replacement" "after" "[I" ∈ TB := tb_t 268 (by decide +kernel) rfl
theorem tw_215 : Cond.laysFinal RX4 "SignTables$Replacement" "before" "[I" ∈ TB := tb_t 269 (by decide +kernel) rfl
theorem tw_216 : Cond.laysFinal RX4 "SignTables$Replacement" "after" "[I" ∈ TB := tb_t 271 (by decide +kernel) rfl
theorem tw_217 : Cond.methodLink RX8 93 yX6_size ∈ TB := tb_t 274 (by decide +kernel) rfl
theorem tw_218 : Cond.instanceMethod yX6_size ∈ TB := tb_t 275 (by decide +kernel) rfl
theorem tw_219 : Cond.selects RX6 yX6_size yX6_size ∈ TB := tb_t 276 (by decide +kernel) rfl
set_option maxRecDepth 100000 in
theorem tw_220 : Cond.code yX6_size cX6_size 1 (Option.some Jvm.ClassFile.FieldType.int) ∈ TB := tb_t 277 rfl rfl
theorem tw_221 : Cond.methodLink RL 31 yX8_fold ∈ TB := tb_t 278 (by decide +kernel) rfl
theorem tw_222 : Cond.instanceMethod yX8_fold ∈ TB := tb_t 279 (by decide +kernel) rfl
theorem tw_223 : Cond.selects RX8 yX8_fold yX8_fold ∈ TB := tb_t 280 (by decide +kernel) rfl
set_option maxRecDepth 100000 in
theorem tw_224 : Cond.code yX8_fold cX8_fold 5 (Option.some Jvm.ClassFile.FieldType.int) ∈ TB := tb_t 281 rfl rfl
theorem tw_225 : Cond.methodLink RX8 94 yX8_isSign ∈ TB := tb_t 282 (by decide +kernel) rfl
theorem tw_226 : Cond.static yX8_isSign ∈ TB := tb_t 283 (by decide +kernel) rfl
set_option maxRecDepth 100000 in
theorem tw_227 : Cond.code yX8_isSign cX8_isSign 1 (Option.some Jvm.ClassFile.FieldType.boolean) ∈ TB := tb_t 284 rfl rfl
theorem tw_228 : Cond.constant RX8 179 (1114111) ∈ TB := tb_t 285 (by decide +kernel) rfl
theorem tw_229 : Cond.methodLink RX8 98 yX8_isFoldRow ∈ TB := tb_t 286 (by decide +kernel) rfl
theorem tw_230 : Cond.static yX8_isFoldRow ∈ TB := tb_t 287 (by decide +kernel) rfl
set_option maxRecDepth 100000 in
theorem tw_231 : Cond.code yX8_isFoldRow cX8_isFoldRow 3 (Option.some Jvm.ClassFile.FieldType.boolean) ∈ TB := tb_t 288 rfl rfl
theorem tw_232 : Cond.methodLink RX8 180 yX8_isSignOrNone ∈ TB := tb_t 289 (by decide +kernel) rfl
theorem tw_233 : Cond.static yX8_isSignOrNone ∈ TB := tb_t 290 (by decide +kernel) rfl
set_option maxRecDepth 100000 in
theorem tw_234 : Cond.code yX8_isSignOrNone cX8_isSignOrNone 1 (Option.some Jvm.ClassFile.FieldType.boolean) ∈ TB := tb_t 291 rfl rfl
theorem tw_235 : Cond.methodLink RX8 102 yX1_put ∈ TB := tb_t 292 (by decide +kernel) rfl
theorem tw_236 : Cond.instanceMethod yX1_put ∈ TB := tb_t 293 (by decide +kernel) rfl
theorem tw_237 : Cond.selects RX1 yX1_put yX1_put ∈ TB := tb_t 294 (by decide +kernel) rfl
set_option maxRecDepth 100000 in
theorem tw_238 : Cond.code yX1_put cX1_put 6 (Option.some Jvm.ClassFile.FieldType.boolean) ∈ TB := tb_t 295 rfl rfl
theorem tw_239 : Cond.methodLink RX1 28 yX1_slotOf ∈ TB := tb_t 296 (by decide +kernel) rfl
theorem tw_240 : Cond.instanceMethod yX1_slotOf ∈ TB := tb_t 297 (by decide +kernel) rfl
theorem tw_241 : Cond.selects RX1 yX1_slotOf yX1_slotOf ∈ TB := tb_t 298 (by decide +kernel) rfl
set_option maxRecDepth 100000 in
theorem tw_242 : Cond.code yX1_slotOf cX1_slotOf 3 (Option.some Jvm.ClassFile.FieldType.int) ∈ TB := tb_t 299 rfl rfl
theorem tw_243 : Cond.methodLink RX8 105 yX1_size ∈ TB := tb_t 300 (by decide +kernel) rfl
theorem tw_244 : Cond.instanceMethod yX1_size ∈ TB := tb_t 301 (by decide +kernel) rfl
theorem tw_245 : Cond.selects RX1 yX1_size yX1_size ∈ TB := tb_t 302 (by decide +kernel) rfl
set_option maxRecDepth 100000 in
theorem tw_246 : Cond.code yX1_size cX1_size 1 (Option.some Jvm.ClassFile.FieldType.int) ∈ TB := tb_t 303 rfl rfl
theorem tw_247 : Cond.methodLink RL 36 yX8_pair ∈ TB := tb_t 304 (by decide +kernel) rfl
theorem tw_248 : Cond.instanceMethod yX8_pair ∈ TB := tb_t 305 (by decide +kernel) rfl
theorem tw_249 : Cond.selects RX8 yX8_pair yX8_pair ∈ TB := tb_t 306 (by decide +kernel) rfl
set_option maxRecDepth 100000 in
theorem tw_250 : Cond.code yX8_pair cX8_pair 4 (Option.some Jvm.ClassFile.FieldType.int) ∈ TB := tb_t 307 rfl rfl
theorem tw_251 : Cond.methodLink RX8 106 yX2_put ∈ TB := tb_t 308 (by decide +kernel) rfl
theorem tw_252 : Cond.instanceMethod yX2_put ∈ TB := tb_t 309 (by decide +kernel) rfl
theorem tw_253 : Cond.selects RX2 yX2_put yX2_put ∈ TB := tb_t 310 (by decide +kernel) rfl
set_option maxRecDepth 100000 in
theorem tw_254 : Cond.code yX2_put cX2_put 5 (Option.some Jvm.ClassFile.FieldType.boolean) ∈ TB := tb_t 311 rfl rfl
theorem tw_255 : Cond.methodLink RX2 25 yX2_slotOf ∈ TB := tb_t 312 (by decide +kernel) rfl
theorem tw_256 : Cond.instanceMethod yX2_slotOf ∈ TB := tb_t 313 (by decide +kernel) rfl
theorem tw_257 : Cond.selects RX2 yX2_slotOf yX2_slotOf ∈ TB := tb_t 314 (by decide +kernel) rfl
set_option maxRecDepth 100000 in
theorem tw_258 : Cond.code yX2_slotOf cX2_slotOf 4 (Option.some Jvm.ClassFile.FieldType.int) ∈ TB := tb_t 315 rfl rfl
theorem tw_259 : Cond.methodLink RX8 108 yX2_size ∈ TB := tb_t 316 (by decide +kernel) rfl
theorem tw_260 : Cond.instanceMethod yX2_size ∈ TB := tb_t 317 (by decide +kernel) rfl
theorem tw_261 : Cond.selects RX2 yX2_size yX2_size ∈ TB := tb_t 318 (by decide +kernel) rfl
set_option maxRecDepth 100000 in
theorem tw_262 : Cond.code yX2_size cX2_size 1 (Option.some Jvm.ClassFile.FieldType.int) ∈ TB := tb_t 319 rfl rfl
theorem tw_263 : Cond.methodLink RL 41 yX8_zero ∈ TB := tb_t 320 (by decide +kernel) rfl
theorem tw_264 : Cond.instanceMethod yX8_zero ∈ TB := tb_t 321 (by decide +kernel) rfl
theorem tw_265 : Cond.selects RX8 yX8_zero yX8_zero ∈ TB := tb_t 322 (by decide +kernel) rfl
set_option maxRecDepth 100000 in
theorem tw_266 : Cond.code yX8_zero cX8_zero 2 (Option.some Jvm.ClassFile.FieldType.int) ∈ TB := tb_t 323 rfl rfl
theorem tw_267 : Cond.constant RX8 109 (1114102) ∈ TB := tb_t 324 (by decide +kernel) rfl
theorem tw_268 : Cond.methodLink RX8 110 yX7_add ∈ TB := tb_t 325 (by decide +kernel) rfl
theorem tw_269 : Cond.instanceMethod yX7_add ∈ TB := tb_t 326 (by decide +kernel) rfl
theorem tw_270 : Cond.selects RX7 yX7_add yX7_add ∈ TB := tb_t 327 (by decide +kernel) rfl
set_option maxRecDepth 100000 in
theorem tw_271 : Cond.code yX7_add cX7_add 2 (Option.some Jvm.ClassFile.FieldType.boolean) ∈ TB := tb_t 328 rfl rfl
theorem tw_272 : Cond.methodLink RX8 113 yX7_size ∈ TB := tb_t 329 (by decide +kernel) rfl
theorem tw_273 : Cond.instanceMethod yX7_size ∈ TB := tb_t 330 (by decide +kernel) rfl
theorem tw_274 : Cond.selects RX7 yX7_size yX7_size ∈ TB := tb_t 331 (by decide +kernel) rfl
set_option maxRecDepth 100000 in
theorem tw_275 : Cond.code yX7_size cX7_size 1 (Option.some Jvm.ClassFile.FieldType.int) ∈ TB := tb_t 332 rfl rfl
theorem tw_276 : Cond.methodLink RL 45 yX8_range ∈ TB := tb_t 333 (by decide +kernel) rfl
theorem tw_277 : Cond.instanceMethod yX8_range ∈ TB := tb_t 334 (by decide +kernel) rfl
theorem tw_278 : Cond.selects RX8 yX8_range yX8_range ∈ TB := tb_t 335 (by decide +kernel) rfl
set_option maxRecDepth 100000 in
theorem tw_279 : Cond.code yX8_range cX8_range 3 (Option.some Jvm.ClassFile.FieldType.int) ∈ TB := tb_t 336 rfl rfl
theorem tw_280 : Cond.methodLink RX8 114 yX3_add ∈ TB := tb_t 337 (by decide +kernel) rfl
theorem tw_281 : Cond.instanceMethod yX3_add ∈ TB := tb_t 338 (by decide +kernel) rfl
theorem tw_282 : Cond.selects RX3 yX3_add yX3_add ∈ TB := tb_t 339 (by decide +kernel) rfl
set_option maxRecDepth 100000 in
theorem tw_283 : Cond.code yX3_add cX3_add 3 (Option.some Jvm.ClassFile.FieldType.boolean) ∈ TB := tb_t 340 rfl rfl
theorem tw_284 : Cond.methodLink RX8 117 yX3_size ∈ TB := tb_t 341 (by decide +kernel) rfl
theorem tw_285 : Cond.instanceMethod yX3_size ∈ TB := tb_t 342 (by decide +kernel) rfl
theorem tw_286 : Cond.selects RX3 yX3_size yX3_size ∈ TB := tb_t 343 (by decide +kernel) rfl
set_option maxRecDepth 100000 in
theorem tw_287 : Cond.code yX3_size cX3_size 1 (Option.some Jvm.ClassFile.FieldType.int) ∈ TB := tb_t 344 rfl rfl
theorem tw_288 : Cond.methodLink RL 50 yX8_filter ∈ TB := tb_t 345 (by decide +kernel) rfl
theorem tw_289 : Cond.instanceMethod yX8_filter ∈ TB := tb_t 346 (by decide +kernel) rfl
theorem tw_290 : Cond.selects RX8 yX8_filter yX8_filter ∈ TB := tb_t 347 (by decide +kernel) rfl
set_option maxRecDepth 100000 in
theorem tw_291 : Cond.code yX8_filter cX8_filter 3 (Option.some Jvm.ClassFile.FieldType.int) ∈ TB := tb_t 348 rfl rfl
theorem tw_292 : Cond.methodLink RX8 118 yX8_isPlace ∈ TB := tb_t 349 (by decide +kernel) rfl
theorem tw_293 : Cond.static yX8_isPlace ∈ TB := tb_t 350 (by decide +kernel) rfl
set_option maxRecDepth 100000 in
theorem tw_294 : Cond.code yX8_isPlace cX8_isPlace 1 (Option.some Jvm.ClassFile.FieldType.boolean) ∈ TB := tb_t 351 rfl rfl
theorem tw_295 : Cond.instantiable RX0 6 ∈ TB := tb_t 352 (by decide +kernel) rfl
theorem tw_296 : Cond.methodLink RX8 121 yX0_init ∈ TB := tb_t 353 (by decide +kernel) rfl
theorem tw_297 : Cond.instanceMethod yX0_init ∈ TB := tb_t 354 (by decide +kernel) rfl
set_option maxRecDepth 100000 in
theorem tw_298 : Cond.code yX0_init cX0_init 2 (Option.none : Option Jvm.ClassFile.FieldType) ∈ TB := tb_t 355 rfl rfl
theorem tw_299 : Cond.methodLink RX0 3 (⟨"java/lang/Object", "<init>", "()V"⟩ : MethodName) ∈ TB := tb_t 356 (by decide +kernel) rfl
theorem tw_300 : Cond.fieldLink RX0 27 "SignTables$Filter" "kind" "I" ∈ TB := tb_t 357 (by decide +kernel) rfl
theorem tw_301 : Cond.fieldLink RX8 124 "SignTables$Filter" "kind" "I" ∈ TB := tb_t 358 (by decide +kernel) rfl
theorem tw_302 : Cond.fieldLink RX0 9 "SignTables$Filter" "halvesRule" "I" ∈ TB := tb_t 359 (by decide +kernel) rfl
theorem tw_303 : Cond.fieldLink RX8 127 "SignTables$Filter" "halvesRule" "I" ∈ TB := tb_t 360 (by decide +kernel) rfl
theorem tw_304 : Cond.fieldLink RX0 15 "SignTables$Filter" "settledMet" "I" ∈ TB := tb_t 361 (by decide +kernel) rfl
theorem tw_305 : Cond.fieldLink RX8 167 "SignTables$Filter" "settledMet" "I" ∈ TB := tb_t 362 (by decide +kernel) rfl
theorem tw_306 : Cond.fieldLink RX0 18 "SignTables$Filter" "settledGrown" "I" ∈ TB := tb_t 363 (by decide +kernel) rfl
theorem tw_307 : Cond.fieldLink RX8 170 "SignTables$Filter" "settledGrown" "I" ∈ TB := tb_t 364 (by decide +kernel) rfl
theorem tw_308 : Cond.fieldLink RX0 21 "SignTables$Filter" "runningMet" "I" ∈ TB := tb_t 365 (by decide +kernel) rfl
theorem tw_309 : Cond.fieldLink RX0 24 "SignTables$Filter" "runningGrown" "I" ∈ TB := tb_t 366 (by decide +kernel) rfl
theorem tw_310 : Cond.laysFinal RX0 "SignTables$Filter" "kind" "I" ∈ TB := tb_t 367 (by decide +kernel) rfl
theorem tw_311 : Cond.lays RX0 "SignTables$Filter" "halvesRule" "I" ∈ TB := tb_t 369 (by decide +kernel) rfl
theorem tw_312 : Cond.lays RX0 "SignTables$Filter" "settledMet" "I" ∈ TB := tb_t 371 (by decide +kernel) rfl
theorem tw_313 : Cond.lays RX0 "SignTables$Filter" "settledGrown" "I" ∈ TB := tb_t 373 (by decide +kernel) rfl
theorem tw_314 : Cond.lays RX0 "SignTables$Filter" "runningMet" "I" ∈ TB := tb_t 375 (by decide +kernel) rfl
theorem tw_315 : Cond.lays RX0 "SignTables$Filter" "runningGrown" "I" ∈ TB := tb_t 377 (by decide +kernel) rfl
theorem tw_316 : Cond.methodLink RL 54 yX8_drop ∈ TB := tb_t 380 (by decide +kernel) rfl
theorem tw_317 : Cond.instanceMethod yX8_drop ∈ TB := tb_t 381 (by decide +kernel) rfl
theorem tw_318 : Cond.selects RX8 yX8_drop yX8_drop ∈ TB := tb_t 382 (by decide +kernel) rfl
set_option maxRecDepth 100000 in
theorem tw_319 : Cond.code yX8_drop cX8_drop 3 (Option.some Jvm.ClassFile.FieldType.int) ∈ TB := tb_t 383 rfl rfl
theorem tw_320 : Cond.methodLink RL 58 yX8_rule ∈ TB := tb_t 384 (by decide +kernel) rfl
theorem tw_321 : Cond.instanceMethod yX8_rule ∈ TB := tb_t 385 (by decide +kernel) rfl
theorem tw_322 : Cond.selects RX8 yX8_rule yX8_rule ∈ TB := tb_t 386 (by decide +kernel) rfl
set_option maxRecDepth 100000 in
theorem tw_323 : Cond.code yX8_rule cX8_rule 5 (Option.some Jvm.ClassFile.FieldType.int) ∈ TB := tb_t 387 rfl rfl
theorem tw_324 : Cond.methodLink RL 62 yX8_run ∈ TB := tb_t 388 (by decide +kernel) rfl
theorem tw_325 : Cond.instanceMethod yX8_run ∈ TB := tb_t 389 (by decide +kernel) rfl
theorem tw_326 : Cond.selects RX8 yX8_run yX8_run ∈ TB := tb_t 390 (by decide +kernel) rfl
set_option maxRecDepth 100000 in
theorem tw_327 : Cond.code yX8_run cX8_run 6 (Option.some Jvm.ClassFile.FieldType.int) ∈ TB := tb_t 391 rfl rfl
theorem tw_328 : Cond.methodLink RX8 130 yX5_copyFrom ∈ TB := tb_t 392 (by decide +kernel) rfl
theorem tw_329 : Cond.instanceMethod yX5_copyFrom ∈ TB := tb_t 393 (by decide +kernel) rfl
theorem tw_330 : Cond.selects RX5 yX5_copyFrom yX5_copyFrom ∈ TB := tb_t 394 (by decide +kernel) rfl
set_option maxRecDepth 100000 in
theorem tw_331 : Cond.code yX5_copyFrom cX5_copyFrom 3 (Option.none : Option Jvm.ClassFile.FieldType) ∈ TB := tb_t 395 rfl rfl
theorem tw_332 : Cond.methodLink RX5 29 yX5_clear ∈ TB := tb_t 396 (by decide +kernel) rfl
theorem tw_333 : Cond.methodLink RX5 32 yX5_size ∈ TB := tb_t 397 (by decide +kernel) rfl
theorem tw_334 : Cond.methodLink RX5 35 yX5_signAt ∈ TB := tb_t 398 (by decide +kernel) rfl
theorem tw_335 : Cond.methodLink RX5 39 yX5_beginAt ∈ TB := tb_t 399 (by decide +kernel) rfl
theorem tw_336 : Cond.instanceMethod yX5_beginAt ∈ TB := tb_t 400 (by decide +kernel) rfl
theorem tw_337 : Cond.selects RX5 yX5_beginAt yX5_beginAt ∈ TB := tb_t 401 (by decide +kernel) rfl
set_option maxRecDepth 100000 in
theorem tw_338 : Cond.code yX5_beginAt cX5_beginAt 2 (Option.some Jvm.ClassFile.FieldType.int) ∈ TB := tb_t 402 rfl rfl
theorem tw_339 : Cond.methodLink RX5 42 yX5_endAt ∈ TB := tb_t 403 (by decide +kernel) rfl
theorem tw_340 : Cond.instanceMethod yX5_endAt ∈ TB := tb_t 404 (by decide +kernel) rfl
theorem tw_341 : Cond.selects RX5 yX5_endAt yX5_endAt ∈ TB := tb_t 405 (by decide +kernel) rfl
set_option maxRecDepth 100000 in
theorem tw_342 : Cond.code yX5_endAt cX5_endAt 2 (Option.some Jvm.ClassFile.FieldType.int) ∈ TB := tb_t 406 rfl rfl
theorem tw_343 : Cond.methodLink RX5 45 yX5_add ∈ TB := tb_t 407 (by decide +kernel) rfl
theorem tw_344 : Cond.methodLink RX8 134 yX0_beginRun ∈ TB := tb_t 408 (by decide +kernel) rfl
theorem tw_345 : Cond.instanceMethod yX0_beginRun ∈ TB := tb_t 409 (by decide +kernel) rfl
theorem tw_346 : Cond.selects RX0 yX0_beginRun yX0_beginRun ∈ TB := tb_t 410 (by decide +kernel) rfl
set_option maxRecDepth 100000 in
theorem tw_347 : Cond.code yX0_beginRun cX0_beginRun 1 (Option.none : Option Jvm.ClassFile.FieldType) ∈ TB := tb_t 411 rfl rfl
theorem tw_348 : Cond.methodLink RX8 137 yX8_passThrough ∈ TB := tb_t 412 (by decide +kernel) rfl
theorem tw_349 : Cond.instanceMethod yX8_passThrough ∈ TB := tb_t 414 (by decide +kernel) rfl
set_option maxRecDepth 100000 in
theorem tw_350 : Cond.code yX8_passThrough cX8_passThrough 4 (Option.some Jvm.ClassFile.FieldType.boolean) ∈ TB := tb_t 415 rfl rfl
theorem tw_351 : Cond.methodLink RX8 204 yX8_passFolding ∈ TB := tb_t 416 (by decide +kernel) rfl
theorem tw_352 : Cond.instanceMethod yX8_passFolding ∈ TB := tb_t 418 (by decide +kernel) rfl
set_option maxRecDepth 100000 in
theorem tw_353 : Cond.code yX8_passFolding cX8_passFolding 9 (Option.some Jvm.ClassFile.FieldType.boolean) ∈ TB := tb_t 419 rfl rfl
theorem tw_354 : Cond.methodLink RX8 147 yX5_signAt ∈ TB := tb_t 420 (by decide +kernel) rfl
theorem tw_355 : Cond.methodLink RX8 225 yX1_slotOf ∈ TB := tb_t 421 (by decide +kernel) rfl
theorem tw_356 : Cond.methodLink RX8 154 yX5_beginAt ∈ TB := tb_t 422 (by decide +kernel) rfl
theorem tw_357 : Cond.methodLink RX8 151 yX5_endAt ∈ TB := tb_t 423 (by decide +kernel) rfl
theorem tw_358 : Cond.methodLink RX8 228 yX0_meetOne ∈ TB := tb_t 424 (by decide +kernel) rfl
theorem tw_359 : Cond.instanceMethod yX0_meetOne ∈ TB := tb_t 425 (by decide +kernel) rfl
theorem tw_360 : Cond.selects RX0 yX0_meetOne yX0_meetOne ∈ TB := tb_t 426 (by decide +kernel) rfl
set_option maxRecDepth 100000 in
theorem tw_361 : Cond.code yX0_meetOne cX0_meetOne 1 (Option.none : Option Jvm.ClassFile.FieldType) ∈ TB := tb_t 427 rfl rfl
theorem tw_362 : Cond.methodLink RX8 231 yX1_unitsAt ∈ TB := tb_t 428 (by decide +kernel) rfl
theorem tw_363 : Cond.instanceMethod yX1_unitsAt ∈ TB := tb_t 429 (by decide +kernel) rfl
theorem tw_364 : Cond.selects RX1 yX1_unitsAt yX1_unitsAt ∈ TB := tb_t 430 (by decide +kernel) rfl
set_option maxRecDepth 100000 in
theorem tw_365 : Cond.code yX1_unitsAt cX1_unitsAt 4 (Option.some Jvm.ClassFile.FieldType.int) ∈ TB := tb_t 431 rfl rfl
theorem tw_366 : Cond.methodLink RX1 36 yX1_lengthAt ∈ TB := tb_t 432 (by decide +kernel) rfl
theorem tw_367 : Cond.instanceMethod yX1_lengthAt ∈ TB := tb_t 433 (by decide +kernel) rfl
theorem tw_368 : Cond.selects RX1 yX1_lengthAt yX1_lengthAt ∈ TB := tb_t 434 (by decide +kernel) rfl
set_option maxRecDepth 100000 in
theorem tw_369 : Cond.code yX1_lengthAt cX1_lengthAt 3 (Option.some Jvm.ClassFile.FieldType.int) ∈ TB := tb_t 435 rfl rfl
theorem tw_370 : Cond.methodLink RX1 32 yX1_partAt ∈ TB := tb_t 436 (by decide +kernel) rfl
theorem tw_371 : Cond.instanceMethod yX1_partAt ∈ TB := tb_t 437 (by decide +kernel) rfl
theorem tw_372 : Cond.selects RX1 yX1_partAt yX1_partAt ∈ TB := tb_t 438 (by decide +kernel) rfl
set_option maxRecDepth 100000 in
theorem tw_373 : Cond.code yX1_partAt cX1_partAt 3 (Option.some Jvm.ClassFile.FieldType.int) ∈ TB := tb_t 439 rfl rfl
theorem tw_374 : Cond.static yX8_unitsOf ∈ TB := tb_t 441 (by decide +kernel) rfl
set_option maxRecDepth 100000 in
theorem tw_375 : Cond.code yX8_unitsOf cX8_unitsOf 1 (Option.some Jvm.ClassFile.FieldType.int) ∈ TB := tb_t 442 rfl rfl
theorem tw_376 : Cond.methodLink RX8 157 yX8_unitsOf ∈ TB := tb_t 443 (by decide +kernel) rfl
theorem tw_377 : Cond.methodLink RX8 234 yX0_growBy ∈ TB := tb_t 444 (by decide +kernel) rfl
theorem tw_378 : Cond.instanceMethod yX0_growBy ∈ TB := tb_t 445 (by decide +kernel) rfl
theorem tw_379 : Cond.selects RX0 yX0_growBy yX0_growBy ∈ TB := tb_t 446 (by decide +kernel) rfl
set_option maxRecDepth 100000 in
theorem tw_380 : Cond.code yX0_growBy cX0_growBy 2 (Option.none : Option Jvm.ClassFile.FieldType) ∈ TB := tb_t 447 rfl rfl
theorem tw_381 : Cond.methodLink RX8 237 yX1_lengthAt ∈ TB := tb_t 448 (by decide +kernel) rfl
theorem tw_382 : Cond.methodLink RX8 240 yX1_partAt ∈ TB := tb_t 449 (by decide +kernel) rfl
theorem tw_383 : Cond.methodLink RX8 207 yX8_passComposing ∈ TB := tb_t 450 (by decide +kernel) rfl
theorem tw_384 : Cond.instanceMethod yX8_passComposing ∈ TB := tb_t 452 (by decide +kernel) rfl
set_option maxRecDepth 100000 in
theorem tw_385 : Cond.code yX8_passComposing cX8_passComposing 7 (Option.some Jvm.ClassFile.FieldType.boolean) ∈ TB := tb_t 453 rfl rfl
theorem tw_386 : Cond.methodLink RX8 243 yX2_slotOf ∈ TB := tb_t 454 (by decide +kernel) rfl
theorem tw_387 : Cond.methodLink RX8 245 yX2_signAt ∈ TB := tb_t 455 (by decide +kernel) rfl
theorem tw_388 : Cond.instanceMethod yX2_signAt ∈ TB := tb_t 456 (by decide +kernel) rfl
theorem tw_389 : Cond.selects RX2 yX2_signAt yX2_signAt ∈ TB := tb_t 457 (by decide +kernel) rfl
set_option maxRecDepth 100000 in
theorem tw_390 : Cond.code yX2_signAt cX2_signAt 2 (Option.some Jvm.ClassFile.FieldType.int) ∈ TB := tb_t 458 rfl rfl
theorem tw_391 : Cond.methodLink RX8 246 yX5_changeLast ∈ TB := tb_t 459 (by decide +kernel) rfl
theorem tw_392 : Cond.instanceMethod yX5_changeLast ∈ TB := tb_t 460 (by decide +kernel) rfl
theorem tw_393 : Cond.selects RX5 yX5_changeLast yX5_changeLast ∈ TB := tb_t 461 (by decide +kernel) rfl
set_option maxRecDepth 100000 in
theorem tw_394 : Cond.code yX5_changeLast cX5_changeLast 3 (Option.none : Option Jvm.ClassFile.FieldType) ∈ TB := tb_t 462 rfl rfl
theorem tw_395 : Cond.methodLink RX8 210 yX8_passDigits ∈ TB := tb_t 463 (by decide +kernel) rfl
theorem tw_396 : Cond.instanceMethod yX8_passDigits ∈ TB := tb_t 465 (by decide +kernel) rfl
set_option maxRecDepth 100000 in
theorem tw_397 : Cond.code yX8_passDigits cX8_passDigits 8 (Option.some Jvm.ClassFile.FieldType.boolean) ∈ TB := tb_t 466 rfl rfl
theorem tw_398 : Cond.methodLink RX8 173 yX7_digitOf ∈ TB := tb_t 467 (by decide +kernel) rfl
theorem tw_399 : Cond.instanceMethod yX7_digitOf ∈ TB := tb_t 468 (by decide +kernel) rfl
theorem tw_400 : Cond.selects RX7 yX7_digitOf yX7_digitOf ∈ TB := tb_t 469 (by decide +kernel) rfl
set_option maxRecDepth 100000 in
theorem tw_401 : Cond.code yX7_digitOf cX7_digitOf 3 (Option.some Jvm.ClassFile.FieldType.int) ∈ TB := tb_t 470 rfl rfl
theorem tw_402 : Cond.methodLink RX8 213 yX8_passDropping ∈ TB := tb_t 471 (by decide +kernel) rfl
theorem tw_403 : Cond.instanceMethod yX8_passDropping ∈ TB := tb_t 473 (by decide +kernel) rfl
set_option maxRecDepth 100000 in
theorem tw_404 : Cond.code yX8_passDropping cX8_passDropping 6 (Option.some Jvm.ClassFile.FieldType.boolean) ∈ TB := tb_t 474 rfl rfl
theorem tw_405 : Cond.methodLink RX8 250 yX3_holds ∈ TB := tb_t 475 (by decide +kernel) rfl
theorem tw_406 : Cond.instanceMethod yX3_holds ∈ TB := tb_t 476 (by decide +kernel) rfl
theorem tw_407 : Cond.selects RX3 yX3_holds yX3_holds ∈ TB := tb_t 477 (by decide +kernel) rfl
set_option maxRecDepth 100000 in
theorem tw_408 : Cond.code yX3_holds cX3_holds 3 (Option.some Jvm.ClassFile.FieldType.boolean) ∈ TB := tb_t 478 rfl rfl
theorem tw_409 : Cond.methodLink RX8 216 yX8_passReplacing ∈ TB := tb_t 479 (by decide +kernel) rfl
theorem tw_410 : Cond.instanceMethod yX8_passReplacing ∈ TB := tb_t 481 (by decide +kernel) rfl
set_option maxRecDepth 100000 in
theorem tw_411 : Cond.code yX8_passReplacing cX8_passReplacing 8 (Option.some Jvm.ClassFile.FieldType.boolean) ∈ TB := tb_t 482 rfl rfl
theorem tw_412 : Cond.methodLink RX8 253 yX6_longestAt ∈ TB := tb_t 483 (by decide +kernel) rfl
theorem tw_413 : Cond.instanceMethod yX6_longestAt ∈ TB := tb_t 484 (by decide +kernel) rfl
theorem tw_414 : Cond.selects RX6 yX6_longestAt yX6_longestAt ∈ TB := tb_t 485 (by decide +kernel) rfl
set_option maxRecDepth 100000 in
theorem tw_415 : Cond.code yX6_longestAt cX6_longestAt 6 (Option.some (Jvm.ClassFile.FieldType.object "SignTables$Replacement")) ∈ TB := tb_t 486 rfl rfl
theorem tw_416 : Cond.methodLink RX8 257 yX4_length ∈ TB := tb_t 487 (by decide +kernel) rfl
theorem tw_417 : Cond.methodLink RX8 262 yX4_writeTo ∈ TB := tb_t 488 (by decide +kernel) rfl
theorem tw_418 : Cond.instanceMethod yX4_writeTo ∈ TB := tb_t 489 (by decide +kernel) rfl
theorem tw_419 : Cond.selects RX4 yX4_writeTo yX4_writeTo ∈ TB := tb_t 490 (by decide +kernel) rfl
set_option maxRecDepth 100000 in
theorem tw_420 : Cond.code yX4_writeTo cX4_writeTo 6 (Option.some Jvm.ClassFile.FieldType.boolean) ∈ TB := tb_t 491 rfl rfl
theorem tw_421 : Cond.methodLink RX4 30 yX5_add ∈ TB := tb_t 492 (by decide +kernel) rfl
theorem tw_422 : Cond.methodLink RX8 219 yX8_passHalves ∈ TB := tb_t 493 (by decide +kernel) rfl
theorem tw_423 : Cond.instanceMethod yX8_passHalves ∈ TB := tb_t 495 (by decide +kernel) rfl
set_option maxRecDepth 100000 in
theorem tw_424 : Cond.code yX8_passHalves cX8_passHalves 8 (Option.some Jvm.ClassFile.FieldType.boolean) ∈ TB := tb_t 496 rfl rfl
theorem tw_425 : Cond.constant RX8 266 (65533) ∈ TB := tb_t 497 (by decide +kernel) rfl
theorem tw_426 : Cond.methodLink RX8 222 yX8_passWidths ∈ TB := tb_t 498 (by decide +kernel) rfl
theorem tw_427 : Cond.instanceMethod yX8_passWidths ∈ TB := tb_t 500 (by decide +kernel) rfl
set_option maxRecDepth 100000 in
theorem tw_428 : Cond.code yX8_passWidths cX8_passWidths 8 (Option.some Jvm.ClassFile.FieldType.boolean) ∈ TB := tb_t 501 rfl rfl
theorem tw_429 : Cond.methodLink RX8 267 yX8_narrowed ∈ TB := tb_t 502 (by decide +kernel) rfl
theorem tw_430 : Cond.static yX8_narrowed ∈ TB := tb_t 503 (by decide +kernel) rfl
set_option maxRecDepth 100000 in
theorem tw_431 : Cond.code yX8_narrowed cX8_narrowed 1 (Option.some Jvm.ClassFile.FieldType.int) ∈ TB := tb_t 504 rfl rfl
theorem tw_432 : Cond.constant RX8 187 (65281) ∈ TB := tb_t 505 (by decide +kernel) rfl
theorem tw_433 : Cond.constant RX8 188 (65374) ∈ TB := tb_t 506 (by decide +kernel) rfl
theorem tw_434 : Cond.constant RX8 189 (65248) ∈ TB := tb_t 507 (by decide +kernel) rfl
theorem tw_435 : Cond.methodLink RX8 141 yX8_settleFilters ∈ TB := tb_t 508 (by decide +kernel) rfl
theorem tw_436 : Cond.instanceMethod yX8_settleFilters ∈ TB := tb_t 510 (by decide +kernel) rfl
set_option maxRecDepth 100000 in
theorem tw_437 : Cond.code yX8_settleFilters cX8_settleFilters 3 (Option.none : Option Jvm.ClassFile.FieldType) ∈ TB := tb_t 511 rfl rfl
theorem tw_438 : Cond.methodLink RX8 201 yX0_settleRun ∈ TB := tb_t 512 (by decide +kernel) rfl
theorem tw_439 : Cond.instanceMethod yX0_settleRun ∈ TB := tb_t 513 (by decide +kernel) rfl
theorem tw_440 : Cond.selects RX0 yX0_settleRun yX0_settleRun ∈ TB := tb_t 514 (by decide +kernel) rfl
set_option maxRecDepth 100000 in
theorem tw_441 : Cond.code yX0_settleRun cX0_settleRun 1 (Option.none : Option Jvm.ClassFile.FieldType) ∈ TB := tb_t 515 rfl rfl
theorem tw_442 : Cond.methodLink RL 66 yX8_sign ∈ TB := tb_t 516 (by decide +kernel) rfl
theorem tw_443 : Cond.instanceMethod yX8_sign ∈ TB := tb_t 517 (by decide +kernel) rfl
theorem tw_444 : Cond.selects RX8 yX8_sign yX8_sign ∈ TB := tb_t 518 (by decide +kernel) rfl
set_option maxRecDepth 100000 in
theorem tw_445 : Cond.code yX8_sign cX8_sign 2 (Option.some Jvm.ClassFile.FieldType.int) ∈ TB := tb_t 519 rfl rfl
theorem tw_446 : Cond.methodLink RX8 144 yX5_has ∈ TB := tb_t 520 (by decide +kernel) rfl
theorem tw_447 : Cond.methodLink RL 70 yX8_place ∈ TB := tb_t 521 (by decide +kernel) rfl
theorem tw_448 : Cond.instanceMethod yX8_place ∈ TB := tb_t 522 (by decide +kernel) rfl
theorem tw_449 : Cond.selects RX8 yX8_place yX8_place ∈ TB := tb_t 523 (by decide +kernel) rfl
set_option maxRecDepth 100000 in
theorem tw_450 : Cond.code yX8_place cX8_place 3 (Option.some Jvm.ClassFile.FieldType.int) ∈ TB := tb_t 524 rfl rfl
theorem tw_451 : Cond.methodLink RL 75 yX8_unitAt ∈ TB := tb_t 525 (by decide +kernel) rfl
theorem tw_452 : Cond.instanceMethod yX8_unitAt ∈ TB := tb_t 526 (by decide +kernel) rfl
theorem tw_453 : Cond.selects RX8 yX8_unitAt yX8_unitAt ∈ TB := tb_t 527 (by decide +kernel) rfl
set_option maxRecDepth 100000 in
theorem tw_454 : Cond.code yX8_unitAt cX8_unitAt 6 (Option.some Jvm.ClassFile.FieldType.int) ∈ TB := tb_t 528 rfl rfl
theorem tw_455 : Cond.methodLink RX8 160 yX8_unitOf ∈ TB := tb_t 529 (by decide +kernel) rfl
theorem tw_456 : Cond.static yX8_unitOf ∈ TB := tb_t 530 (by decide +kernel) rfl
set_option maxRecDepth 100000 in
theorem tw_457 : Cond.code yX8_unitOf cX8_unitOf 3 (Option.some Jvm.ClassFile.FieldType.int) ∈ TB := tb_t 531 rfl rfl
theorem tw_458 : Cond.methodLink RL 79 yX8_units ∈ TB := tb_t 532 (by decide +kernel) rfl
theorem tw_459 : Cond.instanceMethod yX8_units ∈ TB := tb_t 533 (by decide +kernel) rfl
theorem tw_460 : Cond.selects RX8 yX8_units yX8_units ∈ TB := tb_t 534 (by decide +kernel) rfl
set_option maxRecDepth 100000 in
theorem tw_461 : Cond.code yX8_units cX8_units 3 (Option.some Jvm.ClassFile.FieldType.int) ∈ TB := tb_t 535 rfl rfl
theorem tw_462 : Cond.methodLink RL 83 yX8_broken ∈ TB := tb_t 536 (by decide +kernel) rfl
theorem tw_463 : Cond.instanceMethod yX8_broken ∈ TB := tb_t 537 (by decide +kernel) rfl
theorem tw_464 : Cond.selects RX8 yX8_broken yX8_broken ∈ TB := tb_t 538 (by decide +kernel) rfl
set_option maxRecDepth 100000 in
theorem tw_465 : Cond.code yX8_broken cX8_broken 5 (Option.some Jvm.ClassFile.FieldType.int) ∈ TB := tb_t 539 rfl rfl
theorem tw_466 : Cond.methodLink RX8 164 yX8_classOf ∈ TB := tb_t 540 (by decide +kernel) rfl
theorem tw_467 : Cond.static yX8_classOf ∈ TB := tb_t 541 (by decide +kernel) rfl
set_option maxRecDepth 100000 in
theorem tw_468 : Cond.code yX8_classOf cX8_classOf 1 (Option.some Jvm.ClassFile.FieldType.int) ∈ TB := tb_t 542 rfl rfl
theorem tw_469 : Cond.methodLink RL 87 yX8_met ∈ TB := tb_t 543 (by decide +kernel) rfl
theorem tw_470 : Cond.instanceMethod yX8_met ∈ TB := tb_t 544 (by decide +kernel) rfl
theorem tw_471 : Cond.selects RX8 yX8_met yX8_met ∈ TB := tb_t 545 (by decide +kernel) rfl
set_option maxRecDepth 100000 in
theorem tw_472 : Cond.code yX8_met cX8_met 3 (Option.some Jvm.ClassFile.FieldType.int) ∈ TB := tb_t 546 rfl rfl
theorem tw_473 : Cond.methodLink RL 91 yX8_grown ∈ TB := tb_t 547 (by decide +kernel) rfl
theorem tw_474 : Cond.instanceMethod yX8_grown ∈ TB := tb_t 548 (by decide +kernel) rfl
theorem tw_475 : Cond.selects RX8 yX8_grown yX8_grown ∈ TB := tb_t 549 (by decide +kernel) rfl
set_option maxRecDepth 100000 in
theorem tw_476 : Cond.code yX8_grown cX8_grown 3 (Option.some Jvm.ClassFile.FieldType.int) ∈ TB := tb_t 550 rfl rfl
theorem tw_477 : Cond.methodLink RL 95 yX8_table ∈ TB := tb_t 551 (by decide +kernel) rfl
theorem tw_478 : Cond.instanceMethod yX8_table ∈ TB := tb_t 552 (by decide +kernel) rfl
theorem tw_479 : Cond.selects RX8 yX8_table yX8_table ∈ TB := tb_t 553 (by decide +kernel) rfl
set_option maxRecDepth 100000 in
theorem tw_480 : Cond.code yX8_table cX8_table 2 (Option.some Jvm.ClassFile.FieldType.int) ∈ TB := tb_t 554 rfl rfl
theorem tw_481 : Cond.methodLink RL 99 yX8_digit ∈ TB := tb_t 555 (by decide +kernel) rfl
theorem tw_482 : Cond.instanceMethod yX8_digit ∈ TB := tb_t 556 (by decide +kernel) rfl
theorem tw_483 : Cond.selects RX8 yX8_digit yX8_digit ∈ TB := tb_t 557 (by decide +kernel) rfl
set_option maxRecDepth 100000 in
theorem tw_484 : Cond.code yX8_digit cX8_digit 2 (Option.some Jvm.ClassFile.FieldType.int) ∈ TB := tb_t 558 rfl rfl
theorem tw_485 : Cond.methodLink RL 103 yX8_count ∈ TB := tb_t 559 (by decide +kernel) rfl
theorem tw_486 : Cond.instanceMethod yX8_count ∈ TB := tb_t 560 (by decide +kernel) rfl
theorem tw_487 : Cond.selects RX8 yX8_count yX8_count ∈ TB := tb_t 561 (by decide +kernel) rfl
set_option maxRecDepth 100000 in
theorem tw_488 : Cond.code yX8_count cX8_count 2 (Option.some Jvm.ClassFile.FieldType.int) ∈ TB := tb_t 562 rfl rfl
theorem tw_489 : Cond.methodLink RX8 176 yX8_filtersInChain ∈ TB := tb_t 563 (by decide +kernel) rfl
theorem tw_490 : Cond.instanceMethod yX8_filtersInChain ∈ TB := tb_t 565 (by decide +kernel) rfl
set_option maxRecDepth 100000 in
theorem tw_491 : Cond.code yX8_filtersInChain cX8_filtersInChain 3 (Option.some Jvm.ClassFile.FieldType.int) ∈ TB := tb_t 566 rfl rfl
theorem tw_492 : Cond.classLink RL 10 RX9 ∈ TB := tb_t 567 (by decide +kernel) rfl
theorem tw_493 : Cond.instantiable RX9 43 ∈ TB := tb_t 568 (by decide +kernel) rfl
theorem tw_494 : Cond.methodLink RL 12 yX9_init ∈ TB := tb_t 569 (by decide +kernel) rfl
theorem tw_495 : Cond.instanceMethod yX9_init ∈ TB := tb_t 570 (by decide +kernel) rfl
set_option maxRecDepth 100000 in
theorem tw_496 : Cond.code yX9_init cX9_init 1 (Option.none : Option Jvm.ClassFile.FieldType) ∈ TB := tb_t 571 rfl rfl
theorem tw_497 : Cond.methodLink RX9 1 (⟨"java/lang/Object", "<init>", "()V"⟩ : MethodName) ∈ TB := tb_t 572 (by decide +kernel) rfl
theorem tw_498 : Cond.fieldLink RX9 106 "SignTablesModel" "units" "I" ∈ TB := tb_t 573 (by decide +kernel) rfl
theorem tw_499 : Cond.fieldLink RX9 120 "SignTablesModel" "mark" "I" ∈ TB := tb_t 574 (by decide +kernel) rfl
theorem tw_500 : Cond.fieldLink RX9 7 "SignTablesModel" "unit" "[I" ∈ TB := tb_t 575 (by decide +kernel) rfl
theorem tw_501 : Cond.fieldLink RX9 135 "SignTablesModel" "texts" "I" ∈ TB := tb_t 576 (by decide +kernel) rfl
theorem tw_502 : Cond.fieldLink RX9 13 "SignTablesModel" "text" "[I" ∈ TB := tb_t 577 (by decide +kernel) rfl
theorem tw_503 : Cond.fieldLink RX9 16 "SignTablesModel" "textFrom" "[I" ∈ TB := tb_t 578 (by decide +kernel) rfl
theorem tw_504 : Cond.fieldLink RX9 19 "SignTablesModel" "textTo" "[I" ∈ TB := tb_t 579 (by decide +kernel) rfl
theorem tw_505 : Cond.fieldLink RX9 155 "SignTablesModel" "folds" "I" ∈ TB := tb_t 580 (by decide +kernel) rfl
theorem tw_506 : Cond.fieldLink RX9 22 "SignTablesModel" "foldOf" "[I" ∈ TB := tb_t 581 (by decide +kernel) rfl
theorem tw_507 : Cond.fieldLink RX9 25 "SignTablesModel" "foldSize" "[I" ∈ TB := tb_t 582 (by decide +kernel) rfl
theorem tw_508 : Cond.fieldLink RX9 28 "SignTablesModel" "fold" "[I" ∈ TB := tb_t 583 (by decide +kernel) rfl
theorem tw_509 : Cond.fieldLink RX9 168 "SignTablesModel" "pairs" "I" ∈ TB := tb_t 584 (by decide +kernel) rfl
theorem tw_510 : Cond.fieldLink RX9 31 "SignTablesModel" "pairFirst" "[I" ∈ TB := tb_t 585 (by decide +kernel) rfl
theorem tw_511 : Cond.fieldLink RX9 34 "SignTablesModel" "pairSecond" "[I" ∈ TB := tb_t 586 (by decide +kernel) rfl
theorem tw_512 : Cond.fieldLink RX9 37 "SignTablesModel" "pairSign" "[I" ∈ TB := tb_t 587 (by decide +kernel) rfl
theorem tw_513 : Cond.fieldLink RX9 175 "SignTablesModel" "zeros" "I" ∈ TB := tb_t 588 (by decide +kernel) rfl
theorem tw_514 : Cond.fieldLink RX9 40 "SignTablesModel" "zero" "[I" ∈ TB := tb_t 589 (by decide +kernel) rfl
theorem tw_515 : Cond.fieldLink RX9 178 "SignTablesModel" "ranges" "I" ∈ TB := tb_t 590 (by decide +kernel) rfl
theorem tw_516 : Cond.fieldLink RX9 43 "SignTablesModel" "rangeFirst" "[I" ∈ TB := tb_t 591 (by decide +kernel) rfl
theorem tw_517 : Cond.fieldLink RX9 46 "SignTablesModel" "rangeLast" "[I" ∈ TB := tb_t 592 (by decide +kernel) rfl
theorem tw_518 : Cond.fieldLink RX9 149 "SignTablesModel" "strings" "I" ∈ TB := tb_t 593 (by decide +kernel) rfl
theorem tw_519 : Cond.fieldLink RX9 49 "SignTablesModel" "fromSize" "[I" ∈ TB := tb_t 594 (by decide +kernel) rfl
theorem tw_520 : Cond.fieldLink RX9 52 "SignTablesModel" "toSize" "[I" ∈ TB := tb_t 595 (by decide +kernel) rfl
theorem tw_521 : Cond.fieldLink RX9 55 "SignTablesModel" "from" "[I" ∈ TB := tb_t 596 (by decide +kernel) rfl
theorem tw_522 : Cond.fieldLink RX9 58 "SignTablesModel" "to" "[I" ∈ TB := tb_t 597 (by decide +kernel) rfl
theorem tw_523 : Cond.fieldLink RX9 61 "SignTablesModel" "chain" "[I" ∈ TB := tb_t 598 (by decide +kernel) rfl
theorem tw_524 : Cond.fieldLink RX9 64 "SignTablesModel" "ruleOf" "[I" ∈ TB := tb_t 599 (by decide +kernel) rfl
theorem tw_525 : Cond.fieldLink RX9 67 "SignTablesModel" "met" "[I" ∈ TB := tb_t 600 (by decide +kernel) rfl
theorem tw_526 : Cond.fieldLink RX9 70 "SignTablesModel" "grown" "[I" ∈ TB := tb_t 601 (by decide +kernel) rfl
theorem tw_527 : Cond.fieldLink RX9 73 "SignTablesModel" "newMet" "[I" ∈ TB := tb_t 602 (by decide +kernel) rfl
theorem tw_528 : Cond.fieldLink RX9 76 "SignTablesModel" "newGrown" "[I" ∈ TB := tb_t 603 (by decide +kernel) rfl
theorem tw_529 : Cond.fieldLink RX9 226 "SignTablesModel" "outs" "I" ∈ TB := tb_t 604 (by decide +kernel) rfl
theorem tw_530 : Cond.fieldLink RX9 79 "SignTablesModel" "out" "[I" ∈ TB := tb_t 605 (by decide +kernel) rfl
theorem tw_531 : Cond.fieldLink RX9 82 "SignTablesModel" "outFrom" "[I" ∈ TB := tb_t 606 (by decide +kernel) rfl
theorem tw_532 : Cond.fieldLink RX9 85 "SignTablesModel" "outTo" "[I" ∈ TB := tb_t 607 (by decide +kernel) rfl
theorem tw_533 : Cond.fieldLink RX9 194 "SignTablesModel" "reads" "I" ∈ TB := tb_t 608 (by decide +kernel) rfl
theorem tw_534 : Cond.fieldLink RX9 88 "SignTablesModel" "read" "[I" ∈ TB := tb_t 609 (by decide +kernel) rfl
theorem tw_535 : Cond.fieldLink RX9 91 "SignTablesModel" "readFrom" "[I" ∈ TB := tb_t 610 (by decide +kernel) rfl
theorem tw_536 : Cond.fieldLink RX9 94 "SignTablesModel" "readTo" "[I" ∈ TB := tb_t 611 (by decide +kernel) rfl
theorem tw_537 : Cond.fieldLink RX9 184 "SignTablesModel" "lays" "I" ∈ TB := tb_t 612 (by decide +kernel) rfl
theorem tw_538 : Cond.fieldLink RX9 97 "SignTablesModel" "laid" "[I" ∈ TB := tb_t 613 (by decide +kernel) rfl
theorem tw_539 : Cond.fieldLink RX9 100 "SignTablesModel" "laidFrom" "[I" ∈ TB := tb_t 614 (by decide +kernel) rfl
theorem tw_540 : Cond.fieldLink RX9 103 "SignTablesModel" "laidTo" "[I" ∈ TB := tb_t 615 (by decide +kernel) rfl
theorem tw_541 : Cond.lays RX9 "SignTablesModel" "units" "I" ∈ TB := tb_t 616 (by decide +kernel) rfl
theorem tw_542 : Cond.lays RX9 "SignTablesModel" "mark" "I" ∈ TB := tb_t 618 (by decide +kernel) rfl
theorem tw_543 : Cond.laysFinal RX9 "SignTablesModel" "unit" "[I" ∈ TB := tb_t 620 (by decide +kernel) rfl
theorem tw_544 : Cond.lays RX9 "SignTablesModel" "texts" "I" ∈ TB := tb_t 622 (by decide +kernel) rfl
theorem tw_545 : Cond.laysFinal RX9 "SignTablesModel" "text" "[I" ∈ TB := tb_t 624 (by decide +kernel) rfl
theorem tw_546 : Cond.laysFinal RX9 "SignTablesModel" "textFrom" "[I" ∈ TB := tb_t 626 (by decide +kernel) rfl
theorem tw_547 : Cond.laysFinal RX9 "SignTablesModel" "textTo" "[I" ∈ TB := tb_t 628 (by decide +kernel) rfl
theorem tw_548 : Cond.lays RX9 "SignTablesModel" "folds" "I" ∈ TB := tb_t 630 (by decide +kernel) rfl
theorem tw_549 : Cond.laysFinal RX9 "SignTablesModel" "foldOf" "[I" ∈ TB := tb_t 632 (by decide +kernel) rfl
theorem tw_550 : Cond.laysFinal RX9 "SignTablesModel" "foldSize" "[I" ∈ TB := tb_t 634 (by decide +kernel) rfl
theorem tw_551 : Cond.laysFinal RX9 "SignTablesModel" "fold" "[I" ∈ TB := tb_t 636 (by decide +kernel) rfl
theorem tw_552 : Cond.lays RX9 "SignTablesModel" "pairs" "I" ∈ TB := tb_t 638 (by decide +kernel) rfl
theorem tw_553 : Cond.laysFinal RX9 "SignTablesModel" "pairFirst" "[I" ∈ TB := tb_t 640 (by decide +kernel) rfl
theorem tw_554 : Cond.laysFinal RX9 "SignTablesModel" "pairSecond" "[I" ∈ TB := tb_t 642 (by decide +kernel) rfl
theorem tw_555 : Cond.laysFinal RX9 "SignTablesModel" "pairSign" "[I" ∈ TB := tb_t 644 (by decide +kernel) rfl
theorem tw_556 : Cond.lays RX9 "SignTablesModel" "zeros" "I" ∈ TB := tb_t 646 (by decide +kernel) rfl
theorem tw_557 : Cond.laysFinal RX9 "SignTablesModel" "zero" "[I" ∈ TB := tb_t 648 (by decide +kernel) rfl
theorem tw_558 : Cond.lays RX9 "SignTablesModel" "ranges" "I" ∈ TB := tb_t 650 (by decide +kernel) rfl
theorem tw_559 : Cond.laysFinal RX9 "SignTablesModel" "rangeFirst" "[I" ∈ TB := tb_t 652 (by decide +kernel) rfl
theorem tw_560 : Cond.laysFinal RX9 "SignTablesModel" "rangeLast" "[I" ∈ TB := tb_t 654 (by decide +kernel) rfl
theorem tw_561 : Cond.lays RX9 "SignTablesModel" "strings" "I" ∈ TB := tb_t 656 (by decide +kernel) rfl
theorem tw_562 : Cond.laysFinal RX9 "SignTablesModel" "fromSize" "[I" ∈ TB := tb_t 658 (by decide +kernel) rfl
theorem tw_563 : Cond.laysFinal RX9 "SignTablesModel" "toSize" "[I" ∈ TB := tb_t 660 (by decide +kernel) rfl
theorem tw_564 : Cond.laysFinal RX9 "SignTablesModel" "from" "[I" ∈ TB := tb_t 662 (by decide +kernel) rfl
theorem tw_565 : Cond.laysFinal RX9 "SignTablesModel" "to" "[I" ∈ TB := tb_t 664 (by decide +kernel) rfl
theorem tw_566 : Cond.laysFinal RX9 "SignTablesModel" "chain" "[I" ∈ TB := tb_t 666 (by decide +kernel) rfl
theorem tw_567 : Cond.laysFinal RX9 "SignTablesModel" "ruleOf" "[I" ∈ TB := tb_t 668 (by decide +kernel) rfl
theorem tw_568 : Cond.laysFinal RX9 "SignTablesModel" "met" "[I" ∈ TB := tb_t 670 (by decide +kernel) rfl
theorem tw_569 : Cond.laysFinal RX9 "SignTablesModel" "grown" "[I" ∈ TB := tb_t 672 (by decide +kernel) rfl
theorem tw_570 : Cond.laysFinal RX9 "SignTablesModel" "newMet" "[I" ∈ TB := tb_t 674 (by decide +kernel) rfl
theorem tw_571 : Cond.laysFinal RX9 "SignTablesModel" "newGrown" "[I" ∈ TB := tb_t 676 (by decide +kernel) rfl
theorem tw_572 : Cond.lays RX9 "SignTablesModel" "outs" "I" ∈ TB := tb_t 678 (by decide +kernel) rfl
theorem tw_573 : Cond.laysFinal RX9 "SignTablesModel" "out" "[I" ∈ TB := tb_t 680 (by decide +kernel) rfl
theorem tw_574 : Cond.laysFinal RX9 "SignTablesModel" "outFrom" "[I" ∈ TB := tb_t 682 (by decide +kernel) rfl
theorem tw_575 : Cond.laysFinal RX9 "SignTablesModel" "outTo" "[I" ∈ TB := tb_t 684 (by decide +kernel) rfl
theorem tw_576 : Cond.lays RX9 "SignTablesModel" "reads" "I" ∈ TB := tb_t 686 (by decide +kernel) rfl
theorem tw_577 : Cond.laysFinal RX9 "SignTablesModel" "read" "[I" ∈ TB := tb_t 688 (by decide +kernel) rfl
theorem tw_578 : Cond.laysFinal RX9 "SignTablesModel" "readFrom" "[I" ∈ TB := tb_t 690 (by decide +kernel) rfl
theorem tw_579 : Cond.laysFinal RX9 "SignTablesModel" "readTo" "[I" ∈ TB := tb_t 692 (by decide +kernel) rfl
theorem tw_580 : Cond.lays RX9 "SignTablesModel" "lays" "I" ∈ TB := tb_t 694 (by decide +kernel) rfl
theorem tw_581 : Cond.laysFinal RX9 "SignTablesModel" "laid" "[I" ∈ TB := tb_t 696 (by decide +kernel) rfl
theorem tw_582 : Cond.laysFinal RX9 "SignTablesModel" "laidFrom" "[I" ∈ TB := tb_t 698 (by decide +kernel) rfl
theorem tw_583 : Cond.laysFinal RX9 "SignTablesModel" "laidTo" "[I" ∈ TB := tb_t 700 (by decide +kernel) rfl
theorem tw_584 : Cond.methodLink RL 17 yX9_unit ∈ TB := tb_t 703 (by decide +kernel) rfl
theorem tw_585 : Cond.instanceMethod yX9_unit ∈ TB := tb_t 704 (by decide +kernel) rfl
theorem tw_586 : Cond.selects RX9 yX9_unit yX9_unit ∈ TB := tb_t 705 (by decide +kernel) rfl
set_option maxRecDepth 100000 in
theorem tw_587 : Cond.code yX9_unit cX9_unit 2 (Option.some Jvm.ClassFile.FieldType.int) ∈ TB := tb_t 706 rfl rfl
theorem tw_588 : Cond.constant RX9 119 (65535) ∈ TB := tb_t 707 (by decide +kernel) rfl
theorem tw_589 : Cond.methodLink RL 22 yX9_mark ∈ TB := tb_t 708 (by decide +kernel) rfl
theorem tw_590 : Cond.instanceMethod yX9_mark ∈ TB := tb_t 709 (by decide +kernel) rfl
theorem tw_591 : Cond.selects RX9 yX9_mark yX9_mark ∈ TB := tb_t 710 (by decide +kernel) rfl
set_option maxRecDepth 100000 in
theorem tw_592 : Cond.code yX9_mark cX9_mark 1 (Option.some Jvm.ClassFile.FieldType.int) ∈ TB := tb_t 711 rfl rfl
theorem tw_593 : Cond.methodLink RL 26 yX9_text ∈ TB := tb_t 712 (by decide +kernel) rfl
theorem tw_594 : Cond.instanceMethod yX9_text ∈ TB := tb_t 713 (by decide +kernel) rfl
theorem tw_595 : Cond.selects RX9 yX9_text yX9_text ∈ TB := tb_t 714 (by decide +kernel) rfl
set_option maxRecDepth 100000 in
theorem tw_596 : Cond.code yX9_text cX9_text 2 (Option.some Jvm.ClassFile.FieldType.int) ∈ TB := tb_t 715 rfl rfl
theorem tw_597 : Cond.methodLink RX9 138 yX9_signAt ∈ TB := tb_t 716 (by decide +kernel) rfl
theorem tw_598 : Cond.instanceMethod yX9_signAt ∈ TB := tb_t 718 (by decide +kernel) rfl
set_option maxRecDepth 100000 in
theorem tw_599 : Cond.code yX9_signAt cX9_signAt 3 (Option.some Jvm.ClassFile.FieldType.int) ∈ TB := tb_t 719 rfl rfl
theorem tw_600 : Cond.methodLink RX9 130 yX9_isTwo ∈ TB := tb_t 720 (by decide +kernel) rfl
theorem tw_601 : Cond.instanceMethod yX9_isTwo ∈ TB := tb_t 722 (by decide +kernel) rfl
set_option maxRecDepth 100000 in
theorem tw_602 : Cond.code yX9_isTwo cX9_isTwo 3 (Option.some Jvm.ClassFile.FieldType.boolean) ∈ TB := tb_t 723 rfl rfl
theorem tw_603 : Cond.methodLink RX9 123 yX9_isHigh ∈ TB := tb_t 724 (by decide +kernel) rfl
theorem tw_604 : Cond.static yX9_isHigh ∈ TB := tb_t 725 (by decide +kernel) rfl
set_option maxRecDepth 100000 in
theorem tw_605 : Cond.code yX9_isHigh cX9_isHigh 1 (Option.some Jvm.ClassFile.FieldType.boolean) ∈ TB := tb_t 726 rfl rfl
theorem tw_606 : Cond.constant RX9 115 (55296) ∈ TB := tb_t 727 (by decide +kernel) rfl
theorem tw_607 : Cond.constant RX9 116 (56319) ∈ TB := tb_t 728 (by decide +kernel) rfl
theorem tw_608 : Cond.methodLink RX9 111 yX9_isIn ∈ TB := tb_t 729 (by decide +kernel) rfl
theorem tw_609 : Cond.static yX9_isIn ∈ TB := tb_t 730 (by decide +kernel) rfl
set_option maxRecDepth 100000 in
theorem tw_610 : Cond.code yX9_isIn cX9_isIn 3 (Option.some Jvm.ClassFile.FieldType.boolean) ∈ TB := tb_t 731 rfl rfl
theorem tw_611 : Cond.methodLink RX9 127 yX9_isLow ∈ TB := tb_t 732 (by decide +kernel) rfl
theorem tw_612 : Cond.static yX9_isLow ∈ TB := tb_t 733 (by decide +kernel) rfl
set_option maxRecDepth 100000 in
theorem tw_613 : Cond.code yX9_isLow cX9_isLow 1 (Option.some Jvm.ClassFile.FieldType.boolean) ∈ TB := tb_t 734 rfl rfl
theorem tw_614 : Cond.constant RX9 117 (56320) ∈ TB := tb_t 735 (by decide +kernel) rfl
theorem tw_615 : Cond.constant RX9 118 (57343) ∈ TB := tb_t 736 (by decide +kernel) rfl
theorem tw_616 : Cond.constant RX9 134 (65536) ∈ TB := tb_t 737 (by decide +kernel) rfl
theorem tw_617 : Cond.methodLink RX9 142 yX9_emptyDraft ∈ TB := tb_t 738 (by decide +kernel) rfl
theorem tw_618 : Cond.instanceMethod yX9_emptyDraft ∈ TB := tb_t 740 (by decide +kernel) rfl
set_option maxRecDepth 100000 in
theorem tw_619 : Cond.code yX9_emptyDraft cX9_emptyDraft 1 (Option.none : Option Jvm.ClassFile.FieldType) ∈ TB := tb_t 741 rfl rfl
theorem tw_620 : Cond.methodLink RL 30 yX9_string ∈ TB := tb_t 742 (by decide +kernel) rfl
theorem tw_621 : Cond.instanceMethod yX9_string ∈ TB := tb_t 743 (by decide +kernel) rfl
theorem tw_622 : Cond.selects RX9 yX9_string yX9_string ∈ TB := tb_t 744 (by decide +kernel) rfl
set_option maxRecDepth 100000 in
theorem tw_623 : Cond.code yX9_string cX9_string 3 (Option.some Jvm.ClassFile.FieldType.int) ∈ TB := tb_t 745 rfl rfl
theorem tw_624 : Cond.methodLink RX9 145 yX9_signsOf ∈ TB := tb_t 746 (by decide +kernel) rfl
theorem tw_625 : Cond.instanceMethod yX9_signsOf ∈ TB := tb_t 748 (by decide +kernel) rfl
set_option maxRecDepth 100000 in
theorem tw_626 : Cond.code yX9_signsOf cX9_signsOf 7 (Option.some Jvm.ClassFile.FieldType.int) ∈ TB := tb_t 749 rfl rfl
theorem tw_627 : Cond.methodLink RX9 152 yX9_isSameRow ∈ TB := tb_t 750 (by decide +kernel) rfl
theorem tw_628 : Cond.instanceMethod yX9_isSameRow ∈ TB := tb_t 752 (by decide +kernel) rfl
set_option maxRecDepth 100000 in
theorem tw_629 : Cond.code yX9_isSameRow cX9_isSameRow 5 (Option.some Jvm.ClassFile.FieldType.boolean) ∈ TB := tb_t 753 rfl rfl
theorem tw_630 : Cond.methodLink RL 35 yX9_fold ∈ TB := tb_t 754 (by decide +kernel) rfl
theorem tw_631 : Cond.instanceMethod yX9_fold ∈ TB := tb_t 755 (by decide +kernel) rfl
theorem tw_632 : Cond.selects RX9 yX9_fold yX9_fold ∈ TB := tb_t 756 (by decide +kernel) rfl
set_option maxRecDepth 100000 in
theorem tw_633 : Cond.code yX9_fold cX9_fold 6 (Option.some Jvm.ClassFile.FieldType.int) ∈ TB := tb_t 757 rfl rfl
theorem tw_634 : Cond.methodLink RX9 158 yX9_isSign ∈ TB := tb_t 758 (by decide +kernel) rfl
theorem tw_635 : Cond.static yX9_isSign ∈ TB := tb_t 759 (by decide +kernel) rfl
set_option maxRecDepth 100000 in
theorem tw_636 : Cond.code yX9_isSign cX9_isSign 1 (Option.some Jvm.ClassFile.FieldType.boolean) ∈ TB := tb_t 760 rfl rfl
theorem tw_637 : Cond.constant RX9 110 (1114111) ∈ TB := tb_t 761 (by decide +kernel) rfl
theorem tw_638 : Cond.methodLink RX9 161 yX9_isSignOrNone ∈ TB := tb_t 762 (by decide +kernel) rfl
theorem tw_639 : Cond.static yX9_isSignOrNone ∈ TB := tb_t 763 (by decide +kernel) rfl
set_option maxRecDepth 100000 in
theorem tw_640 : Cond.code yX9_isSignOrNone cX9_isSignOrNone 1 (Option.some Jvm.ClassFile.FieldType.boolean) ∈ TB := tb_t 764 rfl rfl
theorem tw_641 : Cond.methodLink RX9 164 yX9_foldAt ∈ TB := tb_t 765 (by decide +kernel) rfl
theorem tw_642 : Cond.instanceMethod yX9_foldAt ∈ TB := tb_t 767 (by decide +kernel) rfl
set_option maxRecDepth 100000 in
theorem tw_643 : Cond.code yX9_foldAt cX9_foldAt 4 (Option.some Jvm.ClassFile.FieldType.int) ∈ TB := tb_t 768 rfl rfl
theorem tw_644 : Cond.methodLink RL 40 yX9_pair ∈ TB := tb_t 769 (by decide +kernel) rfl
theorem tw_645 : Cond.instanceMethod yX9_pair ∈ TB := tb_t 770 (by decide +kernel) rfl
theorem tw_646 : Cond.selects RX9 yX9_pair yX9_pair ∈ TB := tb_t 771 (by decide +kernel) rfl
set_option maxRecDepth 100000 in
theorem tw_647 : Cond.code yX9_pair cX9_pair 5 (Option.some Jvm.ClassFile.FieldType.int) ∈ TB := tb_t 772 rfl rfl
theorem tw_648 : Cond.methodLink RX9 171 yX9_pairAt ∈ TB := tb_t 773 (by decide +kernel) rfl
theorem tw_649 : Cond.instanceMethod yX9_pairAt ∈ TB := tb_t 775 (by decide +kernel) rfl
set_option maxRecDepth 100000 in
theorem tw_650 : Cond.code yX9_pairAt cX9_pairAt 5 (Option.some Jvm.ClassFile.FieldType.int) ∈ TB := tb_t 776 rfl rfl
theorem tw_651 : Cond.methodLink RL 44 yX9_zero ∈ TB := tb_t 777 (by decide +kernel) rfl
theorem tw_652 : Cond.instanceMethod yX9_zero ∈ TB := tb_t 778 (by decide +kernel) rfl
theorem tw_653 : Cond.selects RX9 yX9_zero yX9_zero ∈ TB := tb_t 779 (by decide +kernel) rfl
set_option maxRecDepth 100000 in
theorem tw_654 : Cond.code yX9_zero cX9_zero 2 (Option.some Jvm.ClassFile.FieldType.int) ∈ TB := tb_t 780 rfl rfl
theorem tw_655 : Cond.constant RX9 174 (1114102) ∈ TB := tb_t 781 (by decide +kernel) rfl
theorem tw_656 : Cond.methodLink RL 49 yX9_range ∈ TB := tb_t 782 (by decide +kernel) rfl
theorem tw_657 : Cond.instanceMethod yX9_range ∈ TB := tb_t 783 (by decide +kernel) rfl
theorem tw_658 : Cond.selects RX9 yX9_range yX9_range ∈ TB := tb_t 784 (by decide +kernel) rfl
set_option maxRecDepth 100000 in
theorem tw_659 : Cond.code yX9_range cX9_range 3 (Option.some Jvm.ClassFile.FieldType.int) ∈ TB := tb_t 785 rfl rfl
theorem tw_660 : Cond.methodLink RL 53 yX9_filter ∈ TB := tb_t 786 (by decide +kernel) rfl
theorem tw_661 : Cond.instanceMethod yX9_filter ∈ TB := tb_t 787 (by decide +kernel) rfl
theorem tw_662 : Cond.selects RX9 yX9_filter yX9_filter ∈ TB := tb_t 788 (by decide +kernel) rfl
set_option maxRecDepth 100000 in
theorem tw_663 : Cond.code yX9_filter cX9_filter 3 (Option.some Jvm.ClassFile.FieldType.int) ∈ TB := tb_t 789 rfl rfl
theorem tw_664 : Cond.methodLink RX9 181 yX9_isPlace ∈ TB := tb_t 790 (by decide +kernel) rfl
theorem tw_665 : Cond.static yX9_isPlace ∈ TB := tb_t 791 (by decide +kernel) rfl
set_option maxRecDepth 100000 in
theorem tw_666 : Cond.code yX9_isPlace cX9_isPlace 1 (Option.some Jvm.ClassFile.FieldType.boolean) ∈ TB := tb_t 792 rfl rfl
theorem tw_667 : Cond.methodLink RL 57 yX9_drop ∈ TB := tb_t 793 (by decide +kernel) rfl
theorem tw_668 : Cond.instanceMethod yX9_drop ∈ TB := tb_t 794 (by decide +kernel) rfl
theorem tw_669 : Cond.selects RX9 yX9_drop yX9_drop ∈ TB := tb_t 795 (by decide +kernel) rfl
set_option maxRecDepth 100000 in
theorem tw_670 : Cond.code yX9_drop cX9_drop 3 (Option.some Jvm.ClassFile.FieldType.int) ∈ TB := tb_t 796 rfl rfl
theorem tw_671 : Cond.methodLink RL 61 yX9_rule ∈ TB := tb_t 797 (by decide +kernel) rfl
theorem tw_672 : Cond.instanceMethod yX9_rule ∈ TB := tb_t 798 (by decide +kernel) rfl
theorem tw_673 : Cond.selects RX9 yX9_rule yX9_rule ∈ TB := tb_t 799 (by decide +kernel) rfl
set_option maxRecDepth 100000 in
theorem tw_674 : Cond.code yX9_rule cX9_rule 4 (Option.some Jvm.ClassFile.FieldType.int) ∈ TB := tb_t 800 rfl rfl
theorem tw_675 : Cond.methodLink RL 65 yX9_run ∈ TB := tb_t 801 (by decide +kernel) rfl
theorem tw_676 : Cond.instanceMethod yX9_run ∈ TB := tb_t 802 (by decide +kernel) rfl
theorem tw_677 : Cond.selects RX9 yX9_run yX9_run ∈ TB := tb_t 803 (by decide +kernel) rfl
set_option maxRecDepth 100000 in
theorem tw_678 : Cond.code yX9_run cX9_run 2 (Option.some Jvm.ClassFile.FieldType.int) ∈ TB := tb_t 804 rfl rfl
theorem tw_679 : Cond.methodLink RX9 223 yX9_goesThrough ∈ TB := tb_t 805 (by decide +kernel) rfl
theorem tw_680 : Cond.instanceMethod yX9_goesThrough ∈ TB := tb_t 807 (by decide +kernel) rfl
set_option maxRecDepth 100000 in
theorem tw_681 : Cond.code yX9_goesThrough cX9_goesThrough 4 (Option.some Jvm.ClassFile.FieldType.boolean) ∈ TB := tb_t 808 rfl rfl
theorem tw_682 : Cond.methodLink RX9 210 yX9_folding ∈ TB := tb_t 809 (by decide +kernel) rfl
theorem tw_683 : Cond.instanceMethod yX9_folding ∈ TB := tb_t 811 (by decide +kernel) rfl
set_option maxRecDepth 100000 in
theorem tw_684 : Cond.code yX9_folding cX9_folding 5 (Option.none : Option Jvm.ClassFile.FieldType) ∈ TB := tb_t 812 rfl rfl
theorem tw_685 : Cond.methodLink RX9 187 yX9_lay ∈ TB := tb_t 813 (by decide +kernel) rfl
theorem tw_686 : Cond.instanceMethod yX9_lay ∈ TB := tb_t 815 (by decide +kernel) rfl
set_option maxRecDepth 100000 in
theorem tw_687 : Cond.code yX9_lay cX9_lay 4 (Option.none : Option Jvm.ClassFile.FieldType) ∈ TB := tb_t 816 rfl rfl
theorem tw_688 : Cond.methodLink RX9 191 yX9_unitsOf ∈ TB := tb_t 817 (by decide +kernel) rfl
theorem tw_689 : Cond.static yX9_unitsOf ∈ TB := tb_t 818 (by decide +kernel) rfl
set_option maxRecDepth 100000 in
theorem tw_690 : Cond.code yX9_unitsOf cX9_unitsOf 1 (Option.some Jvm.ClassFile.FieldType.int) ∈ TB := tb_t 819 rfl rfl
theorem tw_691 : Cond.methodLink RX9 214 yX9_composing ∈ TB := tb_t 820 (by decide +kernel) rfl
theorem tw_692 : Cond.instanceMethod yX9_composing ∈ TB := tb_t 822 (by decide +kernel) rfl
set_option maxRecDepth 100000 in
theorem tw_693 : Cond.code yX9_composing cX9_composing 4 (Option.none : Option Jvm.ClassFile.FieldType) ∈ TB := tb_t 823 rfl rfl
theorem tw_694 : Cond.methodLink RX9 217 yX9_replacing ∈ TB := tb_t 824 (by decide +kernel) rfl
theorem tw_695 : Cond.instanceMethod yX9_replacing ∈ TB := tb_t 826 (by decide +kernel) rfl
set_option maxRecDepth 100000 in
theorem tw_696 : Cond.code yX9_replacing cX9_replacing 6 (Option.some Jvm.ClassFile.FieldType.int) ∈ TB := tb_t 827 rfl rfl
theorem tw_697 : Cond.methodLink RX9 197 yX9_stringAt ∈ TB := tb_t 828 (by decide +kernel) rfl
theorem tw_698 : Cond.instanceMethod yX9_stringAt ∈ TB := tb_t 830 (by decide +kernel) rfl
set_option maxRecDepth 100000 in
theorem tw_699 : Cond.code yX9_stringAt cX9_stringAt 6 (Option.some Jvm.ClassFile.FieldType.int) ∈ TB := tb_t 831 rfl rfl
theorem tw_700 : Cond.methodLink RX9 220 yX9_changed ∈ TB := tb_t 832 (by decide +kernel) rfl
theorem tw_701 : Cond.instanceMethod yX9_changed ∈ TB := tb_t 834 (by decide +kernel) rfl
set_option maxRecDepth 100000 in
theorem tw_702 : Cond.code yX9_changed cX9_changed 7 (Option.none : Option Jvm.ClassFile.FieldType) ∈ TB := tb_t 835 rfl rfl
theorem tw_703 : Cond.methodLink RX9 200 yX9_digitOf ∈ TB := tb_t 836 (by decide +kernel) rfl
theorem tw_704 : Cond.instanceMethod yX9_digitOf ∈ TB := tb_t 838 (by decide +kernel) rfl
set_option maxRecDepth 100000 in
theorem tw_705 : Cond.code yX9_digitOf cX9_digitOf 4 (Option.some Jvm.ClassFile.FieldType.int) ∈ TB := tb_t 839 rfl rfl
theorem tw_706 : Cond.methodLink RX9 203 yX9_isDropped ∈ TB := tb_t 840 (by decide +kernel) rfl
theorem tw_707 : Cond.instanceMethod yX9_isDropped ∈ TB := tb_t 842 (by decide +kernel) rfl
set_option maxRecDepth 100000 in
theorem tw_708 : Cond.code yX9_isDropped cX9_isDropped 4 (Option.some Jvm.ClassFile.FieldType.boolean) ∈ TB := tb_t 843 rfl rfl
theorem tw_709 : Cond.constant RX9 206 (65533) ∈ TB := tb_t 844 (by decide +kernel) rfl
theorem tw_710 : Cond.constant RX9 207 (65281) ∈ TB := tb_t 845 (by decide +kernel) rfl
theorem tw_711 : Cond.constant RX9 208 (65374) ∈ TB := tb_t 846 (by decide +kernel) rfl
theorem tw_712 : Cond.constant RX9 209 (65248) ∈ TB := tb_t 847 (by decide +kernel) rfl
theorem tw_713 : Cond.methodLink RL 69 yX9_sign ∈ TB := tb_t 848 (by decide +kernel) rfl
theorem tw_714 : Cond.instanceMethod yX9_sign ∈ TB := tb_t 849 (by decide +kernel) rfl
theorem tw_715 : Cond.selects RX9 yX9_sign yX9_sign ∈ TB := tb_t 850 (by decide +kernel) rfl
set_option maxRecDepth 100000 in
theorem tw_716 : Cond.code yX9_sign cX9_sign 2 (Option.some Jvm.ClassFile.FieldType.int) ∈ TB := tb_t 851 rfl rfl
theorem tw_717 : Cond.methodLink RX9 229 yX9_isOut ∈ TB := tb_t 852 (by decide +kernel) rfl
theorem tw_718 : Cond.instanceMethod yX9_isOut ∈ TB := tb_t 854 (by decide +kernel) rfl
set_option maxRecDepth 100000 in
theorem tw_719 : Cond.code yX9_isOut cX9_isOut 2 (Option.some Jvm.ClassFile.FieldType.boolean) ∈ TB := tb_t 855 rfl rfl
theorem tw_720 : Cond.methodLink RL 74 yX9_place ∈ TB := tb_t 856 (by decide +kernel) rfl
theorem tw_721 : Cond.instanceMethod yX9_place ∈ TB := tb_t 857 (by decide +kernel) rfl
theorem tw_722 : Cond.selects RX9 yX9_place yX9_place ∈ TB := tb_t 858 (by decide +kernel) rfl
set_option maxRecDepth 100000 in
theorem tw_723 : Cond.code yX9_place cX9_place 3 (Option.some Jvm.ClassFile.FieldType.int) ∈ TB := tb_t 859 rfl rfl
theorem tw_724 : Cond.methodLink RL 82 yX9_units ∈ TB := tb_t 860 (by decide +kernel) rfl
theorem tw_725 : Cond.instanceMethod yX9_units ∈ TB := tb_t 861 (by decide +kernel) rfl
theorem tw_726 : Cond.selects RX9 yX9_units yX9_units ∈ TB := tb_t 862 (by decide +kernel) rfl
set_option maxRecDepth 100000 in
theorem tw_727 : Cond.code yX9_units cX9_units 3 (Option.some Jvm.ClassFile.FieldType.int) ∈ TB := tb_t 863 rfl rfl
theorem tw_728 : Cond.methodLink RL 78 yX9_unitAt ∈ TB := tb_t 864 (by decide +kernel) rfl
theorem tw_729 : Cond.instanceMethod yX9_unitAt ∈ TB := tb_t 865 (by decide +kernel) rfl
theorem tw_730 : Cond.selects RX9 yX9_unitAt yX9_unitAt ∈ TB := tb_t 866 (by decide +kernel) rfl
set_option maxRecDepth 100000 in
theorem tw_731 : Cond.code yX9_unitAt cX9_unitAt 6 (Option.some Jvm.ClassFile.FieldType.int) ∈ TB := tb_t 867 rfl rfl
theorem tw_732 : Cond.methodLink RL 86 yX9_broken ∈ TB := tb_t 868 (by decide +kernel) rfl
theorem tw_733 : Cond.instanceMethod yX9_broken ∈ TB := tb_t 869 (by decide +kernel) rfl
theorem tw_734 : Cond.selects RX9 yX9_broken yX9_broken ∈ TB := tb_t 870 (by decide +kernel) rfl
set_option maxRecDepth 100000 in
theorem tw_735 : Cond.code yX9_broken cX9_broken 4 (Option.some Jvm.ClassFile.FieldType.int) ∈ TB := tb_t 871 rfl rfl
theorem tw_736 : Cond.methodLink RX9 232 yX9_classOf ∈ TB := tb_t 872 (by decide +kernel) rfl
theorem tw_737 : Cond.static yX9_classOf ∈ TB := tb_t 873 (by decide +kernel) rfl
set_option maxRecDepth 100000 in
theorem tw_738 : Cond.code yX9_classOf cX9_classOf 1 (Option.some Jvm.ClassFile.FieldType.int) ∈ TB := tb_t 874 rfl rfl
theorem tw_739 : Cond.methodLink RL 90 yX9_met ∈ TB := tb_t 875 (by decide +kernel) rfl
theorem tw_740 : Cond.instanceMethod yX9_met ∈ TB := tb_t 876 (by decide +kernel) rfl
theorem tw_741 : Cond.selects RX9 yX9_met yX9_met ∈ TB := tb_t 877 (by decide +kernel) rfl
set_option maxRecDepth 100000 in
theorem tw_742 : Cond.code yX9_met cX9_met 2 (Option.some Jvm.ClassFile.FieldType.int) ∈ TB := tb_t 878 rfl rfl
theorem tw_743 : Cond.methodLink RL 94 yX9_grown ∈ TB := tb_t 879 (by decide +kernel) rfl
theorem tw_744 : Cond.instanceMethod yX9_grown ∈ TB := tb_t 880 (by decide +kernel) rfl
theorem tw_745 : Cond.selects RX9 yX9_grown yX9_grown ∈ TB := tb_t 881 (by decide +kernel) rfl
set_option maxRecDepth 100000 in
theorem tw_746 : Cond.code yX9_grown cX9_grown 2 (Option.some Jvm.ClassFile.FieldType.int) ∈ TB := tb_t 882 rfl rfl
theorem tw_747 : Cond.methodLink RL 98 yX9_table ∈ TB := tb_t 883 (by decide +kernel) rfl
theorem tw_748 : Cond.instanceMethod yX9_table ∈ TB := tb_t 884 (by decide +kernel) rfl
theorem tw_749 : Cond.selects RX9 yX9_table yX9_table ∈ TB := tb_t 885 (by decide +kernel) rfl
set_option maxRecDepth 100000 in
theorem tw_750 : Cond.code yX9_table cX9_table 2 (Option.some Jvm.ClassFile.FieldType.int) ∈ TB := tb_t 886 rfl rfl
theorem tw_751 : Cond.methodLink RL 102 yX9_digit ∈ TB := tb_t 887 (by decide +kernel) rfl
theorem tw_752 : Cond.instanceMethod yX9_digit ∈ TB := tb_t 888 (by decide +kernel) rfl
theorem tw_753 : Cond.selects RX9 yX9_digit yX9_digit ∈ TB := tb_t 889 (by decide +kernel) rfl
set_option maxRecDepth 100000 in
theorem tw_754 : Cond.code yX9_digit cX9_digit 2 (Option.some Jvm.ClassFile.FieldType.int) ∈ TB := tb_t 890 rfl rfl
theorem tw_755 : Cond.methodLink RL 106 yX9_count ∈ TB := tb_t 891 (by decide +kernel) rfl
theorem tw_756 : Cond.instanceMethod yX9_count ∈ TB := tb_t 892 (by decide +kernel) rfl
theorem tw_757 : Cond.selects RX9 yX9_count yX9_count ∈ TB := tb_t 893 (by decide +kernel) rfl
set_option maxRecDepth 100000 in
theorem tw_758 : Cond.code yX9_count cX9_count 4 (Option.some Jvm.ClassFile.FieldType.int) ∈ TB := tb_t 894 rfl rfl
theorem tw_759 : Cond.selects RX8 yX8_readSigns yX8_readSigns ∈ TB := tb_p 0 (by decide +kernel) rfl
theorem tw_760 : Cond.selects RX8 yX8_emptyDraft yX8_emptyDraft ∈ TB := tb_p 1 (by decide +kernel) rfl
theorem tw_761 : Cond.selects RX6 yX6_slotOf yX6_slotOf ∈ TB := tb_p 2 (by decide +kernel) rfl
theorem tw_762 : Cond.selects RX8 yX8_passThrough yX8_passThrough ∈ TB := tb_p 3 (by decide +kernel) rfl
theorem tw_763 : Cond.selects RX8 yX8_passFolding yX8_passFolding ∈ TB := tb_p 4 (by decide +kernel) rfl
theorem tw_764 : Cond.selects RX8 yX8_passComposing yX8_passComposing ∈ TB := tb_p 5 (by decide +kernel) rfl
theorem tw_765 : Cond.selects RX8 yX8_passDigits yX8_passDigits ∈ TB := tb_p 6 (by decide +kernel) rfl
theorem tw_766 : Cond.selects RX8 yX8_passDropping yX8_passDropping ∈ TB := tb_p 7 (by decide +kernel) rfl
theorem tw_767 : Cond.selects RX8 yX8_passReplacing yX8_passReplacing ∈ TB := tb_p 8 (by decide +kernel) rfl
theorem tw_768 : Cond.selects RX8 yX8_passHalves yX8_passHalves ∈ TB := tb_p 9 (by decide +kernel) rfl
theorem tw_769 : Cond.selects RX8 yX8_passWidths yX8_passWidths ∈ TB := tb_p 10 (by decide +kernel) rfl
theorem tw_770 : Cond.selects RX8 yX8_settleFilters yX8_settleFilters ∈ TB := tb_p 11 (by decide +kernel) rfl
theorem tw_771 : Cond.selects RX8 yX8_filtersInChain yX8_filtersInChain ∈ TB := tb_p 12 (by decide +kernel) rfl
theorem tw_772 : Cond.selects RX9 yX9_signAt yX9_signAt ∈ TB := tb_p 13 (by decide +kernel) rfl
theorem tw_773 : Cond.selects RX9 yX9_isTwo yX9_isTwo ∈ TB := tb_p 14 (by decide +kernel) rfl
theorem tw_774 : Cond.selects RX9 yX9_emptyDraft yX9_emptyDraft ∈ TB := tb_p 15 (by decide +kernel) rfl
theorem tw_775 : Cond.selects RX9 yX9_signsOf yX9_signsOf ∈ TB := tb_p 16 (by decide +kernel) rfl
theorem tw_776 : Cond.selects RX9 yX9_isSameRow yX9_isSameRow ∈ TB := tb_p 17 (by decide +kernel) rfl
theorem tw_777 : Cond.selects RX9 yX9_foldAt yX9_foldAt ∈ TB := tb_p 18 (by decide +kernel) rfl
theorem tw_778 : Cond.selects RX9 yX9_pairAt yX9_pairAt ∈ TB := tb_p 19 (by decide +kernel) rfl
theorem tw_779 : Cond.selects RX9 yX9_goesThrough yX9_goesThrough ∈ TB := tb_p 20 (by decide +kernel) rfl
theorem tw_780 : Cond.selects RX9 yX9_folding yX9_folding ∈ TB := tb_p 21 (by decide +kernel) rfl
theorem tw_781 : Cond.selects RX9 yX9_lay yX9_lay ∈ TB := tb_p 22 (by decide +kernel) rfl
theorem tw_782 : Cond.selects RX9 yX9_composing yX9_composing ∈ TB := tb_p 23 (by decide +kernel) rfl
theorem tw_783 : Cond.selects RX9 yX9_replacing yX9_replacing ∈ TB := tb_p 24 (by decide +kernel) rfl
theorem tw_784 : Cond.selects RX9 yX9_stringAt yX9_stringAt ∈ TB := tb_p 25 (by decide +kernel) rfl
theorem tw_785 : Cond.selects RX9 yX9_changed yX9_changed ∈ TB := tb_p 26 (by decide +kernel) rfl
theorem tw_786 : Cond.selects RX9 yX9_digitOf yX9_digitOf ∈ TB := tb_p 27 (by decide +kernel) rfl
theorem tw_787 : Cond.selects RX9 yX9_isDropped yX9_isDropped ∈ TB := tb_p 28 (by decide +kernel) rfl
theorem tw_788 : Cond.selects RX9 yX9_isOut yX9_isOut ∈ TB := tb_p 29 (by decide +kernel) rfl
theorem inT0 : ∀ w ∈ u_ws RX0 TX0 6, w ∈ TB := tb_u (fun k hk => match k, hk with | 0, _ => tw_310 | 1, _ => tw_311 | 2, _ => tw_312 | 3, _ => tw_313 | 4, _ => tw_314 | 5, _ => tw_315 | k + 6, h => absurd h (by omega))
theorem inT1 : ∀ w ∈ u_ws RX1 TX1 5, w ∈ TB := tb_u (fun k hk => match k, hk with | 0, _ => tw_32 | 1, _ => tw_33 | 2, _ => tw_34 | 3, _ => tw_35 | 4, _ => tw_36 | k + 5, h => absurd h (by omega))
theorem inT2 : ∀ w ∈ u_ws RX2 TX2 4, w ∈ TB := tb_u (fun k hk => match k, hk with | 0, _ => tw_47 | 1, _ => tw_48 | 2, _ => tw_49 | 3, _ => tw_50 | k + 4, h => absurd h (by omega))
theorem inT3 : ∀ w ∈ u_ws RX3 TX3 3, w ∈ TB := tb_u (fun k hk => match k, hk with | 0, _ => tw_68 | 1, _ => tw_69 | 2, _ => tw_70 | k + 3, h => absurd h (by omega))
theorem inT4 : ∀ w ∈ u_ws RX4 TX4 2, w ∈ TB := tb_u (fun k hk => match k, hk with | 0, _ => tw_215 | 1, _ => tw_216 | k + 2, h => absurd h (by omega))
theorem inT5 : ∀ w ∈ u_ws RX5 TX5 4, w ∈ TB := tb_u (fun k hk => match k, hk with | 0, _ => tw_91 | 1, _ => tw_92 | 2, _ => tw_93 | 3, _ => tw_94 | k + 4, h => absurd h (by omega))
theorem inT6 : ∀ w ∈ u_ws RX6 TX6 2, w ∈ TB := tb_u (fun k hk => match k, hk with | 0, _ => tw_79 | 1, _ => tw_80 | k + 2, h => absurd h (by omega))
theorem inT7 : ∀ w ∈ u_ws RX7 TX7 2, w ∈ TB := tb_u (fun k hk => match k, hk with | 0, _ => tw_58 | 1, _ => tw_59 | k + 2, h => absurd h (by omega))
theorem inT8 : ∀ w ∈ u_ws RX8 TX8 13, w ∈ TB := tb_u (fun k hk => match k, hk with | 0, _ => tw_108 | 1, _ => tw_109 | 2, _ => tw_110 | 3, _ => tw_111 | 4, _ => tw_112 | 5, _ => tw_113 | 6, _ => tw_114 | 7, _ => tw_115 | 8, _ => tw_116 | 9, _ => tw_117 | 10, _ => tw_118 | 11, _ => tw_119 | 12, _ => tw_120 | k + 13, h => absurd h (by omega))
theorem inT9 : ∀ w ∈ u_ws RX9 TX9 43, w ∈ TB := tb_u (fun k hk => match k, hk with | 0, _ => tw_541 | 1, _ => tw_542 | 2, _ => tw_543 | 3, _ => tw_544 | 4, _ => tw_545 | 5, _ => tw_546 | 6, _ => tw_547 | 7, _ => tw_548 | 8, _ => tw_549 | 9, _ => tw_550 | 10, _ => tw_551 | 11, _ => tw_552 | 12, _ => tw_553 | 13, _ => tw_554 | 14, _ => tw_555 | 15, _ => tw_556 | 16, _ => tw_557 | 17, _ => tw_558 | 18, _ => tw_559 | 19, _ => tw_560 | 20, _ => tw_561 | 21, _ => tw_562 | 22, _ => tw_563 | 23, _ => tw_564 | 24, _ => tw_565 | 25, _ => tw_566 | 26, _ => tw_567 | 27, _ => tw_568 | 28, _ => tw_569 | 29, _ => tw_570 | 30, _ => tw_571 | 31, _ => tw_572 | 32, _ => tw_573 | 33, _ => tw_574 | 34, _ => tw_575 | 35, _ => tw_576 | 36, _ => tw_577 | 37, _ => tw_578 | 38, _ => tw_579 | 39, _ => tw_580 | 40, _ => tw_581 | 41, _ => tw_582 | 42, _ => tw_583 | k + 43, h => absurd h (by omega))
