section
-- ===== PART A: goes FIRST, ahead of the names: the tables' words, and 'selects' of the private methods out of them =====
/-- a private method of a class that the tables say can be made, by its rows of tables_1 -/
def lw_okq (q : MethodName × Nat) : Prop := (q.1.cls ≠ "java/lang/invoke/MethodHandle" ∧ q.1.cls ≠ "java/lang/invoke/VarHandle") ∧ Cond.instantiable q.1.cls q.2 ∈ tables_1 ∧ Cond.privateMethod q.1 ∈ tables_1 ∧ Cond.instanceMethod q.1 ∈ tables_1
theorem lw_p0 : lw_okq (⟨"SignTables", "readSigns", "(IILSignTables$SignRow;)V"⟩, 13) := ⟨⟨by decide +kernel, by decide +kernel⟩, List.mem_of_getElem? (i := 15) (by decide +kernel), List.mem_of_getElem? (i := 183) (by decide +kernel), List.mem_of_getElem? (i := 184) (by decide +kernel)⟩
theorem lw_p1 : lw_okq (⟨"SignTables", "emptyDraft", "()V"⟩, 13) := ⟨⟨by decide +kernel, by decide +kernel⟩, List.mem_of_getElem? (i := 15) (by decide +kernel), List.mem_of_getElem? (i := 205) (by decide +kernel), List.mem_of_getElem? (i := 206) (by decide +kernel)⟩
theorem lw_p2 : lw_okq (⟨"SignTables$StringTable", "slotOf", "(LSignTables$SignRow;)I"⟩, 2) := ⟨⟨by decide +kernel, by decide +kernel⟩, List.mem_of_getElem? (i := 94) (by decide +kernel), List.mem_of_getElem? (i := 221) (by decide +kernel), List.mem_of_getElem? (i := 222) (by decide +kernel)⟩
theorem lw_p3 : lw_okq (⟨"SignTables", "passThrough", "(LSignTables$Filter;LSignTables$SignRow;LSignTables$SignRow;)Z"⟩, 13) := ⟨⟨by decide +kernel, by decide +kernel⟩, List.mem_of_getElem? (i := 15) (by decide +kernel), List.mem_of_getElem? (i := 413) (by decide +kernel), List.mem_of_getElem? (i := 414) (by decide +kernel)⟩
theorem lw_p4 : lw_okq (⟨"SignTables", "passFolding", "(LSignTables$Filter;LSignTables$SignRow;LSignTables$SignRow;)Z"⟩, 13) := ⟨⟨by decide +kernel, by decide +kernel⟩, List.mem_of_getElem? (i := 15) (by decide +kernel), List.mem_of_getElem? (i := 417) (by decide +kernel), List.mem_of_getElem? (i := 418) (by decide +kernel)⟩
theorem lw_p5 : lw_okq (⟨"SignTables", "passComposing", "(LSignTables$Filter;LSignTables$SignRow;LSignTables$SignRow;)Z"⟩, 13) := ⟨⟨by decide +kernel, by decide +kernel⟩, List.mem_of_getElem? (i := 15) (by decide +kernel), List.mem_of_getElem? (i := 451) (by decide +kernel), List.mem_of_getElem? (i := 452) (by decide +kernel)⟩
theorem lw_p6 : lw_okq (⟨"SignTables", "passDigits", "(LSignTables$Filter;LSignTables$SignRow;LSignTables$SignRow;)Z"⟩, 13) := ⟨⟨by decide +kernel, by decide +kernel⟩, List.mem_of_getElem? (i := 15) (by decide +kernel), List.mem_of_getElem? (i := 464) (by decide +kernel), List.mem_of_getElem? (i := 465) (by decide +kernel)⟩
theorem lw_p7 : lw_okq (⟨"SignTables", "passDropping", "(LSignTables$Filter;LSignTables$SignRow;LSignTables$SignRow;)Z"⟩, 13) := ⟨⟨by decide +kernel, by decide +kernel⟩, List.mem_of_getElem? (i := 15) (by decide +kernel), List.mem_of_getElem? (i := 472) (by decide +kernel), List.mem_of_getElem? (i := 473) (by decide +kernel)⟩
theorem lw_p8 : lw_okq (⟨"SignTables", "passReplacing", "(LSignTables$Filter;LSignTables$SignRow;LSignTables$SignRow;)Z"⟩, 13) := ⟨⟨by decide +kernel, by decide +kernel⟩, List.mem_of_getElem? (i := 15) (by decide +kernel), List.mem_of_getElem? (i := 480) (by decide +kernel), List.mem_of_getElem? (i := 481) (by decide +kernel)⟩
theorem lw_p9 : lw_okq (⟨"SignTables", "passHalves", "(LSignTables$Filter;LSignTables$SignRow;LSignTables$SignRow;)Z"⟩, 13) := ⟨⟨by decide +kernel, by decide +kernel⟩, List.mem_of_getElem? (i := 15) (by decide +kernel), List.mem_of_getElem? (i := 494) (by decide +kernel), List.mem_of_getElem? (i := 495) (by decide +kernel)⟩
theorem lw_p10 : lw_okq (⟨"SignTables", "passWidths", "(LSignTables$Filter;LSignTables$SignRow;LSignTables$SignRow;)Z"⟩, 13) := ⟨⟨by decide +kernel, by decide +kernel⟩, List.mem_of_getElem? (i := 15) (by decide +kernel), List.mem_of_getElem? (i := 499) (by decide +kernel), List.mem_of_getElem? (i := 500) (by decide +kernel)⟩
theorem lw_p11 : lw_okq (⟨"SignTables", "settleFilters", "()V"⟩, 13) := ⟨⟨by decide +kernel, by decide +kernel⟩, List.mem_of_getElem? (i := 15) (by decide +kernel), List.mem_of_getElem? (i := 509) (by decide +kernel), List.mem_of_getElem? (i := 510) (by decide +kernel)⟩
theorem lw_p12 : lw_okq (⟨"SignTables", "filtersInChain", "()I"⟩, 13) := ⟨⟨by decide +kernel, by decide +kernel⟩, List.mem_of_getElem? (i := 15) (by decide +kernel), List.mem_of_getElem? (i := 564) (by decide +kernel), List.mem_of_getElem? (i := 565) (by decide +kernel)⟩
theorem lw_p13 : lw_okq (⟨"SignTablesModel", "signAt", "(II)I"⟩, 43) := ⟨⟨by decide +kernel, by decide +kernel⟩, List.mem_of_getElem? (i := 568) (by decide +kernel), List.mem_of_getElem? (i := 717) (by decide +kernel), List.mem_of_getElem? (i := 718) (by decide +kernel)⟩
theorem lw_p14 : lw_okq (⟨"SignTablesModel", "isTwo", "(II)Z"⟩, 43) := ⟨⟨by decide +kernel, by decide +kernel⟩, List.mem_of_getElem? (i := 568) (by decide +kernel), List.mem_of_getElem? (i := 721) (by decide +kernel), List.mem_of_getElem? (i := 722) (by decide +kernel)⟩
theorem lw_p15 : lw_okq (⟨"SignTablesModel", "emptyDraft", "()V"⟩, 43) := ⟨⟨by decide +kernel, by decide +kernel⟩, List.mem_of_getElem? (i := 568) (by decide +kernel), List.mem_of_getElem? (i := 739) (by decide +kernel), List.mem_of_getElem? (i := 740) (by decide +kernel)⟩
def lw_privs_1 : List (MethodName × Nat) := [(⟨"SignTables", "readSigns", "(IILSignTables$SignRow;)V"⟩, 13), (⟨"SignTables", "emptyDraft", "()V"⟩, 13), (⟨"SignTables$StringTable", "slotOf", "(LSignTables$SignRow;)I"⟩, 2), (⟨"SignTables", "passThrough", "(LSignTables$Filter;LSignTables$SignRow;LSignTables$SignRow;)Z"⟩, 13), (⟨"SignTables", "passFolding", "(LSignTables$Filter;LSignTables$SignRow;LSignTables$SignRow;)Z"⟩, 13), (⟨"SignTables", "passComposing", "(LSignTables$Filter;LSignTables$SignRow;LSignTables$SignRow;)Z"⟩, 13), (⟨"SignTables", "passDigits", "(LSignTables$Filter;LSignTables$SignRow;LSignTables$SignRow;)Z"⟩, 13), (⟨"SignTables", "passDropping", "(LSignTables$Filter;LSignTables$SignRow;LSignTables$SignRow;)Z"⟩, 13), (⟨"SignTables", "passReplacing", "(LSignTables$Filter;LSignTables$SignRow;LSignTables$SignRow;)Z"⟩, 13), (⟨"SignTables", "passHalves", "(LSignTables$Filter;LSignTables$SignRow;LSignTables$SignRow;)Z"⟩, 13), (⟨"SignTables", "passWidths", "(LSignTables$Filter;LSignTables$SignRow;LSignTables$SignRow;)Z"⟩, 13), (⟨"SignTables", "settleFilters", "()V"⟩, 13), (⟨"SignTables", "filtersInChain", "()I"⟩, 13), (⟨"SignTablesModel", "signAt", "(II)I"⟩, 43), (⟨"SignTablesModel", "isTwo", "(II)Z"⟩, 43), (⟨"SignTablesModel", "emptyDraft", "()V"⟩, 43)]
theorem lw_r1 : ∀ q ∈ lw_privs_1, lw_okq q := List.forall_mem_cons.mpr ⟨lw_p0, List.forall_mem_cons.mpr ⟨lw_p1, List.forall_mem_cons.mpr ⟨lw_p2, List.forall_mem_cons.mpr ⟨lw_p3, List.forall_mem_cons.mpr ⟨lw_p4, List.forall_mem_cons.mpr ⟨lw_p5, List.forall_mem_cons.mpr ⟨lw_p6, List.forall_mem_cons.mpr ⟨lw_p7, List.forall_mem_cons.mpr ⟨lw_p8, List.forall_mem_cons.mpr ⟨lw_p9, List.forall_mem_cons.mpr ⟨lw_p10, List.forall_mem_cons.mpr ⟨lw_p11, List.forall_mem_cons.mpr ⟨lw_p12, List.forall_mem_cons.mpr ⟨lw_p13, List.forall_mem_cons.mpr ⟨lw_p14, List.forall_mem_cons.mpr ⟨lw_p15, fun _ h => absurd h List.not_mem_nil⟩⟩⟩⟩⟩⟩⟩⟩⟩⟩⟩⟩⟩⟩⟩⟩
theorem lw_p16 : lw_okq (⟨"SignTablesModel", "signsOf", "(II[II)I"⟩, 43) := ⟨⟨by decide +kernel, by decide +kernel⟩, List.mem_of_getElem? (i := 568) (by decide +kernel), List.mem_of_getElem? (i := 747) (by decide +kernel), List.mem_of_getElem? (i := 748) (by decide +kernel)⟩
theorem lw_p17 : lw_okq (⟨"SignTablesModel", "isSameRow", "(II)Z"⟩, 43) := ⟨⟨by decide +kernel, by decide +kernel⟩, List.mem_of_getElem? (i := 568) (by decide +kernel), List.mem_of_getElem? (i := 751) (by decide +kernel), List.mem_of_getElem? (i := 752) (by decide +kernel)⟩
theorem lw_p18 : lw_okq (⟨"SignTablesModel", "foldAt", "(I)I"⟩, 43) := ⟨⟨by decide +kernel, by decide +kernel⟩, List.mem_of_getElem? (i := 568) (by decide +kernel), List.mem_of_getElem? (i := 766) (by decide +kernel), List.mem_of_getElem? (i := 767) (by decide +kernel)⟩
theorem lw_p19 : lw_okq (⟨"SignTablesModel", "pairAt", "(II)I"⟩, 43) := ⟨⟨by decide +kernel, by decide +kernel⟩, List.mem_of_getElem? (i := 568) (by decide +kernel), List.mem_of_getElem? (i := 774) (by decide +kernel), List.mem_of_getElem? (i := 775) (by decide +kernel)⟩
theorem lw_p20 : lw_okq (⟨"SignTablesModel", "goesThrough", "(I)Z"⟩, 43) := ⟨⟨by decide +kernel, by decide +kernel⟩, List.mem_of_getElem? (i := 568) (by decide +kernel), List.mem_of_getElem? (i := 806) (by decide +kernel), List.mem_of_getElem? (i := 807) (by decide +kernel)⟩
theorem lw_p21 : lw_okq (⟨"SignTablesModel", "folding", "(II)V"⟩, 43) := ⟨⟨by decide +kernel, by decide +kernel⟩, List.mem_of_getElem? (i := 568) (by decide +kernel), List.mem_of_getElem? (i := 810) (by decide +kernel), List.mem_of_getElem? (i := 811) (by decide +kernel)⟩
theorem lw_p22 : lw_okq (⟨"SignTablesModel", "lay", "(III)V"⟩, 43) := ⟨⟨by decide +kernel, by decide +kernel⟩, List.mem_of_getElem? (i := 568) (by decide +kernel), List.mem_of_getElem? (i := 814) (by decide +kernel), List.mem_of_getElem? (i := 815) (by decide +kernel)⟩
theorem lw_p23 : lw_okq (⟨"SignTablesModel", "composing", "(II)V"⟩, 43) := ⟨⟨by decide +kernel, by decide +kernel⟩, List.mem_of_getElem? (i := 568) (by decide +kernel), List.mem_of_getElem? (i := 821) (by decide +kernel), List.mem_of_getElem? (i := 822) (by decide +kernel)⟩
theorem lw_p24 : lw_okq (⟨"SignTablesModel", "replacing", "(II)I"⟩, 43) := ⟨⟨by decide +kernel, by decide +kernel⟩, List.mem_of_getElem? (i := 568) (by decide +kernel), List.mem_of_getElem? (i := 825) (by decide +kernel), List.mem_of_getElem? (i := 826) (by decide +kernel)⟩
theorem lw_p25 : lw_okq (⟨"SignTablesModel", "stringAt", "(I)I"⟩, 43) := ⟨⟨by decide +kernel, by decide +kernel⟩, List.mem_of_getElem? (i := 568) (by decide +kernel), List.mem_of_getElem? (i := 829) (by decide +kernel), List.mem_of_getElem? (i := 830) (by decide +kernel)⟩
theorem lw_p26 : lw_okq (⟨"SignTablesModel", "changed", "(II)V"⟩, 43) := ⟨⟨by decide +kernel, by decide +kernel⟩, List.mem_of_getElem? (i := 568) (by decide +kernel), List.mem_of_getElem? (i := 833) (by decide +kernel), List.mem_of_getElem? (i := 834) (by decide +kernel)⟩
theorem lw_p27 : lw_okq (⟨"SignTablesModel", "digitOf", "(I)I"⟩, 43) := ⟨⟨by decide +kernel, by decide +kernel⟩, List.mem_of_getElem? (i := 568) (by decide +kernel), List.mem_of_getElem? (i := 837) (by decide +kernel), List.mem_of_getElem? (i := 838) (by decide +kernel)⟩
theorem lw_p28 : lw_okq (⟨"SignTablesModel", "isDropped", "(I)Z"⟩, 43) := ⟨⟨by decide +kernel, by decide +kernel⟩, List.mem_of_getElem? (i := 568) (by decide +kernel), List.mem_of_getElem? (i := 841) (by decide +kernel), List.mem_of_getElem? (i := 842) (by decide +kernel)⟩
theorem lw_p29 : lw_okq (⟨"SignTablesModel", "isOut", "(I)Z"⟩, 43) := ⟨⟨by decide +kernel, by decide +kernel⟩, List.mem_of_getElem? (i := 568) (by decide +kernel), List.mem_of_getElem? (i := 853) (by decide +kernel), List.mem_of_getElem? (i := 854) (by decide +kernel)⟩
def lw_privs_2 : List (MethodName × Nat) := [(⟨"SignTablesModel", "signsOf", "(II[II)I"⟩, 43), (⟨"SignTablesModel", "isSameRow", "(II)Z"⟩, 43), (⟨"SignTablesModel", "foldAt", "(I)I"⟩, 43), (⟨"SignTablesModel", "pairAt", "(II)I"⟩, 43), (⟨"SignTablesModel", "goesThrough", "(I)Z"⟩, 43), (⟨"SignTablesModel", "folding", "(II)V"⟩, 43), (⟨"SignTablesModel", "lay", "(III)V"⟩, 43), (⟨"SignTablesModel", "composing", "(II)V"⟩, 43), (⟨"SignTablesModel", "replacing", "(II)I"⟩, 43), (⟨"SignTablesModel", "stringAt", "(I)I"⟩, 43), (⟨"SignTablesModel", "changed", "(II)V"⟩, 43), (⟨"SignTablesModel", "digitOf", "(I)I"⟩, 43), (⟨"SignTablesModel", "isDropped", "(I)Z"⟩, 43), (⟨"SignTablesModel", "isOut", "(I)Z"⟩, 43)]
theorem lw_r2 : ∀ q ∈ lw_privs_2, lw_okq q := List.forall_mem_cons.mpr ⟨lw_p16, List.forall_mem_cons.mpr ⟨lw_p17, List.forall_mem_cons.mpr ⟨lw_p18, List.forall_mem_cons.mpr ⟨lw_p19, List.forall_mem_cons.mpr ⟨lw_p20, List.forall_mem_cons.mpr ⟨lw_p21, List.forall_mem_cons.mpr ⟨lw_p22, List.forall_mem_cons.mpr ⟨lw_p23, List.forall_mem_cons.mpr ⟨lw_p24, List.forall_mem_cons.mpr ⟨lw_p25, List.forall_mem_cons.mpr ⟨lw_p26, List.forall_mem_cons.mpr ⟨lw_p27, List.forall_mem_cons.mpr ⟨lw_p28, List.forall_mem_cons.mpr ⟨lw_p29, fun _ h => absurd h List.not_mem_nil⟩⟩⟩⟩⟩⟩⟩⟩⟩⟩⟩⟩⟩⟩
def lw_privs : List (MethodName × Nat) := lw_privs_1 ++ (lw_privs_2)
def lw_tbl : List Cond := k2_sels lw_privs ++ tables_1
theorem lw_privs_ok : ∀ q ∈ lw_privs, lw_okq q := by
  show ∀ q ∈ lw_privs_1 ++ (lw_privs_2), lw_okq q
  exact List.forall_mem_append.mpr ⟨lw_r1, lw_r2⟩
end
section
def RX0 : String := "SignTables$Filter"
def TX0 : u_T := fun k => match k with
  | 0 => ("SignTables$Filter", "kind", "I", true)
  | 1 => ("SignTables$Filter", "halvesRule", "I", false)
  | 2 => ("SignTables$Filter", "settledMet", "I", false)
  | 3 => ("SignTables$Filter", "settledGrown", "I", false)
  | 4 => ("SignTables$Filter", "runningMet", "I", false)
  | _ => ("SignTables$Filter", "runningGrown", "I", false)
def tyX0 : Nat → FieldType := fun k => match k with
  | 0 => .int
  | 1 => .int
  | 2 => .int
  | 3 => .int
  | 4 => .int
  | _ => .int
theorem nmX0 : ∀ a, a < 6 → ∀ b, b < 6 → a ≠ b → (TX0 a).2.1 ≠ (TX0 b).2.1 := by decide +kernel
theorem tyX0_ok : ∀ k, k < 6 → parseFieldDescriptor (TX0 k).2.2.1 = some (tyX0 k) := by decide +kernel
abbrev cX0_init : ByteArray := prog_2_method_1_code
def yX0_init : MethodName := ⟨RX0, "<init>", "(I)V"⟩
abbrev cX0_beginRun : ByteArray := prog_2_method_2_code
def yX0_beginRun : MethodName := ⟨RX0, "beginRun", "()V"⟩
abbrev cX0_meetOne : ByteArray := prog_2_method_3_code
def yX0_meetOne : MethodName := ⟨RX0, "meetOne", "()V"⟩
abbrev cX0_growBy : ByteArray := prog_2_method_4_code
def yX0_growBy : MethodName := ⟨RX0, "growBy", "(I)V"⟩
abbrev cX0_settleRun : ByteArray := prog_2_method_5_code
def yX0_settleRun : MethodName := ⟨RX0, "settleRun", "()V"⟩
def RX1 : String := "SignTables$FoldTable"
def TX1 : u_T := fun k => match k with
  | 0 => ("SignTables$FoldTable", "signs", "[I", true)
  | 1 => ("SignTables$FoldTable", "firsts", "[I", true)
  | 2 => ("SignTables$FoldTable", "seconds", "[I", true)
  | 3 => ("SignTables$FoldTable", "thirds", "[I", true)
  | _ => ("SignTables$FoldTable", "size", "I", false)
def tyX1 : Nat → FieldType := fun k => match k with
  | 0 => .array .int
  | 1 => .array .int
  | 2 => .array .int
  | 3 => .array .int
  | _ => .int
theorem nmX1 : ∀ a, a < 5 → ∀ b, b < 5 → a ≠ b → (TX1 a).2.1 ≠ (TX1 b).2.1 := by decide +kernel
theorem tyX1_ok : ∀ k, k < 5 → parseFieldDescriptor (TX1 k).2.2.1 = some (tyX1 k) := by decide +kernel
abbrev cX1_init : ByteArray := prog_3_method_1_code
def yX1_init : MethodName := ⟨RX1, "<init>", "()V"⟩
abbrev cX1_size : ByteArray := prog_3_method_2_code
def yX1_size : MethodName := ⟨RX1, "size", "()I"⟩
abbrev cX1_slotOf : ByteArray := prog_3_method_3_code
def yX1_slotOf : MethodName := ⟨RX1, "slotOf", "(I)I"⟩
abbrev cX1_put : ByteArray := prog_3_method_4_code
def yX1_put : MethodName := ⟨RX1, "put", "(IIII)Z"⟩
abbrev cX1_partAt : ByteArray := prog_3_method_5_code
def yX1_partAt : MethodName := ⟨RX1, "partAt", "(II)I"⟩
abbrev cX1_lengthAt : ByteArray := prog_3_method_6_code
def yX1_lengthAt : MethodName := ⟨RX1, "lengthAt", "(I)I"⟩
abbrev cX1_unitsAt : ByteArray := prog_3_method_7_code
def yX1_unitsAt : MethodName := ⟨RX1, "unitsAt", "(I)I"⟩
def RX2 : String := "SignTables$PairTable"
def TX2 : u_T := fun k => match k with
  | 0 => ("SignTables$PairTable", "firsts", "[I", true)
  | 1 => ("SignTables$PairTable", "seconds", "[I", true)
  | 2 => ("SignTables$PairTable", "signs", "[I", true)
  | _ => ("SignTables$PairTable", "size", "I", false)
def tyX2 : Nat → FieldType := fun k => match k with
  | 0 => .array .int
  | 1 => .array .int
  | 2 => .array .int
  | _ => .int
theorem nmX2 : ∀ a, a < 4 → ∀ b, b < 4 → a ≠ b → (TX2 a).2.1 ≠ (TX2 b).2.1 := by decide +kernel
theorem tyX2_ok : ∀ k, k < 4 → parseFieldDescriptor (TX2 k).2.2.1 = some (tyX2 k) := by decide +kernel
abbrev cX2_init : ByteArray := prog_4_method_1_code
def yX2_init : MethodName := ⟨RX2, "<init>", "()V"⟩
abbrev cX2_size : ByteArray := prog_4_method_2_code
def yX2_size : MethodName := ⟨RX2, "size", "()I"⟩
abbrev cX2_slotOf : ByteArray := prog_4_method_3_code
def yX2_slotOf : MethodName := ⟨RX2, "slotOf", "(II)I"⟩
abbrev cX2_signAt : ByteArray := prog_4_method_4_code
def yX2_signAt : MethodName := ⟨RX2, "signAt", "(I)I"⟩
abbrev cX2_put : ByteArray := prog_4_method_5_code
def yX2_put : MethodName := ⟨RX2, "put", "(III)Z"⟩
def RX3 : String := "SignTables$RangeTable"
def TX3 : u_T := fun k => match k with
  | 0 => ("SignTables$RangeTable", "firsts", "[I", true)
  | 1 => ("SignTables$RangeTable", "lasts", "[I", true)
  | _ => ("SignTables$RangeTable", "size", "I", false)
def tyX3 : Nat → FieldType := fun k => match k with
  | 0 => .array .int
  | 1 => .array .int
  | _ => .int
theorem nmX3 : ∀ a, a < 3 → ∀ b, b < 3 → a ≠ b → (TX3 a).2.1 ≠ (TX3 b).2.1 := by decide +kernel
theorem tyX3_ok : ∀ k, k < 3 → parseFieldDescriptor (TX3 k).2.2.1 = some (tyX3 k) := by decide +kernel
abbrev cX3_init : ByteArray := prog_5_method_1_code
def yX3_init : MethodName := ⟨RX3, "<init>", "()V"⟩
abbrev cX3_size : ByteArray := prog_5_method_2_code
def yX3_size : MethodName := ⟨RX3, "size", "()I"⟩
abbrev cX3_add : ByteArray := prog_5_method_3_code
def yX3_add : MethodName := ⟨RX3, "add", "(II)Z"⟩
abbrev cX3_holds : ByteArray := prog_5_method_4_code
def yX3_holds : MethodName := ⟨RX3, "holds", "(I)Z"⟩
def RX4 : String := "SignTables$Replacement"
def TX4 : u_T := fun k => match k with
  | 0 => ("SignTables$Replacement", "before", "[I", true)
  | _ => ("SignTables$Replacement", "after", "[I", true)
def tyX4 : Nat → FieldType := fun k => match k with
  | 0 => .array .int
  | _ => .array .int
theorem nmX4 : ∀ a, a < 2 → ∀ b, b < 2 → a ≠ b → (TX4 a).2.1 ≠ (TX4 b).2.1 := by decide +kernel
theorem tyX4_ok : ∀ k, k < 2 → parseFieldDescriptor (TX4 k).2.2.1 = some (tyX4 k) := by decide +kernel
abbrev cX4_init : ByteArray := prog_6_method_1_code
def yX4_init : MethodName := ⟨RX4, "<init>", "(LSignTables$SignRow;LSignTables$SignRow;)V"⟩
abbrev cX4_length : ByteArray := prog_6_method_2_code
def yX4_length : MethodName := ⟨RX4, "length", "()I"⟩
abbrev cX4_standsAt : ByteArray := prog_6_method_3_code
def yX4_standsAt : MethodName := ⟨RX4, "standsAt", "(LSignTables$SignRow;I)Z"⟩
abbrev cX4_writeTo : ByteArray := prog_6_method_4_code
def yX4_writeTo : MethodName := ⟨RX4, "writeTo", "(LSignTables$SignRow;II)Z"⟩
def RX5 : String := "SignTables$SignRow"
def TX5 : u_T := fun k => match k with
  | 0 => ("SignTables$SignRow", "signs", "[I", true)
  | 1 => ("SignTables$SignRow", "begins", "[I", true)
  | 2 => ("SignTables$SignRow", "ends", "[I", true)
  | _ => ("SignTables$SignRow", "size", "I", false)
def tyX5 : Nat → FieldType := fun k => match k with
  | 0 => .array .int
  | 1 => .array .int
  | 2 => .array .int
  | _ => .int
theorem nmX5 : ∀ a, a < 4 → ∀ b, b < 4 → a ≠ b → (TX5 a).2.1 ≠ (TX5 b).2.1 := by decide +kernel
theorem tyX5_ok : ∀ k, k < 4 → parseFieldDescriptor (TX5 k).2.2.1 = some (tyX5 k) := by decide +kernel
abbrev cX5_init : ByteArray := prog_7_method_1_code
def yX5_init : MethodName := ⟨RX5, "<init>", "()V"⟩
abbrev cX5_size : ByteArray := prog_7_method_2_code
def yX5_size : MethodName := ⟨RX5, "size", "()I"⟩
abbrev cX5_has : ByteArray := prog_7_method_3_code
def yX5_has : MethodName := ⟨RX5, "has", "(I)Z"⟩
abbrev cX5_signAt : ByteArray := prog_7_method_4_code
def yX5_signAt : MethodName := ⟨RX5, "signAt", "(I)I"⟩
abbrev cX5_beginAt : ByteArray := prog_7_method_5_code
def yX5_beginAt : MethodName := ⟨RX5, "beginAt", "(I)I"⟩
abbrev cX5_endAt : ByteArray := prog_7_method_6_code
def yX5_endAt : MethodName := ⟨RX5, "endAt", "(I)I"⟩
abbrev cX5_clear : ByteArray := prog_7_method_7_code
def yX5_clear : MethodName := ⟨RX5, "clear", "()V"⟩
abbrev cX5_add : ByteArray := prog_7_method_8_code
def yX5_add : MethodName := ⟨RX5, "add", "(III)Z"⟩
abbrev cX5_changeLast : ByteArray := prog_7_method_9_code
def yX5_changeLast : MethodName := ⟨RX5, "changeLast", "(II)V"⟩
abbrev cX5_copyFrom : ByteArray := prog_7_method_10_code
def yX5_copyFrom : MethodName := ⟨RX5, "copyFrom", "(LSignTables$SignRow;)V"⟩
abbrev cX5_signsAlone : ByteArray := prog_7_method_11_code
def yX5_signsAlone : MethodName := ⟨RX5, "signsAlone", "()[I"⟩
def RX6 : String := "SignTables$StringTable"
def TX6 : u_T := fun k => match k with
  | 0 => ("SignTables$StringTable", "replacements", "[LSignTables$Replacement;", true)
  | _ => ("SignTables$StringTable", "size", "I", false)
def tyX6 : Nat → FieldType := fun k => match k with
  | 0 => .array (.object "SignTables$Replacement")
  | _ => .int
theorem nmX6 : ∀ a, a < 2 → ∀ b, b < 2 → a ≠ b → (TX6 a).2.1 ≠ (TX6 b).2.1 := by decide +kernel
theorem tyX6_ok : ∀ k, k < 2 → parseFieldDescriptor (TX6 k).2.2.1 = some (tyX6 k) := by decide +kernel
abbrev cX6_init : ByteArray := prog_8_method_1_code
def yX6_init : MethodName := ⟨RX6, "<init>", "()V"⟩
abbrev cX6_size : ByteArray := prog_8_method_2_code
def yX6_size : MethodName := ⟨RX6, "size", "()I"⟩
abbrev cX6_put : ByteArray := prog_8_method_3_code
def yX6_put : MethodName := ⟨RX6, "put", "(LSignTables$SignRow;LSignTables$SignRow;)Z"⟩
abbrev cX6_slotOf : ByteArray := prog_8_method_4_code
def yX6_slotOf : MethodName := ⟨RX6, "slotOf", "(LSignTables$SignRow;)I"⟩
abbrev cX6_longestAt : ByteArray := prog_8_method_5_code
def yX6_longestAt : MethodName := ⟨RX6, "longestAt", "(LSignTables$SignRow;I)LSignTables$Replacement;"⟩
def RX7 : String := "SignTables$ZeroTable"
def TX7 : u_T := fun k => match k with
  | 0 => ("SignTables$ZeroTable", "signs", "[I", true)
  | _ => ("SignTables$ZeroTable", "size", "I", false)
def tyX7 : Nat → FieldType := fun k => match k with
  | 0 => .array .int
  | _ => .int
theorem nmX7 : ∀ a, a < 2 → ∀ b, b < 2 → a ≠ b → (TX7 a).2.1 ≠ (TX7 b).2.1 := by decide +kernel
theorem tyX7_ok : ∀ k, k < 2 → parseFieldDescriptor (TX7 k).2.2.1 = some (tyX7 k) := by decide +kernel
abbrev cX7_init : ByteArray := prog_9_method_1_code
def yX7_init : MethodName := ⟨RX7, "<init>", "()V"⟩
abbrev cX7_size : ByteArray := prog_9_method_2_code
def yX7_size : MethodName := ⟨RX7, "size", "()I"⟩
abbrev cX7_add : ByteArray := prog_9_method_3_code
def yX7_add : MethodName := ⟨RX7, "add", "(I)Z"⟩
abbrev cX7_digitOf : ByteArray := prog_9_method_4_code
def yX7_digitOf : MethodName := ⟨RX7, "digitOf", "(I)I"⟩
def RX8 : String := "SignTables"
def TX8 : u_T := fun k => match k with
  | 0 => ("SignTables", "draft", "[I", true)
  | 1 => ("SignTables", "draftSize", "I", false)
  | 2 => ("SignTables", "markAt", "I", false)
  | 3 => ("SignTables", "folds", "LSignTables$FoldTable;", true)
  | 4 => ("SignTables", "pairs", "LSignTables$PairTable;", true)
  | 5 => ("SignTables", "zeros", "LSignTables$ZeroTable;", true)
  | 6 => ("SignTables", "ranges", "LSignTables$RangeTable;", true)
  | 7 => ("SignTables", "strings", "LSignTables$StringTable;", true)
  | 8 => ("SignTables", "chain", "[LSignTables$Filter;", true)
  | 9 => ("SignTables", "source", "LSignTables$SignRow;", true)
  | 10 => ("SignTables", "latest", "LSignTables$SignRow;", false)
  | 11 => ("SignTables", "spareOne", "LSignTables$SignRow;", false)
  | _ => ("SignTables", "spareTwo", "LSignTables$SignRow;", false)
def tyX8 : Nat → FieldType := fun k => match k with
  | 0 => .array .int
  | 1 => .int
  | 2 => .int
  | 3 => .object "SignTables$FoldTable"
  | 4 => .object "SignTables$PairTable"
  | 5 => .object "SignTables$ZeroTable"
  | 6 => .object "SignTables$RangeTable"
  | 7 => .object "SignTables$StringTable"
  | 8 => .array (.object "SignTables$Filter")
  | 9 => .object "SignTables$SignRow"
  | 10 => .object "SignTables$SignRow"
  | 11 => .object "SignTables$SignRow"
  | _ => .object "SignTables$SignRow"
theorem nmX8 : ∀ a, a < 13 → ∀ b, b < 13 → a ≠ b → (TX8 a).2.1 ≠ (TX8 b).2.1 := by decide +kernel
theorem tyX8_ok : ∀ k, k < 13 → parseFieldDescriptor (TX8 k).2.2.1 = some (tyX8 k) := by decide +kernel
abbrev cX8_init : ByteArray := prog_1_method_1_code
def yX8_init : MethodName := ⟨RX8, "<init>", "()V"⟩
abbrev cX8_unit : ByteArray := prog_1_method_2_code
def yX8_unit : MethodName := ⟨RX8, "unit", "(I)I"⟩
abbrev cX8_mark : ByteArray := prog_1_method_3_code
def yX8_mark : MethodName := ⟨RX8, "mark", "()I"⟩
abbrev cX8_text : ByteArray := prog_1_method_4_code
def yX8_text : MethodName := ⟨RX8, "text", "()I"⟩
abbrev cX8_string : ByteArray := prog_1_method_5_code
def yX8_string : MethodName := ⟨RX8, "string", "()I"⟩
abbrev cX8_fold : ByteArray := prog_1_method_6_code
def yX8_fold : MethodName := ⟨RX8, "fold", "(IIII)I"⟩
abbrev cX8_pair : ByteArray := prog_1_method_7_code
def yX8_pair : MethodName := ⟨RX8, "pair", "(III)I"⟩
abbrev cX8_zero : ByteArray := prog_1_method_8_code
def yX8_zero : MethodName := ⟨RX8, "zero", "(I)I"⟩
abbrev cX8_range : ByteArray := prog_1_method_9_code
def yX8_range : MethodName := ⟨RX8, "range", "(II)I"⟩
abbrev cX8_filter : ByteArray := prog_1_method_10_code
def yX8_filter : MethodName := ⟨RX8, "filter", "(II)I"⟩
abbrev cX8_drop : ByteArray := prog_1_method_11_code
def yX8_drop : MethodName := ⟨RX8, "drop", "(I)I"⟩
abbrev cX8_rule : ByteArray := prog_1_method_12_code
def yX8_rule : MethodName := ⟨RX8, "rule", "(II)I"⟩
abbrev cX8_run : ByteArray := prog_1_method_13_code
def yX8_run : MethodName := ⟨RX8, "run", "()I"⟩
abbrev cX8_sign : ByteArray := prog_1_method_14_code
def yX8_sign : MethodName := ⟨RX8, "sign", "(I)I"⟩
abbrev cX8_place : ByteArray := prog_1_method_15_code
def yX8_place : MethodName := ⟨RX8, "place", "(IZ)I"⟩
abbrev cX8_unitAt : ByteArray := prog_1_method_16_code
def yX8_unitAt : MethodName := ⟨RX8, "unitAt", "(I)I"⟩
abbrev cX8_units : ByteArray := prog_1_method_17_code
def yX8_units : MethodName := ⟨RX8, "units", "()I"⟩
abbrev cX8_broken : ByteArray := prog_1_method_18_code
def yX8_broken : MethodName := ⟨RX8, "broken", "(I)I"⟩
abbrev cX8_met : ByteArray := prog_1_method_19_code
def yX8_met : MethodName := ⟨RX8, "met", "(I)I"⟩
abbrev cX8_grown : ByteArray := prog_1_method_20_code
def yX8_grown : MethodName := ⟨RX8, "grown", "(I)I"⟩
abbrev cX8_table : ByteArray := prog_1_method_21_code
def yX8_table : MethodName := ⟨RX8, "table", "(I)I"⟩
abbrev cX8_digit : ByteArray := prog_1_method_22_code
def yX8_digit : MethodName := ⟨RX8, "digit", "(I)I"⟩
abbrev cX8_count : ByteArray := prog_1_method_23_code
def yX8_count : MethodName := ⟨RX8, "count", "(I)I"⟩
abbrev cX8_isSign : ByteArray := prog_1_method_24_code
def yX8_isSign : MethodName := ⟨RX8, "isSign", "(I)Z"⟩
abbrev cX8_isSignOrNone : ByteArray := prog_1_method_25_code
def yX8_isSignOrNone : MethodName := ⟨RX8, "isSignOrNone", "(I)Z"⟩
abbrev cX8_isFoldRow : ByteArray := prog_1_method_26_code
def yX8_isFoldRow : MethodName := ⟨RX8, "isFoldRow", "(III)Z"⟩
abbrev cX8_isPlace : ByteArray := prog_1_method_27_code
def yX8_isPlace : MethodName := ⟨RX8, "isPlace", "(I)Z"⟩
abbrev cX8_isHigh : ByteArray := prog_1_method_28_code
def yX8_isHigh : MethodName := ⟨RX8, "isHigh", "(I)Z"⟩
abbrev cX8_isLow : ByteArray := prog_1_method_29_code
def yX8_isLow : MethodName := ⟨RX8, "isLow", "(I)Z"⟩
abbrev cX8_unitsOf : ByteArray := prog_1_method_30_code
def yX8_unitsOf : MethodName := ⟨RX8, "unitsOf", "(I)I"⟩
abbrev cX8_unitOf : ByteArray := prog_1_method_31_code
def yX8_unitOf : MethodName := ⟨RX8, "unitOf", "(II)I"⟩
abbrev cX8_classOf : ByteArray := prog_1_method_32_code
def yX8_classOf : MethodName := ⟨RX8, "classOf", "(I)I"⟩
abbrev cX8_narrowed : ByteArray := prog_1_method_33_code
def yX8_narrowed : MethodName := ⟨RX8, "narrowed", "(I)I"⟩
abbrev cX8_emptyDraft : ByteArray := prog_1_method_34_code
def yX8_emptyDraft : MethodName := ⟨RX8, "emptyDraft", "()V"⟩
abbrev cX8_readSigns : ByteArray := prog_1_method_35_code
def yX8_readSigns : MethodName := ⟨RX8, "readSigns", "(IILSignTables$SignRow;)V"⟩
abbrev cX8_filtersInChain : ByteArray := prog_1_method_36_code
def yX8_filtersInChain : MethodName := ⟨RX8, "filtersInChain", "()I"⟩
abbrev cX8_settleFilters : ByteArray := prog_1_method_37_code
def yX8_settleFilters : MethodName := ⟨RX8, "settleFilters", "()V"⟩
abbrev cX8_passThrough : ByteArray := prog_1_method_38_code
def yX8_passThrough : MethodName := ⟨RX8, "passThrough", "(LSignTables$Filter;LSignTables$SignRow;LSignTables$SignRow;)Z"⟩
abbrev cX8_passFolding : ByteArray := prog_1_method_39_code
def yX8_passFolding : MethodName := ⟨RX8, "passFolding", "(LSignTables$Filter;LSignTables$SignRow;LSignTables$SignRow;)Z"⟩
abbrev cX8_passComposing : ByteArray := prog_1_method_40_code
def yX8_passComposing : MethodName := ⟨RX8, "passComposing", "(LSignTables$Filter;LSignTables$SignRow;LSignTables$SignRow;)Z"⟩
abbrev cX8_passDigits : ByteArray := prog_1_method_41_code
def yX8_passDigits : MethodName := ⟨RX8, "passDigits", "(LSignTables$Filter;LSignTables$SignRow;LSignTables$SignRow;)Z"⟩
abbrev cX8_passDropping : ByteArray := prog_1_method_42_code
def yX8_passDropping : MethodName := ⟨RX8, "passDropping", "(LSignTables$Filter;LSignTables$SignRow;LSignTables$SignRow;)Z"⟩
abbrev cX8_passReplacing : ByteArray := prog_1_method_43_code
def yX8_passReplacing : MethodName := ⟨RX8, "passReplacing", "(LSignTables$Filter;LSignTables$SignRow;LSignTables$SignRow;)Z"⟩
abbrev cX8_passHalves : ByteArray := prog_1_method_44_code
def yX8_passHalves : MethodName := ⟨RX8, "passHalves", "(LSignTables$Filter;LSignTables$SignRow;LSignTables$SignRow;)Z"⟩
abbrev cX8_passWidths : ByteArray := prog_1_method_45_code
def yX8_passWidths : MethodName := ⟨RX8, "passWidths", "(LSignTables$Filter;LSignTables$SignRow;LSignTables$SignRow;)Z"⟩
def RX9 : String := "SignTablesModel"
def TX9 : u_T := fun k => match k with
  | 0 => ("SignTablesModel", "units", "I", false)
  | 1 => ("SignTablesModel", "mark", "I", false)
  | 2 => ("SignTablesModel", "unit", "[I", true)
  | 3 => ("SignTablesModel", "texts", "I", false)
  | 4 => ("SignTablesModel", "text", "[I", true)
  | 5 => ("SignTablesModel", "textFrom", "[I", true)
  | 6 => ("SignTablesModel", "textTo", "[I", true)
  | 7 => ("SignTablesModel", "folds", "I", false)
  | 8 => ("SignTablesModel", "foldOf", "[I", true)
  | 9 => ("SignTablesModel", "foldSize", "[I", true)
  | 10 => ("SignTablesModel", "fold", "[I", true)
  | 11 => ("SignTablesModel", "pairs", "I", false)
  | 12 => ("SignTablesModel", "pairFirst", "[I", true)
  | 13 => ("SignTablesModel", "pairSecond", "[I", true)
  | 14 => ("SignTablesModel", "pairSign", "[I", true)
  | 15 => ("SignTablesModel", "zeros", "I", false)
  | 16 => ("SignTablesModel", "zero", "[I", true)
  | 17 => ("SignTablesModel", "ranges", "I", false)
  | 18 => ("SignTablesModel", "rangeFirst", "[I", true)
  | 19 => ("SignTablesModel", "rangeLast", "[I", true)
  | 20 => ("SignTablesModel", "strings", "I", false)
  | 21 => ("SignTablesModel", "fromSize", "[I", true)
  | 22 => ("SignTablesModel", "toSize", "[I", true)
  | 23 => ("SignTablesModel", "from", "[I", true)
  | 24 => ("SignTablesModel", "to", "[I", true)
  | 25 => ("SignTablesModel", "chain", "[I", true)
  | 26 => ("SignTablesModel", "ruleOf", "[I", true)
  | 27 => ("SignTablesModel", "met", "[I", true)
  | 28 => ("SignTablesModel", "grown", "[I", true)
  | 29 => ("SignTablesModel", "newMet", "[I", true)
  | 30 => ("SignTablesModel", "newGrown", "[I", true)
  | 31 => ("SignTablesModel", "outs", "I", false)
  | 32 => ("SignTablesModel", "out", "[I", true)
  | 33 => ("SignTablesModel", "outFrom", "[I", true)
  | 34 => ("SignTablesModel", "outTo", "[I", true)
  | 35 => ("SignTablesModel", "reads", "I", false)
  | 36 => ("SignTablesModel", "read", "[I", true)
  | 37 => ("SignTablesModel", "readFrom", "[I", true)
  | 38 => ("SignTablesModel", "readTo", "[I", true)
  | 39 => ("SignTablesModel", "lays", "I", false)
  | 40 => ("SignTablesModel", "laid", "[I", true)
  | 41 => ("SignTablesModel", "laidFrom", "[I", true)
  | _ => ("SignTablesModel", "laidTo", "[I", true)
def tyX9 : Nat → FieldType := fun k => match k with
  | 0 => .int
  | 1 => .int
  | 2 => .array .int
  | 3 => .int
  | 4 => .array .int
  | 5 => .array .int
  | 6 => .array .int
  | 7 => .int
  | 8 => .array .int
  | 9 => .array .int
  | 10 => .array .int
  | 11 => .int
  | 12 => .array .int
  | 13 => .array .int
  | 14 => .array .int
  | 15 => .int
  | 16 => .array .int
  | 17 => .int
  | 18 => .array .int
  | 19 => .array .int
  | 20 => .int
  | 21 => .array .int
  | 22 => .array .int
  | 23 => .array .int
  | 24 => .array .int
  | 25 => .array .int
  | 26 => .array .int
  | 27 => .array .int
  | 28 => .array .int
  | 29 => .array .int
  | 30 => .array .int
  | 31 => .int
  | 32 => .array .int
  | 33 => .array .int
  | 34 => .array .int
  | 35 => .int
  | 36 => .array .int
  | 37 => .array .int
  | 38 => .array .int
  | 39 => .int
  | 40 => .array .int
  | 41 => .array .int
  | _ => .array .int
theorem nmX9 : ∀ a, a < 43 → ∀ b, b < 43 → a ≠ b → (TX9 a).2.1 ≠ (TX9 b).2.1 := by decide +kernel
theorem tyX9_ok : ∀ k, k < 43 → parseFieldDescriptor (TX9 k).2.2.1 = some (tyX9 k) := by decide +kernel
abbrev cX9_init : ByteArray := prog_11_method_1_code
def yX9_init : MethodName := ⟨RX9, "<init>", "()V"⟩
abbrev cX9_isIn : ByteArray := prog_11_method_3_code
def yX9_isIn : MethodName := ⟨RX9, "isIn", "(III)Z"⟩
abbrev cX9_isSign : ByteArray := prog_11_method_4_code
def yX9_isSign : MethodName := ⟨RX9, "isSign", "(I)Z"⟩
abbrev cX9_isHigh : ByteArray := prog_11_method_5_code
def yX9_isHigh : MethodName := ⟨RX9, "isHigh", "(I)Z"⟩
abbrev cX9_isLow : ByteArray := prog_11_method_6_code
def yX9_isLow : MethodName := ⟨RX9, "isLow", "(I)Z"⟩
abbrev cX9_unit : ByteArray := prog_11_method_7_code
def yX9_unit : MethodName := ⟨RX9, "unit", "(I)I"⟩
abbrev cX9_mark : ByteArray := prog_11_method_8_code
def yX9_mark : MethodName := ⟨RX9, "mark", "()I"⟩
abbrev cX9_isTwo : ByteArray := prog_11_method_9_code
def yX9_isTwo : MethodName := ⟨RX9, "isTwo", "(II)Z"⟩
abbrev cX9_signAt : ByteArray := prog_11_method_10_code
def yX9_signAt : MethodName := ⟨RX9, "signAt", "(II)I"⟩
abbrev cX9_emptyDraft : ByteArray := prog_11_method_11_code
def yX9_emptyDraft : MethodName := ⟨RX9, "emptyDraft", "()V"⟩
abbrev cX9_text : ByteArray := prog_11_method_12_code
def yX9_text : MethodName := ⟨RX9, "text", "()I"⟩
abbrev cX9_signsOf : ByteArray := prog_11_method_13_code
def yX9_signsOf : MethodName := ⟨RX9, "signsOf", "(II[II)I"⟩
abbrev cX9_isSameRow : ByteArray := prog_11_method_14_code
def yX9_isSameRow : MethodName := ⟨RX9, "isSameRow", "(II)Z"⟩
abbrev cX9_string : ByteArray := prog_11_method_15_code
def yX9_string : MethodName := ⟨RX9, "string", "()I"⟩
abbrev cX9_foldAt : ByteArray := prog_11_method_16_code
def yX9_foldAt : MethodName := ⟨RX9, "foldAt", "(I)I"⟩
abbrev cX9_isSignOrNone : ByteArray := prog_11_method_17_code
def yX9_isSignOrNone : MethodName := ⟨RX9, "isSignOrNone", "(I)Z"⟩
abbrev cX9_fold : ByteArray := prog_11_method_18_code
def yX9_fold : MethodName := ⟨RX9, "fold", "(IIII)I"⟩
abbrev cX9_pairAt : ByteArray := prog_11_method_19_code
def yX9_pairAt : MethodName := ⟨RX9, "pairAt", "(II)I"⟩
abbrev cX9_pair : ByteArray := prog_11_method_20_code
def yX9_pair : MethodName := ⟨RX9, "pair", "(III)I"⟩
abbrev cX9_zero : ByteArray := prog_11_method_21_code
def yX9_zero : MethodName := ⟨RX9, "zero", "(I)I"⟩
abbrev cX9_range : ByteArray := prog_11_method_22_code
def yX9_range : MethodName := ⟨RX9, "range", "(II)I"⟩
abbrev cX9_isPlace : ByteArray := prog_11_method_23_code
def yX9_isPlace : MethodName := ⟨RX9, "isPlace", "(I)Z"⟩
abbrev cX9_filter : ByteArray := prog_11_method_24_code
def yX9_filter : MethodName := ⟨RX9, "filter", "(II)I"⟩
abbrev cX9_drop : ByteArray := prog_11_method_25_code
def yX9_drop : MethodName := ⟨RX9, "drop", "(I)I"⟩
abbrev cX9_rule : ByteArray := prog_11_method_26_code
def yX9_rule : MethodName := ⟨RX9, "rule", "(II)I"⟩
abbrev cX9_lay : ByteArray := prog_11_method_27_code
def yX9_lay : MethodName := ⟨RX9, "lay", "(III)V"⟩
abbrev cX9_unitsOf : ByteArray := prog_11_method_28_code
def yX9_unitsOf : MethodName := ⟨RX9, "unitsOf", "(I)I"⟩
abbrev cX9_folding : ByteArray := prog_11_method_29_code
def yX9_folding : MethodName := ⟨RX9, "folding", "(II)V"⟩
abbrev cX9_composing : ByteArray := prog_11_method_30_code
def yX9_composing : MethodName := ⟨RX9, "composing", "(II)V"⟩
abbrev cX9_digitOf : ByteArray := prog_11_method_31_code
def yX9_digitOf : MethodName := ⟨RX9, "digitOf", "(I)I"⟩
abbrev cX9_isDropped : ByteArray := prog_11_method_32_code
def yX9_isDropped : MethodName := ⟨RX9, "isDropped", "(I)Z"⟩
abbrev cX9_stringAt : ByteArray := prog_11_method_33_code
def yX9_stringAt : MethodName := ⟨RX9, "stringAt", "(I)I"⟩
abbrev cX9_replacing : ByteArray := prog_11_method_34_code
def yX9_replacing : MethodName := ⟨RX9, "replacing", "(II)I"⟩
abbrev cX9_changed : ByteArray := prog_11_method_35_code
def yX9_changed : MethodName := ⟨RX9, "changed", "(II)V"⟩
abbrev cX9_goesThrough : ByteArray := prog_11_method_36_code
def yX9_goesThrough : MethodName := ⟨RX9, "goesThrough", "(I)Z"⟩
abbrev cX9_run : ByteArray := prog_11_method_37_code
def yX9_run : MethodName := ⟨RX9, "run", "()I"⟩
abbrev cX9_isOut : ByteArray := prog_11_method_38_code
def yX9_isOut : MethodName := ⟨RX9, "isOut", "(I)Z"⟩
abbrev cX9_sign : ByteArray := prog_11_method_39_code
def yX9_sign : MethodName := ⟨RX9, "sign", "(I)I"⟩
abbrev cX9_place : ByteArray := prog_11_method_40_code
def yX9_place : MethodName := ⟨RX9, "place", "(IZ)I"⟩
abbrev cX9_units : ByteArray := prog_11_method_41_code
def yX9_units : MethodName := ⟨RX9, "units", "()I"⟩
abbrev cX9_unitAt : ByteArray := prog_11_method_42_code
def yX9_unitAt : MethodName := ⟨RX9, "unitAt", "(I)I"⟩
abbrev cX9_classOf : ByteArray := prog_11_method_43_code
def yX9_classOf : MethodName := ⟨RX9, "classOf", "(I)I"⟩
abbrev cX9_broken : ByteArray := prog_11_method_44_code
def yX9_broken : MethodName := ⟨RX9, "broken", "(I)I"⟩
abbrev cX9_met : ByteArray := prog_11_method_45_code
def yX9_met : MethodName := ⟨RX9, "met", "(I)I"⟩
abbrev cX9_grown : ByteArray := prog_11_method_46_code
def yX9_grown : MethodName := ⟨RX9, "grown", "(I)I"⟩
abbrev cX9_table : ByteArray := prog_11_method_47_code
def yX9_table : MethodName := ⟨RX9, "table", "(I)I"⟩
abbrev cX9_digit : ByteArray := prog_11_method_48_code
def yX9_digit : MethodName := ⟨RX9, "digit", "(I)I"⟩
abbrev cX9_count : ByteArray := prog_11_method_49_code
def yX9_count : MethodName := ⟨RX9, "count", "(I)I"⟩
def RJx8e188 : String := "java/lang/Cloneable"
def TJx8e188 : u_T := fun k => match k with
  | _ => ("", "", "", false)
def tyJx8e188 : Nat → FieldType := fun k => match k with
  | _ => .int
theorem nmJx8e188 : ∀ a, a < 0 → ∀ b, b < 0 → a ≠ b → (TJx8e188 a).2.1 ≠ (TJx8e188 b).2.1 := by decide +kernel
theorem tyJx8e188_ok : ∀ k, k < 0 → parseFieldDescriptor (TJx8e188 k).2.2.1 = some (tyJx8e188 k) := by decide +kernel
def RJ9 : String := "java/lang/Math"
def TJ9 : u_T := fun k => match k with
  | _ => ("", "", "", false)
def tyJ9 : Nat → FieldType := fun k => match k with
  | _ => .int
theorem nmJ9 : ∀ a, a < 0 → ∀ b, b < 0 → a ≠ b → (TJ9 a).2.1 ≠ (TJ9 b).2.1 := by decide +kernel
theorem tyJ9_ok : ∀ k, k < 0 → parseFieldDescriptor (TJ9 k).2.2.1 = some (tyJ9 k) := by decide +kernel
abbrev cJ9_min_7cf53 : ByteArray := prog_13_method_69_code
def yJ9_min_7cf53 : MethodName := ⟨RJ9, "min", "(II)I"⟩
def RJ10 : String := "java/lang/System"
def TJ10 : u_T := fun k => match k with
  | _ => ("", "", "", false)
def tyJ10 : Nat → FieldType := fun k => match k with
  | _ => .int
theorem nmJ10 : ∀ a, a < 0 → ∀ b, b < 0 → a ≠ b → (TJ10 a).2.1 ≠ (TJ10 b).2.1 := by decide +kernel
theorem tyJ10_ok : ∀ k, k < 0 → parseFieldDescriptor (TJ10 k).2.2.1 = some (tyJ10 k) := by decide +kernel
def RJ7 : String := "java/util/Arrays"
def TJ7 : u_T := fun k => match k with
  | _ => ("", "", "", false)
def tyJ7 : Nat → FieldType := fun k => match k with
  | _ => .int
theorem nmJ7 : ∀ a, a < 0 → ∀ b, b < 0 → a ≠ b → (TJ7 a).2.1 ≠ (TJ7 b).2.1 := by decide +kernel
theorem tyJ7_ok : ∀ k, k < 0 → parseFieldDescriptor (TJ7 k).2.2.1 = some (tyJ7 k) := by decide +kernel
abbrev cJ7_copyOf_59c91 : ByteArray := prog_15_method_123_code
def yJ7_copyOf_59c91 : MethodName := ⟨RJ7, "copyOf", "([II)[I"⟩
def RL : String := "SignTablesLaw"
abbrev cL_law : ByteArray := code
def yL_law : MethodName := ⟨RL, "law", "([I)Z"⟩
abbrev vwCl : List vw_C := [(RX0, TX0, 6), (RX1, TX1, 5), (RX2, TX2, 4), (RX3, TX3, 3), (RX4, TX4, 2), (RX5, TX5, 4), (RX6, TX6, 2), (RX7, TX7, 2), (RX8, TX8, 13), (RX9, TX9, 43)]
/-- the words that a call may hand on -/
def TB : List Cond := lw_tbl.filter goodWord
theorem tb_t {w : Cond} (i : Nat) (h : tables_1[i]? = some w) (g : goodWord w = true) : w ∈ TB := List.mem_filter.mpr ⟨List.mem_append_right _ (List.mem_of_getElem? h), g⟩
theorem tb_p {w : Cond} (i : Nat) (h : (k2_sels lw_privs)[i]? = some w) (g : goodWord w = true) : w ∈ TB := List.mem_filter.mpr ⟨List.mem_append_left _ (List.mem_of_getElem? h), g⟩
theorem tb_u {C : String} {T : u_T} {N : Nat} (h : ∀ k, k < N → u_lay C T k ∈ TB) : ∀ w ∈ u_ws C T N, w ∈ TB := fun w hw => by
  obtain ⟨k, hk, rfl⟩ := List.mem_map.mp hw
  exact h k (List.mem_range.mp hk)
end
section
/-! THE WORLD AS A PARTIAL MAP OF ADDRESSES, AND A JUDGEMENT OVER IT -/
abbrev xG : Type := va_G × (Nat → ClassId)
abbrev xh : Type := (Nat → Option va_E) × Nat
def x_set (h : xh) (a : Nat) (e : va_E) : xh := (fun b => if b = a then some e else h.1 b, h.2)
def x_new (h : xh) (e : va_E) : xh := (fun b => if b = h.2 then some e else h.1 b, h.2 + 1)
theorem x_set_eq {h : xh} {a : Nat} {e : va_E} : (x_set h a e).1 a = some e := if_pos rfl
theorem x_set_of {h : xh} {a b : Nat} {e : va_E} (hb : b = a) : (x_set h a e).1 b = some e := if_pos hb
theorem x_set_ne {h : xh} {a b : Nat} {e : va_E} {r : Option va_E} (hne : b ≠ a) (hb : h.1 b = r) : (x_set h a e).1 b = r := (if_neg hne).trans hb
theorem x_new_eq {h : xh} {b : Nat} {e : va_E} (hb : b = h.2) : (x_new h e).1 b = some e := if_pos hb
theorem x_new_ne {h : xh} {b : Nat} {e : va_E} {r : Option va_E} (hne : b ≠ h.2) (hb : h.1 b = r) : (x_new h e).1 b = r := (if_neg hne).trans hb
abbrev eO (ci : Nat) (fs : List Value) : va_E := .inr (ci, fs)
abbrev eI (G : xG) (n : Nat) (f : Nat → Int32) : va_E := .inl (G.2 0, n, .inl f)
abbrev eR (G : xG) (t n : Nat) (f : Nat → Option Nat) : va_E := .inl (G.2 t, n, .inr (.inr (.inr (.inr f))))
def x_tys (G : xG) : List (ClassId × FieldType) := [(G.2 0, .int), (G.2 1, .object RX0), (G.2 2, .object RX4)]
def x_nw : List (String × Nat × MethodName × String) := [(RX8, 22, yX1_init, "SignTables"), (RX8, 29, yX2_init, "SignTables"), (RX8, 36, yX7_init, "SignTables"), (RX8, 43, yX3_init, "SignTables"), (RX8, 50, yX6_init, "SignTables"), (RX8, 63, yX5_init, "SignTables"), (RX1, 39, yX8_unitsOf, "SignTables")]
def x_H (G : xG) (bs : Nat) (h : xh) (H : Heap) : Prop := H.size = h.2 ∧ bs ≤ h.2 ∧ ∀ a e, h.1 a = some e → bs ≤ a ∧ va_at G.1 vwCl (a, e) H
def x_K (G : xG) (U : State) : Prop := va_K G.1 vwCl (x_tys G) U ∧ (∀ q ∈ x_nw, va_Nw (.methodLinkNest q.1 q.2.1 q.2.2.1 q.2.2.2) U) ∧ va_AO RX0 U ∧ va_AO RX4 U
theorem x_K.warm {G : xG} {s U : State} (hW : s.WarmedH U.vm) (h : x_K G s) : x_K G U :=
  ⟨va_K.moved hW.alike h.1, fun q hq => va_Nw.warmM hW (h.2.1 q hq), va_AO.moved hW.alike h.2.2.1, va_AO.moved hW.alike h.2.2.2⟩
theorem x_K.vm {G : xG} {s U : State} (hv : s.vm = U.vm) (h : x_K G s) : x_K G U := by
  have ha : s.vm.Alike U.vm := by rw [hv]; exact Vm.Alike.refl U.vm
  exact ⟨va_K.moved ha h.1, fun q hq => va_tabs rfl hv (h.2.1 q hq), va_AO.moved ha h.2.2.1, va_AO.moved ha h.2.2.2⟩
def x_L (ls : Array Slot) (n : Nat) (L : List (Option Value)) : Prop := ls.size = n ∧ lv_wf ls ∧ ∀ (i : Nat) (v : Value), L[i]? = some (some v) → ls[i]? = some (.val v) ∧ v.category = 1
def x_as (L : List (Option Value)) : List (Nat × Value) := (List.range L.length).filterMap (fun i => match L[i]? with | some (some v) => some (i, v) | _ => none)
theorem x_as_in {L : List (Option Value)} {q : Nat × Value} : q ∈ x_as L ↔ L[q.1]? = some (some q.2) := by
  unfold x_as
  rw [List.mem_filterMap]
  constructor
  · rintro ⟨i, -, hi⟩
    split at hi
    · rename_i v hv
      cases hi
      exact hv
    · cases hi
  · intro h
    refine ⟨q.1, List.mem_range.mpr (List.getElem?_eq_some_iff.mp h).1, ?_⟩
    rw [h]
theorem x_L.has {ls : Array Slot} {n : Nat} {L : List (Option Value)} (h : x_L ls n L) : lv_has ls n (x_as L) := ⟨h.1, h.2.1, fun q hq => (h.2.2 q.1 q.2 (x_as_in.mp hq)).1⟩
theorem x_L.set {ls ls' : Array Slot} {n i : Nat} {L : List (Option Value)} {v : Value} (h : x_L ls n L) (hv : v.category = 1) (h' : lv_has ls' n ((i, v) :: (x_as L).filter (fun q => !(q.1 == i) && !(q.1 + 1 == i && q.2.category == 2)))) : x_L ls' n (L.set i (some v)) := by
  refine ⟨h'.1, h'.2.1, fun j w hw => ?_⟩
  by_cases hj : j = i
  · subst hj
    have hl : j < (L.set j (some v)).length := (List.getElem?_eq_some_iff.mp hw).1
    rw [List.getElem?_set_self (by simpa using hl)] at hw
    cases hw
    exact ⟨h'.2.2 (j, v) List.mem_cons_self, hv⟩
  · rw [List.getElem?_set_ne (Ne.symm hj)] at hw
    have hc := (h.2.2 j w hw).2
    refine ⟨h'.2.2 (j, w) (List.mem_cons_of_mem _ (List.mem_filter.mpr ⟨x_as_in.mpr hw, ?_⟩)), hc⟩
    simp [hj, hc]
theorem x_L.sub {ls : Array Slot} {n : Nat} {L L' : List (Option Value)} (h : x_L ls n L) (hs : ∀ (i : Nat) (v : Value), L'[i]? = some (some v) → L[i]? = some (some v)) : x_L ls n L' := ⟨h.1, h.2.1, fun i v hv => h.2.2 i v (hs i v hv)⟩
theorem x_args (vs : List Value) (hc : ∀ v ∈ vs, v.category = 1) : ∀ (k i : Nat) (v : Value), vs[i]? = some v → (k + i, v) ∈ lv_args k vs := by
  induction vs with
  | nil => intro k i v h; simp at h
  | cons a t ih =>
    intro k i v h
    have ha : a.category = 1 := hc a List.mem_cons_self
    cases i with
    | zero =>
      simp at h
      subst h
      simp [lv_args]
    | succ i =>
      have h2 := ih (fun v hv => hc v (List.mem_cons_of_mem _ hv)) (k + 1) i v (by simpa using h)
      simp only [lv_args, ha]
      refine List.mem_cons_of_mem _ ?_
      have e : k + (i + 1) = k + 1 + i := by omega
      rw [e]
      simpa using h2
theorem x_L.entry {ls : Array Slot} {n : Nat} {vs : List Value} {L : List (Option Value)} (h : lv_has ls n (lv_args 0 vs)) (hc : ∀ v ∈ vs, v.category = 1) (hL : ∀ (i : Nat) (v : Value), L[i]? = some (some v) → vs[i]? = some v) : x_L ls n L := by
  refine ⟨h.1, h.2.1, fun i v hv => ?_⟩
  have h1 := hL i v hv
  have h2 := x_args vs hc 0 i v h1
  rw [Nat.zero_add] at h2
  exact ⟨h.2.2 _ h2, hc v (List.mem_of_getElem? h1)⟩
theorem x_H.one {G : xG} {bs a : Nat} {h : xh} {H : Heap} {e : va_E} (hH : x_H G bs h H) (hh : h.1 a = some e) : va_P G.1 vwCl [(a, e)] H := by
  intro k q hk
  match k with
  | 0 => cases hk; exact (hH.2.2 a e hh).2
  | k + 1 => simp at hk
theorem x_H.put {G : xG} {bs a : Nat} {h : xh} {H H1 : Heap} {e e' : va_E} (hH : x_H G bs h H) (hh : h.1 a = some e) (z : H1.size = H.size) (oq : ∀ q : Nat, q ≠ a → H1[q]? = H[q]?) (h1 : va_at G.1 vwCl (a, e') H1) : x_H G bs (x_set h a e') H1 := by
  refine ⟨z.trans hH.1, hH.2.1, fun b e2 hb => ?_⟩
  by_cases hba : b = a
  · subst hba
    rw [x_set_eq] at hb
    cases hb
    exact ⟨(hH.2.2 b e hh).1, h1⟩
  · rw [x_set_ne hba rfl] at hb
    exact ⟨(hH.2.2 b e2 hb).1, (hH.2.2 b e2 hb).2.kept (oq b hba)⟩
theorem x_H.new {G : xG} {bs : Nat} {h : xh} {H H1 : Heap} {e : va_E} (hH : x_H G bs h H) (z : H1.size = H.size + 1) (oq : ∀ q : Nat, q < H.size → H1[q]? = H[q]?) (h1 : va_at G.1 vwCl (H.size, e) H1) : x_H G bs (x_new h e) H1 := by
  refine ⟨by rw [z, hH.1]; rfl, Nat.le_succ_of_le hH.2.1, fun b e2 hb => ?_⟩
  by_cases hba : b = h.2
  · rw [x_new_eq hba] at hb
    cases hb
    subst hba
    exact ⟨hH.2.1, by rw [← hH.1]; exact h1⟩
  · rw [x_new_ne hba rfl] at hb
    exact ⟨(hH.2.2 b e2 hb).1, (hH.2.2 b e2 hb).2.kept (oq b (hH.2.2 b e2 hb).2.lt)⟩
/-- what a method's instructions may ask of the class files: a field; a method -/
def FL (own : String) (idx ci k : Nat) : Prop := ∃ r : vw_C, vwCl[ci]? = some r ∧ k < r.2.2 ∧ Cond.fieldLink own idx (r.2.1 k).1 (r.2.1 k).2.1 (r.2.1 k).2.2.1 ∈ TB ∧ ∀ w ∈ u_ws r.1 r.2.1 r.2.2, w ∈ TB
def FP (own : String) (idx ci k : Nat) (ty : FieldType) (fin : Bool) : Prop := ∃ r : vw_C, vwCl[ci]? = some r ∧ k < r.2.2 ∧ Cond.fieldLink own idx (r.2.1 k).1 (r.2.1 k).2.1 (r.2.1 k).2.2.1 ∈ TB ∧ (∀ w ∈ u_ws r.1 r.2.1 r.2.2, w ∈ TB) ∧
  (∃ ty0 : Nat → FieldType, ∀ j, j < r.2.2 → parseFieldDescriptor (r.2.1 j).2.2.1 = some (ty0 j)) ∧ (∀ a, a < r.2.2 → ∀ b, b < r.2.2 → a ≠ b → (r.2.1 a).2.1 ≠ (r.2.1 b).2.1) ∧ parseFieldDescriptor (r.2.1 k).2.2.1 = some ty ∧ (r.2.1 k).2.2.2 = fin ∧ (fin = true → (r.2.1 k).1 = own)
def ML (y : MethodName) (cc : ByteArray) (maxL : Nat) (ret : Option FieldType) (n : Nat) : Prop := Cond.code y cc maxL ret ∈ TB ∧ Cond.initialized y.cls ∈ TB ∧ (y.cls ≠ "java/lang/invoke/MethodHandle" ∧ y.cls ≠ "java/lang/invoke/VarHandle") ∧ (parseMethodDescriptor y.desc).map (fun d => d.parameters.length) = some n
def VL (own : String) (idx : Nat) (y : MethodName) : Prop := Cond.methodLink own idx y ∈ TB ∧ Cond.instanceMethod y ∈ TB ∧ Cond.selects y.cls y y ∈ TB
def SL (own : String) (idx : Nat) (y : MethodName) : Prop := Cond.methodLink own idx y ∈ TB ∧ Cond.static y ∈ TB
def IL (own : String) (idx : Nat) (y : MethodName) : Prop := Cond.methodLink own idx y ∈ TB ∧ Cond.instanceMethod y ∈ TB ∧ y.name = "<init>"
def NL (own : String) (idx : Nat) (y : MethodName) : Prop := (own, idx, y, "SignTables") ∈ x_nw
def Cx (p : Program) (s : State) (m : MethodId) (args : Array Value) (meth : Method) (c : Code) (G : xG) (own : String) (cc : ByteArray) (nL : Nat) (ret : Option FieldType) : Prop :=
  p.tables.exec = Jvm.exec ∧ c.code = cc ∧ c.maxLocals = nL ∧ meth.sig.returnType = ret ∧ (∀ w ∈ TB, w.before args s = true) ∧ s.vm.findClass own = some m.cls ∧ meth.locks = false ∧ x_K G s
def X (p : Program) (l : Launch) (e : Env) (R : Room) (s : State) (m : MethodId) (args : Array Value) (below : List Frame) (meth : Method) (c : Code) (G : xG) (bs : Nat) (Q : State → Prop) (cells slots pc : Nat) (L : List (Option Value)) (st : List Value) (h : xh) : Prop :=
  ∀ (H : Heap) (ls : Array Slot) (locs : List Loc), x_H G bs h H → va_S (fun q => bs ≤ q) s.heap H locs → x_L ls c.maxLocals L → W p l e R s m args below meth c H locs cells slots Q (F0 m pc ls st)
def x_Q (G : xG) (bs : Nat) (post : Option Value → xh → Prop) : Array Value → State → Outcome → State → Prop := fun _ st o t => ∃ (r : Option Value) (h' : xh), o = .returned r ∧ post r h' ∧ x_H G bs h' t.heap ∧ va_F (fun q => bs ≤ q) st t
/-- a contract: from the world h, with the arguments av, it returns, 'post' of its answer and the world behind it -/
def Ct (l : Launch) (G : xG) (y : MethodName) (cc : ByteArray) (maxL : Nat) (ret : Option FieldType) (rm : Room) (av : List Value) (h : xh) (post : Option Value → xh → Prop) : Prop :=
  ∀ bs : Nat, Met l y (.code y cc maxL ret :: TB) rm (fun v U => v = av.toArray ∧ x_H G bs h U.heap ∧ x_K G U) (x_Q G bs post) rm.cells rm.slots (fun q => bs ≤ q)
theorem x_good : GoodIn TB TB := fun w h => ⟨h, good_of_word (List.mem_filter.mp h).2⟩
theorem x_goodC {y : MethodName} {cc : ByteArray} {maxL : Nat} {ret : Option FieldType} (h : Cond.code y cc maxL ret ∈ TB) : GoodIn TB (.code y cc maxL ret :: TB) := fun w hw => (List.mem_cons.mp hw).elim (fun e => e ▸ x_good _ h) (x_good w)
theorem x_L0 {av : List Value} {k i : Nat} {v : Value} (h : (av.map some ++ List.replicate k none)[i]? = some (some v)) : av[i]? = some v := by
  by_cases hi : i < av.length
  · rw [List.getElem?_append_left (by simpa using hi), List.getElem?_map] at h
    cases ha : av[i]? with
    | none => rw [ha] at h; cases h
    | some a => rw [ha] at h; cases h; rfl
  · rw [List.getElem?_append_right (by simpa using Nat.not_lt.mp hi), List.getElem?_replicate] at h
    split at h <;> cases h
theorem Ct.of {l : Launch} {G : xG} {y : MethodName} {cc : ByteArray} {maxL : Nat} {ret : Option FieldType} {rm : Room} {av : List Value} {h : xh} {post : Option Value → xh → Prop} (L : List (Option Value)) (hy : plainName y.cls = true) (hlen : (lg_sl av).length ≤ maxL)
    (body : ∀ (p : Program) (e : Env) (s : State) (m : MethodId) (args : Array Value) (below : List Frame) (meth : Method) (c : Code) (bs : Nat), Cx p s m args meth c G y.cls cc maxL ret → meth.name = y.name →
      X p l e rm s m args below meth c G bs (MQ below (x_Q G bs post) args s rm.cells rm.slots (fun q => bs ≤ q)) 0 0 0 L [] h) (hc : av.all (fun v => decide (v.category = 1)) = true := by rfl) (hL : av.map some ++ List.replicate (maxL - av.length) none = L := by rfl) : Ct l G y cc maxL ret rm av h post := by
  intro bs
  subst hL
  refine Met.ofW (cc := cc) (maxL := maxL) (ret := ret) hy rfl ?_
  intro p e s m args below meth c s₁ B hml hv
  obtain ⟨rfl, hH, hK⟩ := hv
  have hts := atoms_spec (ws := Cond.code y cc maxL ret :: TB) B.pre
  have hown : s.vm.findClass y.cls = some m.cls := findClass_of_methodNamed B.named
  rw [lg_entry_eq]
  have hl := lv_entry av (n := maxL) hlen
  exact body p e s m _ below meth c bs ⟨B.exec, B.bytes, hml, B.returns, fun w hw => hts w (List.mem_cons_of_mem _ hw), hown, B.notSynchronized, hK⟩ (name_of_methodNamed B.named B.method).1 s.heap _ [] hH va_S.rf (by rw [hml]; exact x_L.entry hl (fun v hv => of_decide_eq_true (List.all_eq_true.mp hc v hv)) (fun i v h => x_L0 h))
theorem Ct.mono {l : Launch} {G : xG} {y : MethodName} {cc : ByteArray} {maxL : Nat} {ret : Option FieldType} {rm : Room} {av : List Value} {h : xh} {post : Option Value → xh → Prop} {av' : List Value} (k : Ct l G y cc maxL ret rm av h post) (e : av = av') : Ct l G y cc maxL ret rm av' h post := e ▸ k
end
section
section XR
variable {p : Program} {l : Launch} {e : Env} {R : Room} {s : State} {m : MethodId} {args : Array Value} {below : List Frame} {meth : Method} {c : Code} {G : xG} {bs : Nat} {Q : State → Prop} {cells slots pc : Nat} {L : List (Option Value)} {st : List Value} {h : xh}
variable {own : String} {cc : ByteArray} {nL : Nat} {ret : Option FieldType}

theorem x_iconst (C : Cx p s m args meth c G own cc nL ret) {n : Int} {v : Int32} (hd : decode cc pc = .ok (.iconst n, 1)) (hv : Int32.ofInt n = v := by rfl) (kk : (X p l e R s m args below meth c G bs Q cells slots (pc + 1) L (.int v :: st) h)) : X p l e R s m args below meth c G bs Q cells slots pc L st h := fun H ls locs hH hS hL => lv_iconst C.1 C.2.1 hd hv (kk H ls locs hH hS hL)
theorem x_bipush (C : Cx p s m args meth c G own cc nL ret) {n : Int} {v : Int32} (hd : decode cc pc = .ok (.bipush n, 2)) (hv : (Int8.ofInt n).toInt32 = v := by rfl) (kk : (X p l e R s m args below meth c G bs Q cells slots (pc + 2) L (.int v :: st) h)) : X p l e R s m args below meth c G bs Q cells slots pc L st h := fun H ls locs hH hS hL => lv_bipush C.1 C.2.1 hd hv (kk H ls locs hH hS hL)
theorem x_sipush (C : Cx p s m args meth c G own cc nL ret) {n : Int} {v : Int32} (hd : decode cc pc = .ok (.sipush n, 3)) (hv : (Int16.ofInt n).toInt32 = v := by rfl) (kk : (X p l e R s m args below meth c G bs Q cells slots (pc + 3) L (.int v :: st) h)) : X p l e R s m args below meth c G bs Q cells slots pc L st h := fun H ls locs hH hS hL => lv_sipush C.1 C.2.1 hd hv (kk H ls locs hH hS hL)
theorem x_ldc (C : Cx p s m args meth c G own cc nL ret) {n : Nat} {v : Int32} (hk : Cond.constant own n v ∈ TB) (hd : decode cc pc = .ok (.ldc n, 2))  (kk : (X p l e R s m args below meth c G bs Q cells slots (pc + 2) L (.int v :: st) h)) : X p l e R s m args below meth c G bs Q cells slots pc L st h := fun H ls locs hH hS hL => lv_ldc C.1 C.2.1 C.2.2.2.2.2.1 (C.2.2.2.2.1 _ hk) hd (kk H ls locs hH hS hL)
theorem x_ldcw (C : Cx p s m args meth c G own cc nL ret) {n : Nat} {v : Int32} (hk : Cond.constant own n v ∈ TB) (hd : decode cc pc = .ok (.ldc_w n, 3))  (kk : (X p l e R s m args below meth c G bs Q cells slots (pc + 3) L (.int v :: st) h)) : X p l e R s m args below meth c G bs Q cells slots pc L st h := fun H ls locs hH hS hL => lv_ldcw C.1 C.2.1 C.2.2.2.2.2.1 (C.2.2.2.2.1 _ hk) hd (kk H ls locs hH hS hL)
theorem x_null (C : Cx p s m args meth c G own cc nL ret)  (hd : decode cc pc = .ok (.aconst_null, 1))  (kk : (X p l e R s m args below meth c G bs Q cells slots (pc + 1) L (.null :: st) h)) : X p l e R s m args below meth c G bs Q cells slots pc L st h := fun H ls locs hH hS hL => lv_null C.1 C.2.1 hd (kk H ls locs hH hS hL)
theorem x_iload_n (C : Cx p s m args meth c G own cc nL ret) {k : Fin 4} {x : Int32} (hd : decode cc pc = .ok (.iload_n k, 1)) (hv : L[(k : Nat)]? = some (some (.int x)) := by rfl) (kk : (X p l e R s m args below meth c G bs Q cells slots (pc + 1) L (.int x :: st) h)) : X p l e R s m args below meth c G bs Q cells slots pc L st h := fun H ls locs hH hS hL => lv_iload_n C.1 C.2.1 hd rfl (hL.2.2 _ _ hv).1 (kk H ls locs hH hS hL)
theorem x_iload (C : Cx p s m args meth c G own cc nL ret) {k : Nat} {x : Int32} (hd : decode cc pc = .ok (.iload k, 2)) (hv : L[k]? = some (some (.int x)) := by rfl) (kk : (X p l e R s m args below meth c G bs Q cells slots (pc + 2) L (.int x :: st) h)) : X p l e R s m args below meth c G bs Q cells slots pc L st h := fun H ls locs hH hS hL => lv_iload C.1 C.2.1 hd (hL.2.2 _ _ hv).1 (kk H ls locs hH hS hL)
theorem x_aload_n (C : Cx p s m args meth c G own cc nL ret) {k : Fin 4} {x : Nat} (hd : decode cc pc = .ok (.aload_n k, 1)) (hv : L[(k : Nat)]? = some (some (.ref x)) := by rfl) (kk : (X p l e R s m args below meth c G bs Q cells slots (pc + 1) L (.ref x :: st) h)) : X p l e R s m args below meth c G bs Q cells slots pc L st h := fun H ls locs hH hS hL => lv_aload_n C.1 C.2.1 hd rfl (hL.2.2 _ _ hv).1 (kk H ls locs hH hS hL)
theorem x_aload (C : Cx p s m args meth c G own cc nL ret) {k : Nat} {x : Nat} (hd : decode cc pc = .ok (.aload k, 2)) (hv : L[k]? = some (some (.ref x)) := by rfl) (kk : (X p l e R s m args below meth c G bs Q cells slots (pc + 2) L (.ref x :: st) h)) : X p l e R s m args below meth c G bs Q cells slots pc L st h := fun H ls locs hH hS hL => lv_aload C.1 C.2.1 hd (hL.2.2 _ _ hv).1 (kk H ls locs hH hS hL)
theorem x_aload_nN (C : Cx p s m args meth c G own cc nL ret) {k : Fin 4} (hd : decode cc pc = .ok (.aload_n k, 1)) (hv : L[(k : Nat)]? = some (some .null) := by rfl) (kk : (X p l e R s m args below meth c G bs Q cells slots (pc + 1) L (.null :: st) h)) : X p l e R s m args below meth c G bs Q cells slots pc L st h := fun H ls locs hH hS hL => lv_aload_nN C.1 C.2.1 hd rfl (hL.2.2 _ _ hv).1 (kk H ls locs hH hS hL)
theorem x_aloadN (C : Cx p s m args meth c G own cc nL ret) {k : Nat} (hd : decode cc pc = .ok (.aload k, 2)) (hv : L[k]? = some (some .null) := by rfl) (kk : (X p l e R s m args below meth c G bs Q cells slots (pc + 2) L (.null :: st) h)) : X p l e R s m args below meth c G bs Q cells slots pc L st h := fun H ls locs hH hS hL => lv_aloadN C.1 C.2.1 hd (hL.2.2 _ _ hv).1 (kk H ls locs hH hS hL)
theorem x_istore_n (C : Cx p s m args meth c G own cc nL ret) {k : Fin 4} {x : Int32} (hd : decode cc pc = .ok (.istore_n k, 1)) (hn : (k : Nat) < nL := by decide) (kk : (X p l e R s m args below meth c G bs Q cells slots (pc + 1) (L.set (k : Nat) (some (.int x))) st h)) : X p l e R s m args below meth c G bs Q cells slots pc L (.int x :: st) h := fun H ls locs hH hS hL => lv_istore_n C.1 C.2.1 hd rfl hL.has (by rw [C.2.2.1]; exact hn) rfl (fun ls1 h1 => kk H ls1 locs hH hS (hL.set rfl h1))
theorem x_istore (C : Cx p s m args meth c G own cc nL ret) {k : Nat} {x : Int32} (hd : decode cc pc = .ok (.istore k, 2)) (hn : k < nL := by decide) (kk : (X p l e R s m args below meth c G bs Q cells slots (pc + 2) (L.set k (some (.int x))) st h)) : X p l e R s m args below meth c G bs Q cells slots pc L (.int x :: st) h := fun H ls locs hH hS hL => lv_istore C.1 C.2.1 hd hL.has (by rw [C.2.2.1]; exact hn) rfl (fun ls1 h1 => kk H ls1 locs hH hS (hL.set rfl h1))
theorem x_astore_n (C : Cx p s m args meth c G own cc nL ret) {k : Fin 4} {x : Nat} (hd : decode cc pc = .ok (.astore_n k, 1)) (hn : (k : Nat) < nL := by decide) (kk : (X p l e R s m args below meth c G bs Q cells slots (pc + 1) (L.set (k : Nat) (some (.ref x))) st h)) : X p l e R s m args below meth c G bs Q cells slots pc L (.ref x :: st) h := fun H ls locs hH hS hL => lv_astore_n C.1 C.2.1 hd rfl hL.has (by rw [C.2.2.1]; exact hn) rfl (fun ls1 h1 => kk H ls1 locs hH hS (hL.set rfl h1))
theorem x_astore (C : Cx p s m args meth c G own cc nL ret) {k : Nat} {x : Nat} (hd : decode cc pc = .ok (.astore k, 2)) (hn : k < nL := by decide) (kk : (X p l e R s m args below meth c G bs Q cells slots (pc + 2) (L.set k (some (.ref x))) st h)) : X p l e R s m args below meth c G bs Q cells slots pc L (.ref x :: st) h := fun H ls locs hH hS hL => lv_astore C.1 C.2.1 hd hL.has (by rw [C.2.2.1]; exact hn) rfl (fun ls1 h1 => kk H ls1 locs hH hS (hL.set rfl h1))
theorem x_astore_nN (C : Cx p s m args meth c G own cc nL ret) {k : Fin 4} (hd : decode cc pc = .ok (.astore_n k, 1)) (hn : (k : Nat) < nL := by decide) (kk : (X p l e R s m args below meth c G bs Q cells slots (pc + 1) (L.set (k : Nat) (some (.null))) st h)) : X p l e R s m args below meth c G bs Q cells slots pc L (.null :: st) h := fun H ls locs hH hS hL => lv_astore_nN C.1 C.2.1 hd rfl hL.has (by rw [C.2.2.1]; exact hn) rfl (fun ls1 h1 => kk H ls1 locs hH hS (hL.set rfl h1))
theorem x_astoreN (C : Cx p s m args meth c G own cc nL ret) {k : Nat} (hd : decode cc pc = .ok (.astore k, 2)) (hn : k < nL := by decide) (kk : (X p l e R s m args below meth c G bs Q cells slots (pc + 2) (L.set k (some (.null))) st h)) : X p l e R s m args below meth c G bs Q cells slots pc L (.null :: st) h := fun H ls locs hH hS hL => lv_astoreN C.1 C.2.1 hd hL.has (by rw [C.2.2.1]; exact hn) rfl (fun ls1 h1 => kk H ls1 locs hH hS (hL.set rfl h1))
theorem x_iinc (C : Cx p s m args meth c G own cc nL ret) {k : Nat} {n : Int} {x v : Int32} (hd : decode cc pc = .ok (.iinc k n, 3)) (hx : L[k]? = some (some (.int x)) := by rfl) (hv : x + Int32.ofInt n = v := by rfl) (hn : k < nL := by decide) (kk : (X p l e R s m args below meth c G bs Q cells slots (pc + 3) (L.set k (some (.int v))) st h)) : X p l e R s m args below meth c G bs Q cells slots pc L st h := by
  intro H ls locs hH hS hL
  have hm : (k, Value.int x) ∈ x_as L := x_as_in.mpr hx
  obtain ⟨j, hj⟩ := List.getElem?_of_mem hm
  exact lv_iinc C.1 C.2.1 hd hL.has hj hv (by rw [C.2.2.1]; exact hn) rfl (fun ls1 h1 => kk H ls1 locs hH hS (hL.set rfl h1))
theorem x_iinc1 (C : Cx p s m args meth c G own cc nL ret) {k : Nat} {j : Nat} (hd : decode cc pc = .ok (.iinc k 1, 3)) (hx : L[k]? = some (some (.int (nI j))) := by rfl) (hn : k < nL := by decide) (kk : (X p l e R s m args below meth c G bs Q cells slots (pc + 3) (L.set k (some (.int (nI (j + 1))))) st h)) : X p l e R s m args below meth c G bs Q cells slots pc L st h :=
  x_iinc C hd hx (nI_1 j) hn kk
theorem x_iadd (C : Cx p s m args meth c G own cc nL ret) {x y : Int32} (hd : decode cc pc = .ok (.iadd, 1))  (kk : (X p l e R s m args below meth c G bs Q cells slots (pc + 1) L (.int (x + y) :: st) h)) : X p l e R s m args below meth c G bs Q cells slots pc L (.int y :: .int x :: st) h := fun H ls locs hH hS hL => lv_iadd C.1 C.2.1 hd (kk H ls locs hH hS hL)
theorem x_isub (C : Cx p s m args meth c G own cc nL ret) {x y : Int32} (hd : decode cc pc = .ok (.isub, 1))  (kk : (X p l e R s m args below meth c G bs Q cells slots (pc + 1) L (.int (x - y) :: st) h)) : X p l e R s m args below meth c G bs Q cells slots pc L (.int y :: .int x :: st) h := fun H ls locs hH hS hL => lv_isub C.1 C.2.1 hd (kk H ls locs hH hS hL)
theorem x_imul (C : Cx p s m args meth c G own cc nL ret) {x y : Int32} (hd : decode cc pc = .ok (.imul, 1))  (kk : (X p l e R s m args below meth c G bs Q cells slots (pc + 1) L (.int (x * y) :: st) h)) : X p l e R s m args below meth c G bs Q cells slots pc L (.int y :: .int x :: st) h := fun H ls locs hH hS hL => lv_imul C.1 C.2.1 hd (kk H ls locs hH hS hL)
theorem x_iand (C : Cx p s m args meth c G own cc nL ret) {x y : Int32} (hd : decode cc pc = .ok (.iand, 1))  (kk : (X p l e R s m args below meth c G bs Q cells slots (pc + 1) L (.int (x &&& y) :: st) h)) : X p l e R s m args below meth c G bs Q cells slots pc L (.int y :: .int x :: st) h := fun H ls locs hH hS hL => lv_iand C.1 C.2.1 hd (kk H ls locs hH hS hL)
theorem x_ior (C : Cx p s m args meth c G own cc nL ret) {x y : Int32} (hd : decode cc pc = .ok (.ior, 1))  (kk : (X p l e R s m args below meth c G bs Q cells slots (pc + 1) L (.int (x ||| y) :: st) h)) : X p l e R s m args below meth c G bs Q cells slots pc L (.int y :: .int x :: st) h := fun H ls locs hH hS hL => lv_ior C.1 C.2.1 hd (kk H ls locs hH hS hL)
theorem x_ishr (C : Cx p s m args meth c G own cc nL ret) {x y : Int32} (hd : decode cc pc = .ok (.ishr, 1))  (kk : (X p l e R s m args below meth c G bs Q cells slots (pc + 1) L (.int (x >>> (y &&& 31)) :: st) h)) : X p l e R s m args below meth c G bs Q cells slots pc L (.int y :: .int x :: st) h := fun H ls locs hH hS hL => lv_ishr C.1 C.2.1 hd (kk H ls locs hH hS hL)
theorem x_idiv (C : Cx p s m args meth c G own cc nL ret) {x y : Int32} (hd : decode cc pc = .ok (.idiv, 1)) (hy : ¬ y = 0 := by decide) (kk : (X p l e R s m args below meth c G bs Q cells slots (pc + 1) L (.int (x / y) :: st) h)) : X p l e R s m args below meth c G bs Q cells slots pc L (.int y :: .int x :: st) h := fun H ls locs hH hS hL => lv_idiv C.1 C.2.1 hd hy (kk H ls locs hH hS hL)
theorem x_irem (C : Cx p s m args meth c G own cc nL ret) {x y : Int32} (hd : decode cc pc = .ok (.irem, 1)) (hy : ¬ y = 0 := by decide) (kk : (X p l e R s m args below meth c G bs Q cells slots (pc + 1) L (.int (x - x / y * y) :: st) h)) : X p l e R s m args below meth c G bs Q cells slots pc L (.int y :: .int x :: st) h := fun H ls locs hH hS hL => lv_irem C.1 C.2.1 hd hy (kk H ls locs hH hS hL)
theorem x_dup (C : Cx p s m args meth c G own cc nL ret) {v : Value} (hd : decode cc pc = .ok (.dup, 1)) (hc : v.category = 1 := by rfl) (kk : (X p l e R s m args below meth c G bs Q cells slots (pc + 1) L (v :: v :: st) h)) : X p l e R s m args below meth c G bs Q cells slots pc L (v :: st) h := fun H ls locs hH hS hL => lv_dup C.1 C.2.1 hd hc (kk H ls locs hH hS hL)
theorem x_dup2 (C : Cx p s m args meth c G own cc nL ret) {v w : Value} (hd : decode cc pc = .ok (.dup2, 1)) (hc : v.category = 1 := by rfl) (hc2 : w.category = 1 := by rfl) (kk : (X p l e R s m args below meth c G bs Q cells slots (pc + 1) L (v :: w :: v :: w :: st) h)) : X p l e R s m args below meth c G bs Q cells slots pc L (v :: w :: st) h := fun H ls locs hH hS hL => lv_dup2_11 C.1 C.2.1 hd hc hc2 (kk H ls locs hH hS hL)
theorem x_pop (C : Cx p s m args meth c G own cc nL ret) {v : Value} (hd : decode cc pc = .ok (.pop, 1)) (hc : v.category = 1 := by rfl) (kk : (X p l e R s m args below meth c G bs Q cells slots (pc + 1) L st h)) : X p l e R s m args below meth c G bs Q cells slots pc L (v :: st) h := fun H ls locs hH hS hL => lv_pop C.1 C.2.1 hd hc (kk H ls locs hH hS hL)
theorem x_icmp_eq (C : Cx p s m args meth c G own cc nL ret) {x y : Int32} {off : Int} (hd : decode cc pc = .ok (.if_icmp .eq off, 3)) (tgt : Nat) (kt : (x = y) → X p l e R s m args below meth c G bs Q cells slots tgt L st h) (kf : (¬ x = y) → X p l e R s m args below meth c G bs Q cells slots (pc + 3) L st h) (ht : (pc : Int) + off = (tgt : Int) := by decide) : X p l e R s m args below meth c G bs Q cells slots pc L (.int y :: .int x :: st) h := fun H ls locs hH hS hL => lv_icmp_eq C.1 C.2.1 hd ht (fun q => kt q H ls locs hH hS hL) (fun q => kf q H ls locs hH hS hL)
theorem x_icmp_lt (C : Cx p s m args meth c G own cc nL ret) {x y : Int32} {off : Int} (hd : decode cc pc = .ok (.if_icmp .lt off, 3)) (tgt : Nat) (kt : (x < y) → X p l e R s m args below meth c G bs Q cells slots tgt L st h) (kf : (¬ x < y) → X p l e R s m args below meth c G bs Q cells slots (pc + 3) L st h) (ht : (pc : Int) + off = (tgt : Int) := by decide) : X p l e R s m args below meth c G bs Q cells slots pc L (.int y :: .int x :: st) h := fun H ls locs hH hS hL => lv_icmp_lt C.1 C.2.1 hd ht (fun q => kt q H ls locs hH hS hL) (fun q => kf q H ls locs hH hS hL)
theorem x_icmp_ge (C : Cx p s m args meth c G own cc nL ret) {x y : Int32} {off : Int} (hd : decode cc pc = .ok (.if_icmp .ge off, 3)) (tgt : Nat) (kt : (y ≤ x) → X p l e R s m args below meth c G bs Q cells slots tgt L st h) (kf : (¬ y ≤ x) → X p l e R s m args below meth c G bs Q cells slots (pc + 3) L st h) (ht : (pc : Int) + off = (tgt : Int) := by decide) : X p l e R s m args below meth c G bs Q cells slots pc L (.int y :: .int x :: st) h := fun H ls locs hH hS hL => lv_icmp_ge C.1 C.2.1 hd ht (fun q => kt q H ls locs hH hS hL) (fun q => kf q H ls locs hH hS hL)
theorem x_icmp_gt (C : Cx p s m args meth c G own cc nL ret) {x y : Int32} {off : Int} (hd : decode cc pc = .ok (.if_icmp .gt off, 3)) (tgt : Nat) (kt : (y < x) → X p l e R s m args below meth c G bs Q cells slots tgt L st h) (kf : (¬ y < x) → X p l e R s m args below meth c G bs Q cells slots (pc + 3) L st h) (ht : (pc : Int) + off = (tgt : Int) := by decide) : X p l e R s m args below meth c G bs Q cells slots pc L (.int y :: .int x :: st) h := fun H ls locs hH hS hL => lv_icmp_gt C.1 C.2.1 hd ht (fun q => kt q H ls locs hH hS hL) (fun q => kf q H ls locs hH hS hL)
theorem x_icmp_le (C : Cx p s m args meth c G own cc nL ret) {x y : Int32} {off : Int} (hd : decode cc pc = .ok (.if_icmp .le off, 3)) (tgt : Nat) (kt : (x ≤ y) → X p l e R s m args below meth c G bs Q cells slots tgt L st h) (kf : (¬ x ≤ y) → X p l e R s m args below meth c G bs Q cells slots (pc + 3) L st h) (ht : (pc : Int) + off = (tgt : Int) := by decide) : X p l e R s m args below meth c G bs Q cells slots pc L (.int y :: .int x :: st) h := fun H ls locs hH hS hL => lv_icmp_le C.1 C.2.1 hd ht (fun q => kt q H ls locs hH hS hL) (fun q => kf q H ls locs hH hS hL)
theorem x_icmp_ne (C : Cx p s m args meth c G own cc nL ret) {x y : Int32} {off : Int} (hd : decode cc pc = .ok (.if_icmp .ne off, 3)) (tgt : Nat) (kt : (¬ x = y) → X p l e R s m args below meth c G bs Q cells slots tgt L st h) (kf : (x = y) → X p l e R s m args below meth c G bs Q cells slots (pc + 3) L st h) (ht : (pc : Int) + off = (tgt : Int) := by decide) : X p l e R s m args below meth c G bs Q cells slots pc L (.int y :: .int x :: st) h := fun H ls locs hH hS hL => lv_icmp_ne C.1 C.2.1 hd ht (fun q => kt q H ls locs hH hS hL) (fun q => kf q H ls locs hH hS hL)
theorem x_if_eq (C : Cx p s m args meth c G own cc nL ret) {x : Int32} {off : Int} (hd : decode cc pc = .ok (.ifCond .eq off, 3)) (tgt : Nat) (kt : (x = 0) → X p l e R s m args below meth c G bs Q cells slots tgt L st h) (kf : (¬ x = 0) → X p l e R s m args below meth c G bs Q cells slots (pc + 3) L st h) (ht : (pc : Int) + off = (tgt : Int) := by decide) : X p l e R s m args below meth c G bs Q cells slots pc L (.int x :: st) h := fun H ls locs hH hS hL => lv_if_eq C.1 C.2.1 hd ht (fun q => kt q H ls locs hH hS hL) (fun q => kf q H ls locs hH hS hL)
theorem x_if_lt (C : Cx p s m args meth c G own cc nL ret) {x : Int32} {off : Int} (hd : decode cc pc = .ok (.ifCond .lt off, 3)) (tgt : Nat) (kt : (x < 0) → X p l e R s m args below meth c G bs Q cells slots tgt L st h) (kf : (¬ x < 0) → X p l e R s m args below meth c G bs Q cells slots (pc + 3) L st h) (ht : (pc : Int) + off = (tgt : Int) := by decide) : X p l e R s m args below meth c G bs Q cells slots pc L (.int x :: st) h := fun H ls locs hH hS hL => lv_if_lt C.1 C.2.1 hd ht (fun q => kt q H ls locs hH hS hL) (fun q => kf q H ls locs hH hS hL)
theorem x_if_ge (C : Cx p s m args meth c G own cc nL ret) {x : Int32} {off : Int} (hd : decode cc pc = .ok (.ifCond .ge off, 3)) (tgt : Nat) (kt : (0 ≤ x) → X p l e R s m args below meth c G bs Q cells slots tgt L st h) (kf : (¬ 0 ≤ x) → X p l e R s m args below meth c G bs Q cells slots (pc + 3) L st h) (ht : (pc : Int) + off = (tgt : Int) := by decide) : X p l e R s m args below meth c G bs Q cells slots pc L (.int x :: st) h := fun H ls locs hH hS hL => lv_if_ge C.1 C.2.1 hd ht (fun q => kt q H ls locs hH hS hL) (fun q => kf q H ls locs hH hS hL)
theorem x_if_gt (C : Cx p s m args meth c G own cc nL ret) {x : Int32} {off : Int} (hd : decode cc pc = .ok (.ifCond .gt off, 3)) (tgt : Nat) (kt : (0 < x) → X p l e R s m args below meth c G bs Q cells slots tgt L st h) (kf : (¬ 0 < x) → X p l e R s m args below meth c G bs Q cells slots (pc + 3) L st h) (ht : (pc : Int) + off = (tgt : Int) := by decide) : X p l e R s m args below meth c G bs Q cells slots pc L (.int x :: st) h := fun H ls locs hH hS hL => lv_if_gt C.1 C.2.1 hd ht (fun q => kt q H ls locs hH hS hL) (fun q => kf q H ls locs hH hS hL)
theorem x_if_le (C : Cx p s m args meth c G own cc nL ret) {x : Int32} {off : Int} (hd : decode cc pc = .ok (.ifCond .le off, 3)) (tgt : Nat) (kt : (x ≤ 0) → X p l e R s m args below meth c G bs Q cells slots tgt L st h) (kf : (¬ x ≤ 0) → X p l e R s m args below meth c G bs Q cells slots (pc + 3) L st h) (ht : (pc : Int) + off = (tgt : Int) := by decide) : X p l e R s m args below meth c G bs Q cells slots pc L (.int x :: st) h := fun H ls locs hH hS hL => lv_if_le C.1 C.2.1 hd ht (fun q => kt q H ls locs hH hS hL) (fun q => kf q H ls locs hH hS hL)
theorem x_if_ne (C : Cx p s m args meth c G own cc nL ret) {x : Int32} {off : Int} (hd : decode cc pc = .ok (.ifCond .ne off, 3)) (tgt : Nat) (kt : (¬ x = 0) → X p l e R s m args below meth c G bs Q cells slots tgt L st h) (kf : (x = 0) → X p l e R s m args below meth c G bs Q cells slots (pc + 3) L st h) (ht : (pc : Int) + off = (tgt : Int) := by decide) : X p l e R s m args below meth c G bs Q cells slots pc L (.int x :: st) h := fun H ls locs hH hS hL => lv_if_ne C.1 C.2.1 hd ht (fun q => kt q H ls locs hH hS hL) (fun q => kf q H ls locs hH hS hL)
theorem x_ncmp_ge (C : Cx p s m args meth c G own cc nL ret) {x y : Int32} {off : Int} (a b : Nat) (hd : decode cc pc = .ok (.if_icmp .ge off, 3)) (tgt : Nat) (kt : b ≤ a → X p l e R s m args below meth c G bs Q cells slots tgt L st h) (kf : a < b → X p l e R s m args below meth c G bs Q cells slots (pc + 3) L st h) (ea : x = nI a := by rfl) (eb : y = nI b := by rfl) (ha : a < 2 ^ 31 := by omega) (hb : b < 2 ^ 31 := by omega) (ht : (pc : Int) + off = (tgt : Int) := by decide) : X p l e R s m args below meth c G bs Q cells slots pc L (.int y :: .int x :: st) h := by
  subst ea; subst eb
  exact x_icmp_ge C hd tgt (fun q => kt ((nI_leI hb ha).mp q)) (fun q => kf (Nat.not_le.mp (fun z => q ((nI_leI hb ha).mpr z)))) ht
theorem x_ncmp_lt (C : Cx p s m args meth c G own cc nL ret) {x y : Int32} {off : Int} (a b : Nat) (hd : decode cc pc = .ok (.if_icmp .lt off, 3)) (tgt : Nat) (kt : a < b → X p l e R s m args below meth c G bs Q cells slots tgt L st h) (kf : b ≤ a → X p l e R s m args below meth c G bs Q cells slots (pc + 3) L st h) (ea : x = nI a := by rfl) (eb : y = nI b := by rfl) (ha : a < 2 ^ 31 := by omega) (hb : b < 2 ^ 31 := by omega) (ht : (pc : Int) + off = (tgt : Int) := by decide) : X p l e R s m args below meth c G bs Q cells slots pc L (.int y :: .int x :: st) h := by
  subst ea; subst eb
  exact x_icmp_lt C hd tgt (fun q => kt ((nI_ltI ha hb).mp q)) (fun q => kf (Nat.not_lt.mp (fun z => q ((nI_ltI ha hb).mpr z)))) ht
theorem x_ncmp_gt (C : Cx p s m args meth c G own cc nL ret) {x y : Int32} {off : Int} (a b : Nat) (hd : decode cc pc = .ok (.if_icmp .gt off, 3)) (tgt : Nat) (kt : b < a → X p l e R s m args below meth c G bs Q cells slots tgt L st h) (kf : a ≤ b → X p l e R s m args below meth c G bs Q cells slots (pc + 3) L st h) (ea : x = nI a := by rfl) (eb : y = nI b := by rfl) (ha : a < 2 ^ 31 := by omega) (hb : b < 2 ^ 31 := by omega) (ht : (pc : Int) + off = (tgt : Int) := by decide) : X p l e R s m args below meth c G bs Q cells slots pc L (.int y :: .int x :: st) h := by
  subst ea; subst eb
  exact x_icmp_gt C hd tgt (fun q => kt ((nI_ltI hb ha).mp q)) (fun q => kf (Nat.not_lt.mp (fun z => q ((nI_ltI hb ha).mpr z)))) ht
theorem x_ncmp_le (C : Cx p s m args meth c G own cc nL ret) {x y : Int32} {off : Int} (a b : Nat) (hd : decode cc pc = .ok (.if_icmp .le off, 3)) (tgt : Nat) (kt : a ≤ b → X p l e R s m args below meth c G bs Q cells slots tgt L st h) (kf : b < a → X p l e R s m args below meth c G bs Q cells slots (pc + 3) L st h) (ea : x = nI a := by rfl) (eb : y = nI b := by rfl) (ha : a < 2 ^ 31 := by omega) (hb : b < 2 ^ 31 := by omega) (ht : (pc : Int) + off = (tgt : Int) := by decide) : X p l e R s m args below meth c G bs Q cells slots pc L (.int y :: .int x :: st) h := by
  subst ea; subst eb
  exact x_icmp_le C hd tgt (fun q => kt ((nI_leI ha hb).mp q)) (fun q => kf (Nat.not_le.mp (fun z => q ((nI_leI ha hb).mpr z)))) ht
theorem x_ncmp_eq (C : Cx p s m args meth c G own cc nL ret) {x y : Int32} {off : Int} (a b : Nat) (hd : decode cc pc = .ok (.if_icmp .eq off, 3)) (tgt : Nat) (kt : a = b → X p l e R s m args below meth c G bs Q cells slots tgt L st h) (kf : a ≠ b → X p l e R s m args below meth c G bs Q cells slots (pc + 3) L st h) (ea : x = nI a := by rfl) (eb : y = nI b := by rfl) (ha : a < 2 ^ 31 := by omega) (hb : b < 2 ^ 31 := by omega) (ht : (pc : Int) + off = (tgt : Int) := by decide) : X p l e R s m args below meth c G bs Q cells slots pc L (.int y :: .int x :: st) h := by
  subst ea; subst eb
  exact x_icmp_eq C hd tgt (fun q => kt ((nI_eq ha hb).mp q)) (fun q => kf ((fun z => q ((nI_eq ha hb).mpr z)))) ht
theorem x_ncmp_ne (C : Cx p s m args meth c G own cc nL ret) {x y : Int32} {off : Int} (a b : Nat) (hd : decode cc pc = .ok (.if_icmp .ne off, 3)) (tgt : Nat) (kt : a ≠ b → X p l e R s m args below meth c G bs Q cells slots tgt L st h) (kf : a = b → X p l e R s m args below meth c G bs Q cells slots (pc + 3) L st h) (ea : x = nI a := by rfl) (eb : y = nI b := by rfl) (ha : a < 2 ^ 31 := by omega) (hb : b < 2 ^ 31 := by omega) (ht : (pc : Int) + off = (tgt : Int) := by decide) : X p l e R s m args below meth c G bs Q cells slots pc L (.int y :: .int x :: st) h := by
  subst ea; subst eb
  exact x_icmp_ne C hd tgt (fun q => kt ((fun z => q ((nI_eq ha hb).mpr z)))) (fun q => kf ((nI_eq ha hb).mp q)) ht
theorem x_nif_le (C : Cx p s m args meth c G own cc nL ret) {x : Int32} {off : Int} (a : Nat) (hd : decode cc pc = .ok (.ifCond .le off, 3)) (tgt : Nat) (kt : a = 0 → X p l e R s m args below meth c G bs Q cells slots tgt L st h) (kf : 0 < a → X p l e R s m args below meth c G bs Q cells slots (pc + 3) L st h) (ea : x = nI a := by rfl) (ha : a < 2 ^ 31 := by omega) (ht : (pc : Int) + off = (tgt : Int) := by decide) : X p l e R s m args below meth c G bs Q cells slots pc L (.int x :: st) h := by
  subst ea
  exact x_if_le C hd tgt (fun q => kt (Nat.le_zero.mp ((nI_leI ha (by decide)).mp q))) (fun q => kf (Nat.pos_of_ne_zero (fun z => q (by subst z; decide)))) ht
theorem x_goto (C : Cx p s m args meth c G own cc nL ret) {off : Int} (hd : decode cc pc = .ok (.goto off, 3)) (tgt : Nat) (kk : X p l e R s m args below meth c G bs Q cells slots tgt L st h) (ht : (pc : Int) + off = (tgt : Int) := by decide) : X p l e R s m args below meth c G bs Q cells slots pc L st h := fun H ls locs hH hS hL => lv_goto C.1 C.2.1 hd ht (kk H ls locs hH hS hL)
theorem x_ifnull (C : Cx p s m args meth c G own cc nL ret) {x : Nat} {off : Int} (hd : decode cc pc = .ok (.ifnull off, 3)) (kk : X p l e R s m args below meth c G bs Q cells slots (pc + 3) L st h) : X p l e R s m args below meth c G bs Q cells slots pc L (.ref x :: st) h := fun H ls locs hH hS hL => lv_ifnull C.1 C.2.1 hd (kk H ls locs hH hS hL)
theorem x_ifnullN (C : Cx p s m args meth c G own cc nL ret) {off : Int} (hd : decode cc pc = .ok (.ifnull off, 3)) (tgt : Nat) (kk : X p l e R s m args below meth c G bs Q cells slots tgt L st h) (ht : (pc : Int) + off = (tgt : Int) := by decide) : X p l e R s m args below meth c G bs Q cells slots pc L (.null :: st) h := fun H ls locs hH hS hL => lv_ifnullN C.1 C.2.1 hd ht (kk H ls locs hH hS hL)
theorem x_ifnonnull (C : Cx p s m args meth c G own cc nL ret) {x : Nat} {off : Int} (hd : decode cc pc = .ok (.ifnonnull off, 3)) (tgt : Nat) (kk : X p l e R s m args below meth c G bs Q cells slots tgt L st h) (ht : (pc : Int) + off = (tgt : Int) := by decide) : X p l e R s m args below meth c G bs Q cells slots pc L (.ref x :: st) h := fun H ls locs hH hS hL => lv_ifnonnull C.1 C.2.1 hd ht (kk H ls locs hH hS hL)
theorem x_ifnonnullN (C : Cx p s m args meth c G own cc nL ret) {off : Int} (hd : decode cc pc = .ok (.ifnonnull off, 3)) (kk : X p l e R s m args below meth c G bs Q cells slots (pc + 3) L st h) : X p l e R s m args below meth c G bs Q cells slots pc L (.null :: st) h := fun H ls locs hH hS hL => lv_ifnonnullN C.1 C.2.1 hd (kk H ls locs hH hS hL)
theorem x_tabO (C : Cx p s m args meth c G own cc nL ret) {dflt lo hi : Int} {offs : Array Int} {len : Nat} {x : Int32} (hd : decode cc pc = .ok (.tableswitch dflt lo hi offs, len)) (tgt : Nat) (hx : x.toInt < lo ∨ hi < x.toInt) (kk : X p l e R s m args below meth c G bs Q cells slots tgt L st h) (ht : (pc : Int) + dflt = (tgt : Int) := by decide) : X p l e R s m args below meth c G bs Q cells slots pc L (.int x :: st) h := fun H ls locs hH hS hL => lv_tableOut C.1 C.2.1 hd hx ht (kk H ls locs hH hS hL)
theorem x_tabI (C : Cx p s m args meth c G own cc nL ret) {dflt lo hi : Int} {offs : Array Int} {len : Nat} {x : Int32} (j : Nat) {off : Int} (hd : decode cc pc = .ok (.tableswitch dflt lo hi offs, len)) (tgt : Nat) (hx : x.toInt = lo + j) (hj : lo + j ≤ hi) (ho : offs[j]? = some off) (kk : X p l e R s m args below meth c G bs Q cells slots tgt L st h) (ht : (pc : Int) + off = (tgt : Int) := by decide) : X p l e R s m args below meth c G bs Q cells slots pc L (.int x :: st) h := fun H ls locs hH hS hL => lv_tableIn C.1 C.2.1 hd (by omega) (by omega) (by rw [show (x.toInt - lo).toNat = j by omega]; exact ho) ht (kk H ls locs hH hS hL)
theorem x_lx (C : Cx p s m args meth c G own cc nL ret) (L' : List (Option Value)) (kk : X p l e R s m args below meth c G bs Q cells slots pc L' st h) (hs : ∀ (i : Nat) (v : Value), L'[i]? = some (some v) → L[i]? = some (some v)) : X p l e R s m args below meth c G bs Q cells slots pc L st h := fun H ls locs hH hS hL => kk H ls locs hH hS (hL.sub hs)
theorem x_wd (C : Cx p s m args meth c G own cc nL ret) {k n : Nat} (h1 : cells ≤ k) (h2 : slots ≤ n) (kk : X p l e R s m args below meth c G bs Q k n pc L st h) : X p l e R s m args below meth c G bs Q cells slots pc L st h := fun H ls locs hH hS hL => W.widen h1 h2 (kk H ls locs hH hS hL)
/-- a value by another name -/
theorem x_top {x : Int32} (y : Int32) (hx : x = y) (kk : X p l e R s m args below meth c G bs Q cells slots pc L (.int y :: st) h) : X p l e R s m args below meth c G bs Q cells slots pc L (.int x :: st) h := hx ▸ kk
theorem x_top2 {v : Value} {x : Int32} (y : Int32) (hx : x = y) (kk : X p l e R s m args below meth c G bs Q cells slots pc L (v :: .int y :: st) h) : X p l e R s m args below meth c G bs Q cells slots pc L (v :: .int x :: st) h := hx ▸ kk
theorem x_hp (h' : xh) (hh : h = h') (kk : X p l e R s m args below meth c G bs Q cells slots pc L st h') : X p l e R s m args below meth c G bs Q cells slots pc L st h := hh ▸ kk
theorem x_nm (P : Int32 → Prop) {x : Int32} (hx : P x) (kk : ∀ y, P y → X p l e R s m args below meth c G bs Q cells slots pc L (.int y :: st) h) : X p l e R s m args below meth c G bs Q cells slots pc L (.int x :: st) h := kk x hx
theorem x_get (C : Cx p s m args meth c G own cc nL ret) {idx ci k a : Nat} {fs : List Value} {v : Value} (hf : FL own idx ci k) (hd : decode cc pc = .ok (.getfield idx, 3)) (hh : h.1 a = some (eO ci fs) := by first | assumption | exact x_set_eq | exact x_set_ne (by omega) (by first | assumption | exact x_set_eq | exact x_set_ne (by omega) (by first | assumption | exact x_set_eq | exact x_set_ne (by omega) (by first | assumption | exact x_set_eq | exact x_set_ne (by omega) (by first | assumption | exact x_set_eq | exact x_set_ne (by omega) (by assumption)))))) (hv : fs[k]? = some v := by rfl) (kk : (X p l e R s m args below meth c G bs Q cells slots (pc + 3) L (v :: st) h)) : X p l e R s m args below meth c G bs Q cells slots pc L (.ref a :: st) h := by
  obtain ⟨r, h1, h2, h3, h4⟩ := hf
  intro H ls locs hH hS hL
  exact va_get C.1 C.2.1 C.2.2.2.2.1 h4 C.2.2.2.2.2.1 C.2.2.2.2.2.2.2.1 (hH.one hh) 0 rfl h1 k h2 (C.2.2.2.2.1 _ h3) (fun _ q => q) hv hd (kk H ls locs hH hS hL)
theorem x_put (C : Cx p s m args meth c G own cc nL ret) {idx ci k a : Nat} {fs : List Value} {v : Value} {ty : FieldType} (hf : FP own idx ci k ty false) (hd : decode cc pc = .ok (.putfield idx, 3)) (hh : h.1 a = some (eO ci fs) := by first | assumption | exact x_set_eq | exact x_set_ne (by omega) (by first | assumption | exact x_set_eq | exact x_set_ne (by omega) (by first | assumption | exact x_set_eq | exact x_set_ne (by omega) (by first | assumption | exact x_set_eq | exact x_set_ne (by omega) (by first | assumption | exact x_set_eq | exact x_set_ne (by omega) (by assumption)))))) (hn : narrow ty v = v := by rfl) (hfit : fits ty v = true := by rfl) (hl : k < fs.length := by exact Nat.le_of_ble_eq_true rfl) (kk : (X p l e R s m args below meth c G bs Q cells slots (pc + 3) L st (x_set h a (eO ci (fs.set k v))))) : X p l e R s m args below meth c G bs Q cells slots pc L (v :: .ref a :: st) h := by
  obtain ⟨r, h1, h2, h3, h4, ⟨ty0, h5⟩, h6, h7, h8, -⟩ := hf
  obtain ⟨C0, T, N⟩ := r
  intro H ls locs hH hS hL
  have hK := C.2.2.2.2.2.2.2.1
  have hap := va_apart (own := own) C.2.2.2.2.1 h4 ty0 h5 h6 hK h1
  obtain ⟨r', g1, cell, q1, q2, q3, q4⟩ := (hH.2.2 a _ hh).2
  have hr : r' = (C0, T, N) := Option.some.inj (g1.symm.trans h1)
  subst hr
  obtain ⟨hSl, hfc, kC, hkC, hkind⟩ := hK.1 ci _ h1
  obtain ⟨cf, kf, fi, f, hi, hsl⟩ := hSl k h2
  have hlay := C.2.2.2.2.1 _ (h4 _ (u_in_lay h2))
  unfold u_lay at hlay
  rw [if_neg (by rw [h8]; decide)] at hlay
  have hst := (u_facts hfc hkC (u_lays C.2.2.2.2.1 h4 h2) hi).1
  have h9 := u_store hfc hkC hkind hlay hi h7 hn hfit
  refine W.putK C.1 C.2.1 (f := f) ⟨C.2.2.2.2.2.1, C.2.2.2.2.1 _ h3, ⟨_, _, _, hi⟩, hst⟩ (by rw [q2]; exact h9) q1 q3 (by rw [hsl]; exact k2_hasslot (q4 k h2)) rfl rfl hd fun H' e1 e2 e3 => ?_
  rw [hsl] at e1 ⊢
  exact kk H' ls _ (hH.put hh e2 e3 ⟨_, h1, t_OB.to (V := updV (vp_V fs) k v) ⟨_, e1, q2, q3, t_set q4 hap h2 v⟩ (fun j _ => vp_updV_set hl v j)⟩) (hS.put e2 e3 (hH.2.2 a _ hh).1) hL
theorem x_putF (C : Cx p s m args meth c G own cc nL ret) {idx ci k a : Nat} {fs : List Value} {v : Value} {ty : FieldType} (hini : meth.name = "<init>") (hf : FP own idx ci k ty true) (hd : decode cc pc = .ok (.putfield idx, 3)) (hh : h.1 a = some (eO ci fs) := by first | assumption | exact x_set_eq | exact x_set_ne (by omega) (by first | assumption | exact x_set_eq | exact x_set_ne (by omega) (by first | assumption | exact x_set_eq | exact x_set_ne (by omega) (by first | assumption | exact x_set_eq | exact x_set_ne (by omega) (by first | assumption | exact x_set_eq | exact x_set_ne (by omega) (by assumption)))))) (hn : narrow ty v = v := by rfl) (hfit : fits ty v = true := by rfl) (hl : k < fs.length := by exact Nat.le_of_ble_eq_true rfl) (kk : (X p l e R s m args below meth c G bs Q cells slots (pc + 3) L st (x_set h a (eO ci (fs.set k v))))) : X p l e R s m args below meth c G bs Q cells slots pc L (v :: .ref a :: st) h := by
  obtain ⟨r, h1, h2, h3, h4, ⟨ty0, h5⟩, h6, h7, h8, h10⟩ := hf
  obtain ⟨C0, T, N⟩ := r
  have h10 := h10 rfl
  intro H ls locs hH hS hL
  have hK := C.2.2.2.2.2.2.2.1
  have hap := va_apart (own := own) C.2.2.2.2.1 h4 ty0 h5 h6 hK h1
  obtain ⟨r', g1, cell, q1, q2, q3, q4⟩ := (hH.2.2 a _ hh).2
  have hr : r' = (C0, T, N) := Option.some.inj (g1.symm.trans h1)
  subst hr
  obtain ⟨hSl, hfc, kC, hkC, hkind⟩ := hK.1 ci _ h1
  obtain ⟨cf, kf, fi, f, hi, hsl⟩ := hSl k h2
  have hst := (u_facts hfc hkC (u_lays C.2.2.2.2.1 h4 h2) hi).1
  have h9 := u_fits hfc hkC hkind (u_lays C.2.2.2.2.1 h4 h2) hi h7 hn hfit
  have hlay := C.2.2.2.2.1 _ (h4 _ (u_in_lay h2))
  unfold u_lay at hlay
  rw [if_pos h8] at hlay
  have hcf : m.cls = cf := by
    obtain ⟨_, _, c', _, _, _, -, -, hf', -, -, -, hown2, -⟩ := Cond.laysFinal_spec hlay
    have e1 : c' = cf := by have := hi.symm.trans hf'; simp at this; exact this.1.symm
    rw [h10] at hown2
    rw [← e1]
    exact Option.some.inj (C.2.2.2.2.2.1.symm.trans hown2)
  refine W.putFinK C.1 C.2.1 C.2.2.2.2.2.1 (C.2.2.2.2.1 _ h3) hi hst hcf hini (by rw [q2]; exact h9) q1 q3 (by rw [hsl]; exact k2_hasslot (q4 k h2)) rfl rfl hd fun H' e1 e2 e3 => ?_
  rw [hsl] at e1 ⊢
  exact kk H' ls _ (hH.put hh e2 e3 ⟨_, h1, t_OB.to (V := updV (vp_V fs) k v) ⟨_, e1, q2, q3, t_set q4 hap h2 v⟩ (fun j _ => vp_updV_set hl v j)⟩) (hS.put e2 e3 (hH.2.2 a _ hh).1) hL
theorem x_iald (C : Cx p s m args meth c G own cc nL ret) {a n : Nat} {f : Nat → Int32} {x : Int32} (j : Nat) (hd : decode cc pc = .ok (.iaload, 1)) (hx : x = nI j := by rfl) (hh : h.1 a = some (eI G n f) := by first | assumption | exact x_set_eq | exact x_set_ne (by omega) (by first | assumption | exact x_set_eq | exact x_set_ne (by omega) (by first | assumption | exact x_set_eq | exact x_set_ne (by omega) (by first | assumption | exact x_set_eq | exact x_set_ne (by omega) (by first | assumption | exact x_set_eq | exact x_set_ne (by omega) (by assumption)))))) (hj : j < n := by omega) (hn : n < 2 ^ 31 := by omega) (kk : (X p l e R s m args below meth c G bs Q cells slots (pc + 1) L (.int (f j) :: st) h)) : X p l e R s m args below meth c G bs Q cells slots pc L (.int x :: .ref a :: st) h := by
  subst hx
  intro H ls locs hH hS hL
  have kk := kk H ls locs hH hS hL
  have e := nI_clamp (n := j) (by omega)
  refine va_iald C.1 C.2.1 C.2.2.2.2.2.2.2.1 (hH.one hh) 0 0 rfl rfl (vp_in_nI hj hn) hd ?_
  rw [e]
  exact kk
theorem x_iast (C : Cx p s m args meth c G own cc nL ret) {a n : Nat} {f : Nat → Int32} {x y : Int32} (j : Nat) (hd : decode cc pc = .ok (.iastore, 1)) (hx : x = nI j := by rfl) (hh : h.1 a = some (eI G n f) := by first | assumption | exact x_set_eq | exact x_set_ne (by omega) (by first | assumption | exact x_set_eq | exact x_set_ne (by omega) (by first | assumption | exact x_set_eq | exact x_set_ne (by omega) (by first | assumption | exact x_set_eq | exact x_set_ne (by omega) (by first | assumption | exact x_set_eq | exact x_set_ne (by omega) (by assumption)))))) (hj : j < n := by omega) (hn : n < 2 ^ 31 := by omega) (kk : (X p l e R s m args below meth c G bs Q cells slots (pc + 1) L st (x_set h a (eI G n (upd f j y))))) : X p l e R s m args below meth c G bs Q cells slots pc L (.int y :: .int x :: .ref a :: st) h := by
  subst hx
  intro H ls locs hH hS hL
  have e : (nI j).toNatClampNeg = j := nI_clamp (by omega)
  have hc : H[a]? = some (vp_cell (G.2 0) (n, .inl f)) := (hH.2.2 a _ hh).2
  refine W.iast C.1 C.2.1 hc ((C.2.2.2.2.2.2.2.1.2 0 _ rfl).1 n (fun j => .int (f j))) (fun q => by cases q) (by show ¬ (nI j < 0 ∨ (arrV _ _ _).slots.size ≤ _); rw [arrV_size]; exact vp_in_nI hj hn) rfl rfl hd fun H1 e1 z oq => ?_
  refine kk H1 ls _ (hH.put hh z oq ?_) (hS.put z oq (hH.2.2 a _ hh).1) hL
  show H1[a]? = some (vp_cell _ _)
  rw [e1, e, vp_cell_i, vp_cell_i, arrV_store]
  congr 2
  funext q
  by_cases hq : q = j
  · subst hq
    simp [updV, upd]
  · simp [updV, upd, hq]
theorem x_alen (C : Cx p s m args meth c G own cc nL ret) {a n : Nat} {f : Nat → Int32} (hd : decode cc pc = .ok (.arraylength, 1)) (hh : h.1 a = some (eI G n f) := by first | assumption | exact x_set_eq | exact x_set_ne (by omega) (by first | assumption | exact x_set_eq | exact x_set_ne (by omega) (by first | assumption | exact x_set_eq | exact x_set_ne (by omega) (by first | assumption | exact x_set_eq | exact x_set_ne (by omega) (by first | assumption | exact x_set_eq | exact x_set_ne (by omega) (by assumption)))))) (kk : (X p l e R s m args below meth c G bs Q cells slots (pc + 1) L (.int (nI n) :: st) h)) : X p l e R s m args below meth c G bs Q cells slots pc L (.ref a :: st) h := fun H ls locs hH hS hL =>
  va_alen C.1 C.2.1 C.2.2.2.2.2.2.2.1 (hH.one hh) 0 0 rfl rfl rfl hd (kk H ls locs hH hS hL)
theorem x_aald (C : Cx p s m args meth c G own cc nL ret) {a n t : Nat} {f : Nat → Option Nat} {x : Int32} (j : Nat) {cn : String} (hd : decode cc pc = .ok (.aaload, 1)) (ht : (x_tys G)[t]? = some (G.2 t, .object cn) := by rfl) (hx : x = nI j := by rfl) (hh : h.1 a = some (eR G t n f) := by first | assumption | exact x_set_eq | exact x_set_ne (by omega) (by first | assumption | exact x_set_eq | exact x_set_ne (by omega) (by first | assumption | exact x_set_eq | exact x_set_ne (by omega) (by first | assumption | exact x_set_eq | exact x_set_ne (by omega) (by first | assumption | exact x_set_eq | exact x_set_ne (by omega) (by assumption)))))) (hj : j < n := by omega) (hn : n < 2 ^ 31 := by omega) (kk : (X p l e R s m args below meth c G bs Q cells slots (pc + 1) L (va_rf (f j) :: st) h)) : X p l e R s m args below meth c G bs Q cells slots pc L (.int x :: .ref a :: st) h := by
  subst hx
  intro H ls locs hH hS hL
  have kk := kk H ls locs hH hS hL
  have e := nI_clamp (n := j) (by omega)
  refine va_aldq C.1 C.2.1 C.2.2.2.2.2.2.2.1 (hH.one hh) 0 t rfl ht (vp_in_nI hj hn) hd ?_
  rw [e]
  exact kk
theorem x_aast (C : Cx p s m args meth c G own cc nL ret) {a n t v ci : Nat} {f : Nat → Option Nat} {vs : List Value} {x : Int32} (j : Nat) {r : vw_C} (hd : decode cc pc = .ok (.aastore, 1)) (ht : (x_tys G)[t]? = some (G.2 t, .object r.1)) (hci : vwCl[ci]? = some r) (hx : x = nI j := by rfl) (hh : h.1 a = some (eR G t n f) := by first | assumption | exact x_set_eq | exact x_set_ne (by omega) (by first | assumption | exact x_set_eq | exact x_set_ne (by omega) (by first | assumption | exact x_set_eq | exact x_set_ne (by omega) (by first | assumption | exact x_set_eq | exact x_set_ne (by omega) (by first | assumption | exact x_set_eq | exact x_set_ne (by omega) (by assumption)))))) (hv : h.1 v = some (eO ci vs) := by first | assumption | exact x_set_eq | exact x_set_ne (by omega) (by first | assumption | exact x_set_eq | exact x_set_ne (by omega) (by first | assumption | exact x_set_eq | exact x_set_ne (by omega) (by first | assumption | exact x_set_eq | exact x_set_ne (by omega) (by first | assumption | exact x_set_eq | exact x_set_ne (by omega) (by assumption)))))) (hj : j < n := by omega) (hn : n < 2 ^ 31 := by omega) (kk : (X p l e R s m args below meth c G bs Q cells slots (pc + 1) L st (x_set h a (eR G t n (va_up f j (some v)))))) : X p l e R s m args below meth c G bs Q cells slots pc L (.ref v :: .int x :: .ref a :: st) h := by
  subst hx
  intro H ls locs hH hS hL
  have e : (nI j).toNatClampNeg = j := nI_clamp (by omega)
  have hK := C.2.2.2.2.2.2.2.1
  have hc : H[a]? = some (vp_cell (G.2 t) (n, .inr (.inr (.inr (.inr f))))) := (hH.2.2 a _ hh).2
  obtain ⟨r', hr', cellV, g1, g2, g3, -⟩ := (hH.2.2 v _ hv).2
  have hcls := (hK.1 ci r hci).2
  obtain ⟨kA, comp, k1, k2, k3, -⟩ := (hK.2 t _ ht).2
  have hcomp : comp = G.1.1 ci := Option.some.inj (k3.symm.trans hcls.1)
  subst hcomp
  obtain ⟨kC, hkC, -⟩ := hcls.2
  refine W.aast C.1 C.2.1 hc (fun q h => by cases h) (fun h => by cases h) k1 k2 rfl hkC ⟨nI_pos (by omega), by show _ < (arrV _ _ _).slots.size; rw [arrV_size, e]; exact hj⟩ g1 (fun q h => by rw [g3] at h; cases h) (by rw [g2]; exact hkC) (by rw [g2]; exact va_assign hcls) rfl rfl hd fun H1 e1 z oq => ?_
  refine kk H1 ls _ (hH.put hh z oq ?_) (hS.put z oq (hH.2.2 a _ hh).1) hL
  show H1[a]? = some (vp_cell _ _)
  rw [e1, e, vp_cell_q, vp_cell_q, arrV_store]
  congr 2
  funext q
  by_cases hq : q = j
  · subst hq
    simp [updV, va_up, va_rf]
  · simp [updV, va_up, hq]
theorem x_aastN (C : Cx p s m args meth c G own cc nL ret) {a n t : Nat} {f : Nat → Option Nat} {x : Int32} (j : Nat) {cn : String} (hd : decode cc pc = .ok (.aastore, 1)) (ht : (x_tys G)[t]? = some (G.2 t, .object cn)) (hx : x = nI j := by rfl) (hh : h.1 a = some (eR G t n f) := by first | assumption | exact x_set_eq | exact x_set_ne (by omega) (by first | assumption | exact x_set_eq | exact x_set_ne (by omega) (by first | assumption | exact x_set_eq | exact x_set_ne (by omega) (by first | assumption | exact x_set_eq | exact x_set_ne (by omega) (by first | assumption | exact x_set_eq | exact x_set_ne (by omega) (by assumption)))))) (hj : j < n := by omega) (hn : n < 2 ^ 31 := by omega) (kk : (X p l e R s m args below meth c G bs Q cells slots (pc + 1) L st (x_set h a (eR G t n (va_up f j none))))) : X p l e R s m args below meth c G bs Q cells slots pc L (.null :: .int x :: .ref a :: st) h := by
  subst hx
  intro H ls locs hH hS hL
  have e : (nI j).toNatClampNeg = j := nI_clamp (by omega)
  have hc : H[a]? = some (vp_cell (G.2 t) (n, .inr (.inr (.inr (.inr f))))) := (hH.2.2 a _ hh).2
  refine va_WaastN (C := cn) C.1 C.2.1 hc ((C.2.2.2.2.2.2.2.1.2 t _ ht).1 n (fun j => va_rf (f j))) (fun h => by cases h) (by show ¬ (nI j < 0 ∨ (arrV _ _ _).slots.size ≤ _); rw [arrV_size]; exact vp_in_nI hj hn) rfl rfl hd fun H1 e1 z oq => ?_
  refine kk H1 ls _ (hH.put hh z oq ?_) (hS.put z oq (hH.2.2 a _ hh).1) hL
  show H1[a]? = some (vp_cell _ _)
  rw [e1, e, vp_cell_q, vp_cell_q, arrV_store]
  congr 2
  funext q
  by_cases hq : q = j
  · subst hq
    simp [updV, va_up, va_rf]
  · simp [updV, va_up, hq]
theorem x_obj (C : Cx p s m args meth c G own cc nL ret) {idx ci N : Nat} {cn : String} {T : u_T} {fs : List Value} (ty : Nat → FieldType) (hc : vwCl[ci]? = some (cn, T, N)) (hin : ∀ w ∈ u_ws cn T N, w ∈ TB) (hty : ∀ k, k < N → parseFieldDescriptor (T k).2.2.1 = some (ty k)) (hcl : Cond.classLink own idx cn ∈ TB) (hinst : Cond.instantiable cn N ∈ TB) (hini : Cond.initialized cn ∈ TB) (hfs : ∀ j, j < N → defaultValue (ty j) = vp_V fs j) (hd : decode cc pc = .ok (.new idx, 3)) (hcells : cells + 1 ≤ R.cells := by exact Nat.le_of_ble_eq_true rfl) (hslots : slots + N ≤ R.slots := by exact Nat.le_of_ble_eq_true rfl) (kk : X p l e R s m args below meth c G bs Q (cells + 1) (slots + N) (pc + 3) L (.ref h.2 :: st) (x_new h (eO ci fs))) : X p l e R s m args below meth c G bs Q cells slots pc L st h := by
  intro H ls locs hH hS hL
  have hKn := C.2.2.2.2.2.2.2.1.1 ci _ hc
  refine W.newcK C.1 C.2.1 C.2.2.2.2.2.1 (C.2.2.2.2.1 _ hcl) (C.2.2.2.2.1 _ hinst) (C.2.2.2.2.1 _ hini) rfl hd hcells hslots hKn.2.1 hH.1 fun H1 kC hkC e1 z1 o1 => ?_
  have o2 : ∀ q : Nat, q < H.size → H1[q]? = H[q]? := fun q hq => o1 q (by rw [← hH.1]; exact hq)
  refine kk H1 ls locs (hH.new (by rw [hH.1]; exact z1) o2 ⟨_, hc, (u_born ty C.2.2.2.2.1 hin hKn hkC (by rw [hH.1]; exact e1) hty).to hfs⟩) ⟨Nat.le_trans hS.1 (by rw [z1, hH.1]; omega), fun x h1 h2 => (o2 x (Nat.lt_of_lt_of_le h1 hS.1)).trans (hS.2.1 x h1 h2), hS.2.2⟩ hL
theorem x_newi (C : Cx p s m args meth c G own cc nL ret) {x : Int32} (N : Nat) (harr : Cond.arrayClass .int ∈ TB) (hd : decode cc pc = .ok (.newarray .int, 2)) (hx : x = nI N := by rfl) (hN : N < 134217728 := by omega) (hcells : cells + 1 ≤ R.cells := by exact Nat.le_of_ble_eq_true rfl) (hslots : slots + N ≤ R.slots := by exact Nat.le_of_ble_eq_true rfl) (kk : X p l e R s m args below meth c G bs Q (cells + 1) (slots + N) (pc + 2) L (.ref h.2 :: st) (x_new h (eI G N (fun _ => 0)))) : X p l e R s m args below meth c G bs Q cells slots pc L (.int x :: st) h := by
  subst hx
  intro H ls locs hH hS hL
  have hle : N * componentBytes (newarray.typeOf .int) ≤ 536870912 := by
    show N * 4 ≤ 536870912
    omega
  refine va_newaK (N := N) (atype := .int) C.1 C.2.1 (C.2.2.2.2.1 _ harr) rfl hd rfl (nI_pos (by omega)) (nI_clamp (by omega)) hle hcells hslots hH.1 fun H1 cA e1 z1 o1 hAr hNm => ?_
  have hcA : cA = G.2 0 := Option.some.inj (hNm.symm.trans (C.2.2.2.2.2.2.2.1.2 0 _ rfl).2)
  have o2 : ∀ q : Nat, q < H.size → H1[q]? = H[q]? := fun q hq => o1 q (by rw [← hH.1]; exact hq)
  refine kk H1 ls locs (hH.new (by rw [hH.1]; exact z1) o2 ?_) ⟨Nat.le_trans hS.1 (by rw [z1, hH.1]; omega), fun x h1 h2 => (o2 x (Nat.lt_of_lt_of_le h1 hS.1)).trans (hS.2.1 x h1 h2), hS.2.2⟩ hL
  show H1[H.size]? = some (vp_cell _ _)
  rw [hH.1, e1, hcA]
  rfl
theorem x_newr (C : Cx p s m args meth c G own cc nL ret) {x : Int32} {idx t : Nat} {cn : String} (N : Nat) (ht : (x_tys G)[t]? = some (G.2 t, .object cn)) (hao : ∀ U, x_K G U → va_AO cn U) (hcl : Cond.classLink own idx cn ∈ TB) (hd : decode cc pc = .ok (.anewarray idx, 3)) (hx : x = nI N := by rfl) (hN : N < 134217728 := by omega) (hcells : cells + 1 ≤ R.cells := by exact Nat.le_of_ble_eq_true rfl) (hslots : slots + N ≤ R.slots := by exact Nat.le_of_ble_eq_true rfl) (kk : X p l e R s m args below meth c G bs Q (cells + 1) (slots + N) (pc + 3) L (.ref h.2 :: st) (x_new h (eR G t N (fun _ => none)))) : X p l e R s m args below meth c G bs Q cells slots pc L (.int x :: st) h := by
  subst hx
  intro H ls locs hH hS hL
  have e : (nI N).toNatClampNeg = N := nI_clamp (by omega)
  refine W.anew C.1 C.2.1 C.2.2.2.2.2.1 (C.2.2.2.2.1 _ hcl) (va_AO.use (hao s C.2.2.2.2.2.2.2)) rfl hd rfl (nI_pos (by omega)) (by rw [e]; omega) hcells (by rw [e]; exact hslots) fun cA kA comp f1 f2 f3 f4 => ?_
  rw [e]
  have hRA := (C.2.2.2.2.2.2.2.1.2 t _ ht).2
  obtain ⟨kA', comp', g1, g2, g3, g4⟩ := hRA
  have hcA : cA = G.2 t := Option.some.inj (f1.symm.trans g4)
  generalize hH1 : H.push ({ cls := cA, slots := Array.replicate N .null, vm := .none } : Cell) = H1
  have z1 : H1.size = H.size + 1 := by rw [← hH1, Array.size_push]
  have o2 : ∀ q : Nat, q < H.size → H1[q]? = H[q]? := fun q hq => by rw [← hH1, Array.getElem?_push, if_neg (Nat.ne_of_lt hq)]
  rw [hH.1]
  refine kk H1 ls locs (hH.new z1 o2 ?_) ⟨Nat.le_trans hS.1 (by omega), fun x h1 h2 => (o2 x (Nat.lt_of_lt_of_le h1 hS.1)).trans (hS.2.1 x h1 h2), hS.2.2⟩ hL
  show H1[H.size]? = some (vp_cell _ _)
  rw [← hH1, Array.getElem?_push_size, hcA, arrV_new]
  rfl
theorem x_oinit (C : Cx p s m args meth c G own cc nL ret) {idx a : Nat} (h1 : Cond.methodLink own idx objectInit ∈ TB) (hd : decode cc pc = .ok (.invokespecial idx, 3)) (h2 : Cond.instanceMethod objectInit ∈ TB) (h3 : Cond.code objectInit ⟨#[0xb1]⟩ 1 none ∈ TB) (hR : 1 ≤ R.frames := by exact Nat.le_of_ble_eq_true rfl) (hRl : (st.map fun v => v.category).sum + 12 ≤ R.locals := by exact Nat.le_of_ble_eq_true rfl) (kk : (X p l e R s m args below meth c G bs Q cells slots (pc + 3) L st h)) : X p l e R s m args below meth c G bs Q cells slots pc L (.ref a :: st) h := by
  intro H ls locs hH hS hL
  refine W.objInit C.1 C.2.1 C.2.2.2.2.2.1 (C.2.2.2.2.1 _ h1) (C.2.2.2.2.1 _ h2) (C.2.2.2.2.1 _ h3) rfl hL.1 rfl hd hR (by show 2 * 0 + _ + 12 ≤ _; omega) (kk H ls locs hH hS hL)
theorem x_iret (C : Cx p s m args meth c G own cc nL ret) {mc ms : Nat} {post : Option Value → xh → Prop} {v : Int32} (hr : ret = some .int) (hd : decode cc pc = .ok (.ireturn, 1)) (h1 : cells ≤ mc := by exact Nat.le_of_ble_eq_true rfl) (h2 : slots ≤ ms := by exact Nat.le_of_ble_eq_true rfl) (hp : post (some (.int v)) h) : X p l e R s m args below meth c G bs (MQ below (x_Q G bs post) args s mc ms (fun q => bs ≤ q)) cells slots pc L [.int v] h := fun H ls locs hH hS hL =>
  W.widen h1 h2 (W.iret C.1 C.2.1 (C.2.2.2.1.trans hr) (fun t ht hW => ⟨_, h, rfl, hp, by rw [ht]; exact hH, hS.F ht⟩) hS.2.2 hd C.2.2.2.2.2.2.1)
theorem x_zret (C : Cx p s m args meth c G own cc nL ret) {mc ms : Nat} {post : Option Value → xh → Prop} {v : Int32} (hr : ret = some .boolean) (hd : decode cc pc = .ok (.ireturn, 1)) (hz : v = 0 ∨ v = 1) (h1 : cells ≤ mc := by exact Nat.le_of_ble_eq_true rfl) (h2 : slots ≤ ms := by exact Nat.le_of_ble_eq_true rfl) (hp : post (some (.int v)) h) : X p l e R s m args below meth c G bs (MQ below (x_Q G bs post) args s mc ms (fun q => bs ≤ q)) cells slots pc L [.int v] h := fun H ls locs hH hS hL =>
  W.widen h1 h2 (W.zret C.1 C.2.1 (C.2.2.2.1.trans hr) (by rcases hz with rfl | rfl <;> rfl) (fun t ht hW => ⟨_, h, rfl, hp, by rw [ht]; exact hH, hS.F ht⟩) hS.2.2 hd C.2.2.2.2.2.2.1)
theorem x_vret (C : Cx p s m args meth c G own cc nL ret) {mc ms : Nat} {post : Option Value → xh → Prop} (hr : ret = none) (hd : decode cc pc = .ok (.return_, 1)) (h1 : cells ≤ mc := by exact Nat.le_of_ble_eq_true rfl) (h2 : slots ≤ ms := by exact Nat.le_of_ble_eq_true rfl) (hp : post none h) : X p l e R s m args below meth c G bs (MQ below (x_Q G bs post) args s mc ms (fun q => bs ≤ q)) cells slots pc L [] h := fun H ls locs hH hS hL =>
  W.widen h1 h2 (W.vret C.1 C.2.1 (C.2.2.2.1.trans hr) (fun t ht hW => ⟨_, h, rfl, hp, by rw [ht]; exact hH, hS.F ht⟩) hS.2.2 hd C.2.2.2.2.2.2.1)
theorem x_aret (C : Cx p s m args meth c G own cc nL ret) {mc ms : Nat} {post : Option Value → xh → Prop} {v : Value} {rt : FieldType} (hr : ret = some rt) (hrt : (∃ n, rt = .object n) ∨ ∃ t, rt = .array t) (hv : v = .null ∨ ∃ a, v = .ref a) (hd : decode cc pc = .ok (.areturn, 1)) (h1 : cells ≤ mc := by exact Nat.le_of_ble_eq_true rfl) (h2 : slots ≤ ms := by exact Nat.le_of_ble_eq_true rfl) (hp : post (some v) h) : X p l e R s m args below meth c G bs (MQ below (x_Q G bs post) args s mc ms (fun q => bs ≤ q)) cells slots pc L [v] h := fun H ls locs hH hS hL =>
  W.widen h1 h2 (W.aret C.1 C.2.1 (C.2.2.2.1.trans hr) hrt hv (fun t ht hW => ⟨_, h, rfl, hp, by rw [ht]; exact hH, hS.F ht⟩) hS.2.2 hd C.2.2.2.2.2.2.1)
theorem x_blind {av : List Value} {g0 : xh} : FrameBlind (fun v U => v = av.toArray ∧ x_H G bs g0 U.heap ∧ x_K G U) := fun a U g mk q => ⟨q.1, q.2.1, q.2.2.vm rfl⟩
theorem x_run (C : Cx p s m args meth c G own cc nL ret) {mc ms : Nat} {post : Option Value → xh → Prop} {rest st0 : List Value} {av : Array Value} {H : Heap} {ls : Array Slot} {locs : List Loc} (hH : x_H G bs h H) (hS : va_S (fun q => bs ≤ q) s.heap H locs) (hL : x_L ls c.maxLocals L)
    (hr : va_Run p l e R s m args below meth c H locs cells slots mc ms (F0 m pc ls st0) rest (x_Q G bs post av) (fun q => bs ≤ q))
    (kk : ∀ (r : Option Value) (h' : xh), post r h' → X p l e R s m args below meth c G bs Q (cells + mc) (slots + ms) (pc + 3) L (r.toList ++ rest) h') : W p l e R s m args below meth c H locs cells slots Q (F0 m pc ls st0) := by
  intro T hT X0
  obtain ⟨v, st₀, t, T', L1, h0, X', hL1, e1, e2, ⟨r, h', hv, hp, hH', hF⟩, sg⟩ := hr T hT X0
  cases hv
  obtain ⟨hz, hk⟩ := hF
  rw [h0] at hz hk
  obtain ⟨t2, a1, b1⟩ := kk v h' hp t.heap ls (locs ++ L1) hH' ⟨Nat.le_trans hS.1 hz, fun q h1 h2 => (hk q (Nat.lt_of_lt_of_le h1 hS.1) h2).trans (hS.2.1 q h1 h2), fun q hq => by
      rcases List.mem_append.mp hq with h | h
      · exact hS.2.2 q h
      · exact hL1 q h⟩ hL T' e1 X'
  exact ⟨t2, sg t2 a1, b1⟩
theorem x_fix (C : Cx p s m args meth c G own cc nL ret) : CallFix p m c cc nL s args TB own := ⟨C.1, C.2.1, C.2.2.1, C.2.2.2.2.2.1, C.2.2.2.2.1⟩
theorem x_callB (C : Cx p s m args meth c G own cc nL ret) {idx maxL n : Nat} {y : MethodName} {bytes : ByteArray} {rt : Option FieldType} {rm : Room} (hm : ML y bytes maxL rt n) (hl : Cond.methodLink own idx y ∈ TB) (hR : rm.frames + 1 ≤ R.frames ∧ 8 + (maxL + 11) + rm.locals ≤ R.locals) : CallB R s args own idx y bytes maxL rt (.code y bytes maxL rt :: TB) rm rm.cells rm.slots n :=
  callB_of n C.2.2.2.2.1 (x_goodC hm.1) rfl rfl rfl (C.2.2.2.2.1 _ hm.2.1) (C.2.2.2.2.1 _ hl) ⟨hm.2.2.1.1, hm.2.2.1.2, hm.2.2.2⟩ hR
theorem x_callN (C : Cx p s m args meth c G own cc nL ret) {idx maxL n : Nat} {y : MethodName} {bytes : ByteArray} {rt : Option FieldType} {rm : Room} (hm : ML y bytes maxL rt n) (hl : NL own idx y) (hR : rm.frames + 1 ≤ R.frames ∧ 8 + (maxL + 11) + rm.locals ≤ R.locals) : va_CN R s args own idx y "SignTables" bytes maxL rt (.code y bytes maxL rt :: TB) rm rm.cells rm.slots n :=
  va_cnB n C.2.2.2.2.1 (x_goodC hm.1) rfl rfl rfl (C.2.2.2.2.2.2.2.2.1 _ hl) (C.2.2.2.2.1 _ hm.2.1) ⟨hm.2.2.1.1, hm.2.2.1.2, hm.2.2.2⟩ hR
def RB (R rm : Room) (maxL cells slots : Nat) : Prop := (rm.frames + 1 ≤ R.frames ∧ 8 + (maxL + 11) + rm.locals ≤ R.locals) ∧ cells + rm.cells ≤ R.cells ∧ slots + rm.slots ≤ R.slots
theorem x_callV (C : Cx p s m args meth c G own cc nL ret) {idx maxL n b ci : Nat} {y : MethodName} {bytes : ByteArray} {rt : Option FieldType} {rm : Room} {As rest fs : List Value} {post : Option Value → xh → Prop} {r : vw_C} (hm : ML y bytes maxL rt n) (vl : VL own idx y) (ct : Ct l G y bytes maxL rt rm (.ref b :: As) h post) (hd : decode cc pc = .ok (.invokevirtual idx, 3))
    (kk : ∀ (r : Option Value) (h' : xh), post r h' → X p l e R s m args below meth c G bs Q (cells + rm.cells) (slots + rm.slots) (pc + 3) L (r.toList ++ rest) h')
    (hh : h.1 b = some (eO ci fs) := by first | assumption | exact x_set_eq | exact x_set_ne (by omega) (by first | assumption | exact x_set_eq | exact x_set_ne (by omega) (by first | assumption | exact x_set_eq | exact x_set_ne (by omega) (by first | assumption | exact x_set_eq | exact x_set_ne (by omega) (by first | assumption | exact x_set_eq | exact x_set_ne (by omega) (by assumption)))))) (hc : vwCl[ci]? = some r := by rfl) (hy : r.1 = y.cls := by rfl) (hst : st = As.reverse ++ .ref b :: rest := by rfl) (hn : As.length = n := by rfl) (hW : (rest.map fun v => v.category).sum ≤ 8 := by exact Nat.le_of_ble_eq_true rfl) (hR : RB R rm maxL cells slots := by exact ⟨⟨Nat.le_of_ble_eq_true rfl, Nat.le_of_ble_eq_true rfl⟩, Nat.le_of_ble_eq_true rfl, Nat.le_of_ble_eq_true rfl⟩) : X p l e R s m args below meth c G bs Q cells slots pc L st h := by
  intro H ls locs hH hS hL
  subst hst
  obtain ⟨r', hr', cell, g1, g2, g3, -⟩ := (hH.2.2 b _ hh).2
  have e : r' = r := Option.some.inj (hr'.symm.trans hc)
  subst e
  have hcl := (C.2.2.2.2.2.2.2.1.1 ci _ hc).2.1
  rw [hy] at hcl
  exact x_run C hH hS hL (va_runV (As := As) (rest := rest) (b := b) (x_fix C) (ct bs) ⟨x_callB C hm vl.1 hR.1, C.2.2.2.2.1 _ vl.2.1, C.2.2.2.2.1 _ vl.2.2⟩ ⟨x_blind, ⟨cell, g1, by rw [g3]; rfl, by rw [g2]; exact hcl⟩, fun U hU hW => ⟨rfl, by rw [hU]; exact hH, C.2.2.2.2.2.2.2.warm hW⟩⟩ rfl hn (hL.1.trans C.2.2.1) rfl (lv_room hW) hd hR.2) kk
theorem x_callS (C : Cx p s m args meth c G own cc nL ret) {idx maxL n : Nat} {y : MethodName} {bytes : ByteArray} {rt : Option FieldType} {rm : Room} {As rest : List Value} {post : Option Value → xh → Prop} (hm : ML y bytes maxL rt n) (vl : SL own idx y) (ct : Ct l G y bytes maxL rt rm As h post) (hd : decode cc pc = .ok (.invokestatic idx, 3))
    (kk : ∀ (r : Option Value) (h' : xh), post r h' → X p l e R s m args below meth c G bs Q (cells + rm.cells) (slots + rm.slots) (pc + 3) L (r.toList ++ rest) h')
    (hst : st = As.reverse ++ rest := by rfl) (hn : As.length = n := by rfl) (hW : (rest.map fun v => v.category).sum ≤ 8 := by exact Nat.le_of_ble_eq_true rfl) (hR : RB R rm maxL cells slots := by exact ⟨⟨Nat.le_of_ble_eq_true rfl, Nat.le_of_ble_eq_true rfl⟩, Nat.le_of_ble_eq_true rfl, Nat.le_of_ble_eq_true rfl⟩) : X p l e R s m args below meth c G bs Q cells slots pc L st h := by
  intro H ls locs hH hS hL
  subst hst
  exact x_run C hH hS hL (va_runS (As := As) (rest := rest) (x_fix C) (ct bs) ⟨x_callB C hm vl.1 hR.1, C.2.2.2.2.1 _ vl.2⟩ ⟨x_blind, fun U hU hW => ⟨rfl, by rw [hU]; exact hH, C.2.2.2.2.2.2.2.warm hW⟩⟩ rfl hn (hL.1.trans C.2.2.1) rfl (lv_room hW) hd hR.2) kk
theorem x_callSN (C : Cx p s m args meth c G own cc nL ret) {idx maxL n : Nat} {y : MethodName} {bytes : ByteArray} {rt : Option FieldType} {rm : Room} {As rest : List Value} {post : Option Value → xh → Prop} (hm : ML y bytes maxL rt n) (vl : NL own idx y) (vs : Cond.static y ∈ TB) (ct : Ct l G y bytes maxL rt rm As h post) (hd : decode cc pc = .ok (.invokestatic idx, 3))
    (kk : ∀ (r : Option Value) (h' : xh), post r h' → X p l e R s m args below meth c G bs Q (cells + rm.cells) (slots + rm.slots) (pc + 3) L (r.toList ++ rest) h')
    (hst : st = As.reverse ++ rest := by rfl) (hn : As.length = n := by rfl) (hW : (rest.map fun v => v.category).sum ≤ 8 := by exact Nat.le_of_ble_eq_true rfl) (hR : RB R rm maxL cells slots := by exact ⟨⟨Nat.le_of_ble_eq_true rfl, Nat.le_of_ble_eq_true rfl⟩, Nat.le_of_ble_eq_true rfl, Nat.le_of_ble_eq_true rfl⟩) : X p l e R s m args below meth c G bs Q cells slots pc L st h := by
  intro H ls locs hH hS hL
  subst hst
  exact x_run C hH hS hL (va_runSN (As := As) (rest := rest) (x_fix C) (ct bs) ⟨x_callN C hm vl hR.1, C.2.2.2.2.1 _ vs, trivial⟩ ⟨x_blind, fun U hU hW => ⟨rfl, by rw [hU]; exact hH, C.2.2.2.2.2.2.2.warm hW⟩⟩ rfl hn (hL.1.trans C.2.2.1) rfl (lv_room hW) hd hR.2) kk
theorem x_callI (C : Cx p s m args meth c G own cc nL ret) {idx maxL n b : Nat} {y : MethodName} {bytes : ByteArray} {rm : Room} {As rest : List Value} {post : Option Value → xh → Prop} (hm : ML y bytes maxL none n) (vl : IL own idx y) (ct : Ct l G y bytes maxL none rm (.ref b :: As) h post) (hd : decode cc pc = .ok (.invokespecial idx, 3))
    (kk : ∀ (r : Option Value) (h' : xh), post r h' → X p l e R s m args below meth c G bs Q (cells + rm.cells) (slots + rm.slots) (pc + 3) L (r.toList ++ rest) h')
    (hst : st = As.reverse ++ .ref b :: rest := by rfl) (hn : As.length = n := by rfl) (hW : (rest.map fun v => v.category).sum ≤ 8 := by exact Nat.le_of_ble_eq_true rfl) (hR : RB R rm maxL cells slots := by exact ⟨⟨Nat.le_of_ble_eq_true rfl, Nat.le_of_ble_eq_true rfl⟩, Nat.le_of_ble_eq_true rfl, Nat.le_of_ble_eq_true rfl⟩) : X p l e R s m args below meth c G bs Q cells slots pc L st h := by
  intro H ls locs hH hS hL
  subst hst
  exact x_run C hH hS hL (va_runI (As := As) (rest := rest) (b := b) (x_fix C) (ct bs) ⟨x_callB C hm vl.1 hR.1, vl.2.2, C.2.2.2.2.1 _ vl.2.1⟩ ⟨x_blind, fun U hU hW => ⟨rfl, by rw [hU]; exact hH, C.2.2.2.2.2.2.2.warm hW⟩⟩ rfl hn (hL.1.trans C.2.2.1) rfl (lv_room hW) hd hR.2) kk
theorem x_callIN (C : Cx p s m args meth c G own cc nL ret) {idx maxL n b : Nat} {y : MethodName} {bytes : ByteArray} {rm : Room} {As rest : List Value} {post : Option Value → xh → Prop} (hm : ML y bytes maxL none n) (vl : NL own idx y) (vi : y.name = "<init>" ∧ Cond.instanceMethod y ∈ TB) (ct : Ct l G y bytes maxL none rm (.ref b :: As) h post) (hd : decode cc pc = .ok (.invokespecial idx, 3))
    (kk : ∀ (r : Option Value) (h' : xh), post r h' → X p l e R s m args below meth c G bs Q (cells + rm.cells) (slots + rm.slots) (pc + 3) L (r.toList ++ rest) h')
    (hst : st = As.reverse ++ .ref b :: rest := by rfl) (hn : As.length = n := by rfl) (hW : (rest.map fun v => v.category).sum ≤ 8 := by exact Nat.le_of_ble_eq_true rfl) (hR : RB R rm maxL cells slots := by exact ⟨⟨Nat.le_of_ble_eq_true rfl, Nat.le_of_ble_eq_true rfl⟩, Nat.le_of_ble_eq_true rfl, Nat.le_of_ble_eq_true rfl⟩) : X p l e R s m args below meth c G bs Q cells slots pc L st h := by
  intro H ls locs hH hS hL
  subst hst
  exact x_run C hH hS hL (va_runIN (As := As) (rest := rest) (b := b) (x_fix C) (ct bs) ⟨x_callN C hm vl hR.1, vi.1, C.2.2.2.2.1 _ vi.2⟩ ⟨x_blind, fun U hU hW => ⟨rfl, by rw [hU]; exact hH, C.2.2.2.2.2.2.2.warm hW⟩⟩ rfl hn (hL.1.trans C.2.2.1) rfl (lv_room hW) hd hR.2) kk
end XR
end
section
theorem tw_0 : Cond.initialized RL ∈ TB := tb_t 0 (by decide +kernel) rfl
theorem tw_1 : Cond.initialized RX8 ∈ TB := tb_t 1 (by decide +kernel) rfl
theorem tw_2 : Cond.initialized RX1 ∈ TB := tb_t 2 (by decide +kernel) rfl
theorem tw_3 : Cond.initialized RX2 ∈ TB := tb_t 3 (by decide +kernel) rfl
theorem tw_4 : Cond.initialized RX7 ∈ TB := tb_t 4 (by decide +kernel) rfl
theorem tw_5 : Cond.initialized RX3 ∈ TB := tb_t 5 (by decide +kernel) rfl
theorem tw_6 : Cond.initialized RX6 ∈ TB := tb_t 6 (by decide +kernel) rfl
theorem tw_7 : Cond.initialized RX5 ∈ TB := tb_t 7 (by decide +kernel) rfl
theorem tw_8 : Cond.initialized RX9 ∈ TB := tb_t 8 (by decide +kernel) rfl
theorem tw_9 : Cond.initialized RX4 ∈ TB := tb_t 9 (by decide +kernel) rfl
theorem tw_10 : Cond.initialized RJ7 ∈ TB := tb_t 10 (by decide +kernel) rfl
theorem tw_11 : Cond.initialized RJ9 ∈ TB := tb_t 11 (by decide +kernel) rfl
theorem tw_12 : Cond.initialized RJ10 ∈ TB := tb_t 12 (by decide +kernel) rfl
theorem tw_13 : Cond.initialized RX0 ∈ TB := tb_t 13 (by decide +kernel) rfl
theorem tw_14 : Cond.classLink RL 7 RX8 ∈ TB := tb_t 14 (by decide +kernel) rfl
theorem tw_15 : Cond.instantiable RX8 13 ∈ TB := tb_t 15 (by decide +kernel) rfl
theorem tw_16 : Cond.methodLink RL 9 yX8_init ∈ TB := tb_t 16 (by decide +kernel) rfl
theorem tw_17 : Cond.instanceMethod yX8_init ∈ TB := tb_t 17 (by decide +kernel) rfl
set_option maxRecDepth 100000 in
theorem tw_18 : Cond.code yX8_init cX8_init 1 (Option.none : Option Jvm.ClassFile.FieldType) ∈ TB := tb_t 18 rfl rfl
theorem tw_19 : Cond.methodLink RX8 1 (⟨"java/lang/Object", "<init>", "()V"⟩ : MethodName) ∈ TB := tb_t 19 (by decide +kernel) rfl
theorem tw_20 : Cond.instanceMethod (⟨"java/lang/Object", "<init>", "()V"⟩ : MethodName) ∈ TB := tb_t 20 (by decide +kernel) rfl
set_option maxRecDepth 100000 in
theorem tw_21 : Cond.code (⟨"java/lang/Object", "<init>", "()V"⟩ : MethodName) object_method_1_code 1 (Option.none : Option Jvm.ClassFile.FieldType) ∈ TB := tb_t 21 rfl rfl
theorem tw_22 : Cond.classLink RX8 20 RX1 ∈ TB := tb_t 22 (by decide +kernel) rfl
theorem tw_23 : Cond.instantiable RX1 5 ∈ TB := tb_t 23 (by decide +kernel) rfl
theorem tw_24 : Cond.instanceMethod yX1_init ∈ TB := tb_t 25 (by decide +kernel) rfl
set_option maxRecDepth 100000 in
theorem tw_25 : Cond.code yX1_init cX1_init 1 (Option.none : Option Jvm.ClassFile.FieldType) ∈ TB := tb_t 26 rfl rfl
theorem tw_26 : Cond.methodLink RX1 3 (⟨"java/lang/Object", "<init>", "()V"⟩ : MethodName) ∈ TB := tb_t 27 (by decide +kernel) rfl
theorem tw_27 : Cond.fieldLink RX1 9 "SignTables$FoldTable" "signs" "[I" ∈ TB := tb_t 28 (by decide +kernel) rfl
theorem tw_28 : Cond.fieldLink RX1 15 "SignTables$FoldTable" "firsts" "[I" ∈ TB := tb_t 29 (by decide +kernel) rfl
theorem tw_29 : Cond.fieldLink RX1 18 "SignTables$FoldTable" "seconds" "[I" ∈ TB := tb_t 30 (by decide +kernel) rfl
theorem tw_30 : Cond.fieldLink RX1 21 "SignTables$FoldTable" "thirds" "[I" ∈ TB := tb_t 31 (by decide +kernel) rfl
theorem tw_31 : Cond.fieldLink RX1 24 "SignTables$FoldTable" "size" "I" ∈ TB := tb_t 32 (by decide +kernel) rfl
theorem tw_32 : Cond.laysFinal RX1 "SignTables$FoldTable" "signs" "[I" ∈ TB := tb_t 33 (by decide +kernel) rfl
theorem tw_33 : Cond.laysFinal RX1 "SignTables$FoldTable" "firsts" "[I" ∈ TB := tb_t 35 (by decide +kernel) rfl
theorem tw_34 : Cond.laysFinal RX1 "SignTables$FoldTable" "seconds" "[I" ∈ TB := tb_t 37 (by decide +kernel) rfl
theorem tw_35 : Cond.laysFinal RX1 "SignTables$FoldTable" "thirds" "[I" ∈ TB := tb_t 39 (by decide +kernel) rfl
theorem tw_36 : Cond.lays RX1 "SignTables$FoldTable" "size" "I" ∈ TB := tb_t 41 (by decide +kernel) rfl
theorem tw_37 : Cond.arrayClass .int ∈ TB := tb_t 44 (by decide +kernel) rfl
theorem tw_38 : Cond.classLink RX8 27 RX2 ∈ TB := tb_t 45 (by decide +kernel) rfl
theorem tw_39 : Cond.instantiable RX2 4 ∈ TB := tb_t 46 (by decide +kernel) rfl
theorem tw_40 : Cond.instanceMethod yX2_init ∈ TB := tb_t 48 (by decide +kernel) rfl
set_option maxRecDepth 100000 in
theorem tw_41 : Cond.code yX2_init cX2_init 1 (Option.none : Option Jvm.ClassFile.FieldType) ∈ TB := tb_t 49 rfl rfl
theorem tw_42 : Cond.methodLink RX2 3 (⟨"java/lang/Object", "<init>", "()V"⟩ : MethodName) ∈ TB := tb_t 50 (by decide +kernel) rfl
theorem tw_43 : Cond.fieldLink RX2 9 "SignTables$PairTable" "firsts" "[I" ∈ TB := tb_t 51 (by decide +kernel) rfl
theorem tw_44 : Cond.fieldLink RX2 15 "SignTables$PairTable" "seconds" "[I" ∈ TB := tb_t 52 (by decide +kernel) rfl
theorem tw_45 : Cond.fieldLink RX2 18 "SignTables$PairTable" "signs" "[I" ∈ TB := tb_t 53 (by decide +kernel) rfl
theorem tw_46 : Cond.fieldLink RX2 21 "SignTables$PairTable" "size" "I" ∈ TB := tb_t 54 (by decide +kernel) rfl
theorem tw_47 : Cond.laysFinal RX2 "SignTables$PairTable" "firsts" "[I" ∈ TB := tb_t 55 (by decide +kernel) rfl
theorem tw_48 : Cond.laysFinal RX2 "SignTables$PairTable" "seconds" "[I" ∈ TB := tb_t 57 (by decide +kernel) rfl
theorem tw_49 : Cond.laysFinal RX2 "SignTables$PairTable" "signs" "[I" ∈ TB := tb_t 59 (by decide +kernel) rfl
theorem tw_50 : Cond.lays RX2 "SignTables$PairTable" "size" "I" ∈ TB := tb_t 61 (by decide +kernel) rfl
theorem tw_51 : Cond.classLink RX8 34 RX7 ∈ TB := tb_t 64 (by decide +kernel) rfl
theorem tw_52 : Cond.instantiable RX7 2 ∈ TB := tb_t 65 (by decide +kernel) rfl
theorem tw_53 : Cond.instanceMethod yX7_init ∈ TB := tb_t 67 (by decide +kernel) rfl
set_option maxRecDepth 100000 in
theorem tw_54 : Cond.code yX7_init cX7_init 1 (Option.none : Option Jvm.ClassFile.FieldType) ∈ TB := tb_t 68 rfl rfl
theorem tw_55 : Cond.methodLink RX7 3 (⟨"java/lang/Object", "<init>", "()V"⟩ : MethodName) ∈ TB := tb_t 69 (by decide +kernel) rfl
theorem tw_56 : Cond.fieldLink RX7 9 "SignTables$ZeroTable" "signs" "[I" ∈ TB := tb_t 70 (by decide +kernel) rfl
theorem tw_57 : Cond.fieldLink RX7 15 "SignTables$ZeroTable" "size" "I" ∈ TB := tb_t 71 (by decide +kernel) rfl
theorem tw_58 : Cond.laysFinal RX7 "SignTables$ZeroTable" "signs" "[I" ∈ TB := tb_t 72 (by decide +kernel) rfl
theorem tw_59 : Cond.lays RX7 "SignTables$ZeroTable" "size" "I" ∈ TB := tb_t 74 (by decide +kernel) rfl
theorem tw_60 : Cond.classLink RX8 41 RX3 ∈ TB := tb_t 77 (by decide +kernel) rfl
theorem tw_61 : Cond.instantiable RX3 3 ∈ TB := tb_t 78 (by decide +kernel) rfl
theorem tw_62 : Cond.instanceMethod yX3_init ∈ TB := tb_t 80 (by decide +kernel) rfl
set_option maxRecDepth 100000 in
theorem tw_63 : Cond.code yX3_init cX3_init 1 (Option.none : Option Jvm.ClassFile.FieldType) ∈ TB := tb_t 81 rfl rfl
theorem tw_64 : Cond.methodLink RX3 3 (⟨"java/lang/Object", "<init>", "()V"⟩ : MethodName) ∈ TB := tb_t 82 (by decide +kernel) rfl
theorem tw_65 : Cond.fieldLink RX3 9 "SignTables$RangeTable" "firsts" "[I" ∈ TB := tb_t 83 (by decide +kernel) rfl
theorem tw_66 : Cond.fieldLink RX3 15 "SignTables$RangeTable" "lasts" "[I" ∈ TB := tb_t 84 (by decide +kernel) rfl
theorem tw_67 : Cond.fieldLink RX3 18 "SignTables$RangeTable" "size" "I" ∈ TB := tb_t 85 (by decide +kernel) rfl
theorem tw_68 : Cond.laysFinal RX3 "SignTables$RangeTable" "firsts" "[I" ∈ TB := tb_t 86 (by decide +kernel) rfl
theorem tw_69 : Cond.laysFinal RX3 "SignTables$RangeTable" "lasts" "[I" ∈ TB := tb_t 88 (by decide +kernel) rfl
theorem tw_70 : Cond.lays RX3 "SignTables$RangeTable" "size" "I" ∈ TB := tb_t 90 (by decide +kernel) rfl
theorem tw_71 : Cond.classLink RX8 48 RX6 ∈ TB := tb_t 93 (by decide +kernel) rfl
theorem tw_72 : Cond.instantiable RX6 2 ∈ TB := tb_t 94 (by decide +kernel) rfl
theorem tw_73 : Cond.instanceMethod yX6_init ∈ TB := tb_t 96 (by decide +kernel) rfl
set_option maxRecDepth 100000 in
theorem tw_74 : Cond.code yX6_init cX6_init 1 (Option.none : Option Jvm.ClassFile.FieldType) ∈ TB := tb_t 97 rfl rfl
theorem tw_75 : Cond.methodLink RX6 3 (⟨"java/lang/Object", "<init>", "()V"⟩ : MethodName) ∈ TB := tb_t 98 (by decide +kernel) rfl
theorem tw_76 : Cond.classLink RX6 9 RX4 ∈ TB := tb_t 99 (by decide +kernel) rfl
theorem tw_77 : Cond.fieldLink RX6 11 "SignTables$StringTable" "replacements" "[LSignTables$Replacement;" ∈ TB := tb_t 101 (by decide +kernel) rfl
theorem tw_78 : Cond.fieldLink RX6 17 "SignTables$StringTable" "size" "I" ∈ TB := tb_t 102 (by decide +kernel) rfl
theorem tw_79 : Cond.laysFinal RX6 "SignTables$StringTable" "replacements" "[LSignTables$Replacement;" ∈ TB := tb_t 103 (by decide +kernel) rfl
theorem tw_80 : Cond.lays RX6 "SignTables$StringTable" "size" "I" ∈ TB := tb_t 105 (by decide +kernel) rfl
theorem tw_81 : Cond.classLink RX8 55 RX0 ∈ TB := tb_t 108 (by decide +kernel) rfl
theorem tw_82 : Cond.classLink RX8 61 RX5 ∈ TB := tb_t 110 (by decide +kernel) rfl
theorem tw_83 : Cond.instantiable RX5 4 ∈ TB := tb_t 111 (by decide +kernel) rfl
theorem tw_84 : Cond.instanceMethod yX5_init ∈ TB := tb_t 113 (by decide +kernel) rfl
set_option maxRecDepth 100000 in
theorem tw_85 : Cond.code yX5_init cX5_init 1 (Option.none : Option Jvm.ClassFile.FieldType) ∈ TB := tb_t 114 rfl rfl
theorem tw_86 : Cond.methodLink RX5 3 (⟨"java/lang/Object", "<init>", "()V"⟩ : MethodName) ∈ TB := tb_t 115 (by decide +kernel) rfl
theorem tw_87 : Cond.fieldLink RX5 9 "SignTables$SignRow" "signs" "[I" ∈ TB := tb_t 116 (by decide +kernel) rfl
theorem tw_88 : Cond.fieldLink RX5 15 "SignTables$SignRow" "begins" "[I" ∈ TB := tb_t 117 (by decide +kernel) rfl
theorem tw_89 : Cond.fieldLink RX5 18 "SignTables$SignRow" "ends" "[I" ∈ TB := tb_t 118 (by decide +kernel) rfl
theorem tw_90 : Cond.fieldLink RX5 21 "SignTables$SignRow" "size" "I" ∈ TB := tb_t 119 (by decide +kernel) rfl
theorem tw_91 : Cond.laysFinal RX5 "SignTables$SignRow" "signs" "[I" ∈ TB := tb_t 120 (by decide +kernel) rfl
theorem tw_92 : Cond.laysFinal RX5 "SignTables$SignRow" "begins" "[I" ∈ TB := tb_t 122 (by decide +kernel) rfl
theorem tw_93 : Cond.laysFinal RX5 "SignTables$SignRow" "ends" "[I" ∈ TB := tb_t 124 (by decide +kernel) rfl
theorem tw_94 : Cond.lays RX5 "SignTables$SignRow" "size" "I" ∈ TB := tb_t 126 (by decide +kernel) rfl
theorem tw_95 : Cond.fieldLink RX8 9 "SignTables" "draft" "[I" ∈ TB := tb_t 129 (by decide +kernel) rfl
theorem tw_96 : Cond.fieldLink RX8 13 "SignTables" "draftSize" "I" ∈ TB := tb_t 130 (by decide +kernel) rfl
theorem tw_97 : Cond.fieldLink RX8 17 "SignTables" "markAt" "I" ∈ TB := tb_t 131 (by decide +kernel) rfl
theorem tw_98 : Cond.fieldLink RX8 23 "SignTables" "folds" "LSignTables$FoldTable;" ∈ TB := tb_t 132 (by decide +kernel) rfl
theorem tw_99 : Cond.fieldLink RX8 30 "SignTables" "pairs" "LSignTables$PairTable;" ∈ TB := tb_t 133 (by decide +kernel) rfl
theorem tw_100 : Cond.fieldLink RX8 37 "SignTables" "zeros" "LSignTables$ZeroTable;" ∈ TB := tb_t 134 (by decide +kernel) rfl
theorem tw_101 : Cond.fieldLink RX8 44 "SignTables" "ranges" "LSignTables$RangeTable;" ∈ TB := tb_t 135 (by decide +kernel) rfl
theorem tw_102 : Cond.fieldLink RX8 51 "SignTables" "strings" "LSignTables$StringTable;" ∈ TB := tb_t 136 (by decide +kernel) rfl
theorem tw_103 : Cond.fieldLink RX8 57 "SignTables" "chain" "[LSignTables$Filter;" ∈ TB := tb_t 137 (by decide +kernel) rfl
theorem tw_104 : Cond.fieldLink RX8 64 "SignTables" "source" "LSignTables$SignRow;" ∈ TB := tb_t 138 (by decide +kernel) rfl
theorem tw_105 : Cond.fieldLink RX8 68 "SignTables" "latest" "LSignTables$SignRow;" ∈ TB := tb_t 139 (by decide +kernel) rfl
theorem tw_106 : Cond.fieldLink RX8 71 "SignTables" "spareOne" "LSignTables$SignRow;" ∈ TB := tb_t 140 (by decide +kernel) rfl
theorem tw_107 : Cond.fieldLink RX8 74 "SignTables" "spareTwo" "LSignTables$SignRow;" ∈ TB := tb_t 141 (by decide +kernel) rfl
theorem tw_108 : Cond.laysFinal RX8 "SignTables" "draft" "[I" ∈ TB := tb_t 142 (by decide +kernel) rfl
theorem tw_109 : Cond.lays RX8 "SignTables" "draftSize" "I" ∈ TB := tb_t 144 (by decide +kernel) rfl
theorem tw_110 : Cond.lays RX8 "SignTables" "markAt" "I" ∈ TB := tb_t 146 (by decide +kernel) rfl
theorem tw_111 : Cond.laysFinal RX8 "SignTables" "folds" "LSignTables$FoldTable;" ∈ TB := tb_t 148 (by decide +kernel) rfl
theorem tw_112 : Cond.laysFinal RX8 "SignTables" "pairs" "LSignTables$PairTable;" ∈ TB := tb_t 150 (by decide +kernel) rfl
theorem tw_113 : Cond.laysFinal RX8 "SignTables" "zeros" "LSignTables$ZeroTable;" ∈ TB := tb_t 152 (by decide +kernel) rfl
theorem tw_114 : Cond.laysFinal RX8 "SignTables" "ranges" "LSignTables$RangeTable;" ∈ TB := tb_t 154 (by decide +kernel) rfl
theorem tw_115 : Cond.laysFinal RX8 "SignTables" "strings" "LSignTables$StringTable;" ∈ TB := tb_t 156 (by decide +kernel) rfl
theorem tw_116 : Cond.laysFinal RX8 "SignTables" "chain" "[LSignTables$Filter;" ∈ TB := tb_t 158 (by decide +kernel) rfl
theorem tw_117 : Cond.laysFinal RX8 "SignTables" "source" "LSignTables$SignRow;" ∈ TB := tb_t 160 (by decide +kernel) rfl
theorem tw_118 : Cond.lays RX8 "SignTables" "latest" "LSignTables$SignRow;" ∈ TB := tb_t 162 (by decide +kernel) rfl
theorem tw_119 : Cond.lays RX8 "SignTables" "spareOne" "LSignTables$SignRow;" ∈ TB := tb_t 164 (by decide +kernel) rfl
theorem tw_120 : Cond.lays RX8 "SignTables" "spareTwo" "LSignTables$SignRow;" ∈ TB := tb_t 166 (by decide +kernel) rfl
theorem tw_121 : Cond.methodLink RL 13 yX8_unit ∈ TB := tb_t 169 (by decide +kernel) rfl
theorem tw_122 : Cond.instanceMethod yX8_unit ∈ TB := tb_t 170 (by decide +kernel) rfl
theorem tw_123 : Cond.selects RX8 yX8_unit yX8_unit ∈ TB := tb_t 171 (by decide +kernel) rfl
set_option maxRecDepth 100000 in
theorem tw_124 : Cond.code yX8_unit cX8_unit 2 (Option.some Jvm.ClassFile.FieldType.int) ∈ TB := tb_t 172 rfl rfl
theorem tw_125 : Cond.constant RX8 77 (65535) ∈ TB := tb_t 173 (by decide +kernel) rfl
theorem tw_126 : Cond.methodLink RL 18 yX8_mark ∈ TB := tb_t 174 (by decide +kernel) rfl
theorem tw_127 : Cond.instanceMethod yX8_mark ∈ TB := tb_t 175 (by decide +kernel) rfl
theorem tw_128 : Cond.selects RX8 yX8_mark yX8_mark ∈ TB := tb_t 176 (by decide +kernel) rfl
set_option maxRecDepth 100000 in
theorem tw_129 : Cond.code yX8_mark cX8_mark 1 (Option.some Jvm.ClassFile.FieldType.int) ∈ TB := tb_t 177 rfl rfl
theorem tw_130 : Cond.methodLink RL 23 yX8_text ∈ TB := tb_t 178 (by decide +kernel) rfl
theorem tw_131 : Cond.instanceMethod yX8_text ∈ TB := tb_t 179 (by decide +kernel) rfl
theorem tw_132 : Cond.selects RX8 yX8_text yX8_text ∈ TB := tb_t 180 (by decide +kernel) rfl
set_option maxRecDepth 100000 in
theorem tw_133 : Cond.code yX8_text cX8_text 1 (Option.some Jvm.ClassFile.FieldType.int) ∈ TB := tb_t 181 rfl rfl
theorem tw_134 : Cond.methodLink RX8 78 yX8_readSigns ∈ TB := tb_t 182 (by decide +kernel) rfl
theorem tw_135 : Cond.instanceMethod yX8_readSigns ∈ TB := tb_t 184 (by decide +kernel) rfl
set_option maxRecDepth 100000 in
theorem tw_136 : Cond.code yX8_readSigns cX8_readSigns 7 (Option.none : Option Jvm.ClassFile.FieldType) ∈ TB := tb_t 185 rfl rfl
theorem tw_137 : Cond.methodLink RX8 190 yX5_clear ∈ TB := tb_t 186 (by decide +kernel) rfl
theorem tw_138 : Cond.instanceMethod yX5_clear ∈ TB := tb_t 187 (by decide +kernel) rfl
theorem tw_139 : Cond.selects RX5 yX5_clear yX5_clear ∈ TB := tb_t 188 (by decide +kernel) rfl
set_option maxRecDepth 100000 in
theorem tw_140 : Cond.code yX5_clear cX5_clear 1 (Option.none : Option Jvm.ClassFile.FieldType) ∈ TB := tb_t 189 rfl rfl
theorem tw_141 : Cond.methodLink RX8 193 yX8_isHigh ∈ TB := tb_t 190 (by decide +kernel) rfl
theorem tw_142 : Cond.static yX8_isHigh ∈ TB := tb_t 191 (by decide +kernel) rfl
set_option maxRecDepth 100000 in
theorem tw_143 : Cond.code yX8_isHigh cX8_isHigh 1 (Option.some Jvm.ClassFile.FieldType.boolean) ∈ TB := tb_t 192 rfl rfl
theorem tw_144 : Cond.constant RX8 183 (55296) ∈ TB := tb_t 193 (by decide +kernel) rfl
theorem tw_145 : Cond.constant RX8 184 (56320) ∈ TB := tb_t 194 (by decide +kernel) rfl
theorem tw_146 : Cond.methodLink RX8 196 yX8_isLow ∈ TB := tb_t 195 (by decide +kernel) rfl
theorem tw_147 : Cond.static yX8_isLow ∈ TB := tb_t 196 (by decide +kernel) rfl
set_option maxRecDepth 100000 in
theorem tw_148 : Cond.code yX8_isLow cX8_isLow 1 (Option.some Jvm.ClassFile.FieldType.boolean) ∈ TB := tb_t 197 rfl rfl
theorem tw_149 : Cond.constant RX8 185 (57343) ∈ TB := tb_t 198 (by decide +kernel) rfl
theorem tw_150 : Cond.constant RX8 186 (65536) ∈ TB := tb_t 199 (by decide +kernel) rfl
theorem tw_151 : Cond.methodLink RX8 199 yX5_add ∈ TB := tb_t 200 (by decide +kernel) rfl
theorem tw_152 : Cond.instanceMethod yX5_add ∈ TB := tb_t 201 (by decide +kernel) rfl
theorem tw_153 : Cond.selects RX5 yX5_add yX5_add ∈ TB := tb_t 202 (by decide +kernel) rfl
set_option maxRecDepth 100000 in
theorem tw_154 : Cond.code yX5_add cX5_add 4 (Option.some Jvm.ClassFile.FieldType.boolean) ∈ TB := tb_t 203 rfl rfl
theorem tw_155 : Cond.methodLink RX8 82 yX8_emptyDraft ∈ TB := tb_t 204 (by decide +kernel) rfl
theorem tw_156 : Cond.instanceMethod yX8_emptyDraft ∈ TB := tb_t 206 (by decide +kernel) rfl
set_option maxRecDepth 100000 in
theorem tw_157 : Cond.code yX8_emptyDraft cX8_emptyDraft 1 (Option.none : Option Jvm.ClassFile.FieldType) ∈ TB := tb_t 207 rfl rfl
theorem tw_158 : Cond.methodLink RX8 85 yX5_size ∈ TB := tb_t 208 (by decide +kernel) rfl
theorem tw_159 : Cond.instanceMethod yX5_size ∈ TB := tb_t 209 (by decide +kernel) rfl
theorem tw_160 : Cond.selects RX5 yX5_size yX5_size ∈ TB := tb_t 210 (by decide +kernel) rfl
set_option maxRecDepth 100000 in
theorem tw_161 : Cond.code yX5_size cX5_size 1 (Option.some Jvm.ClassFile.FieldType.int) ∈ TB := tb_t 211 rfl rfl
theorem tw_162 : Cond.methodLink RL 27 yX8_string ∈ TB := tb_t 212 (by decide +kernel) rfl
theorem tw_163 : Cond.instanceMethod yX8_string ∈ TB := tb_t 213 (by decide +kernel) rfl
theorem tw_164 : Cond.selects RX8 yX8_string yX8_string ∈ TB := tb_t 214 (by decide +kernel) rfl
set_option maxRecDepth 100000 in
theorem tw_165 : Cond.code yX8_string cX8_string 1 (Option.some Jvm.ClassFile.FieldType.int) ∈ TB := tb_t 215 rfl rfl
theorem tw_166 : Cond.methodLink RX8 89 yX6_put ∈ TB := tb_t 216 (by decide +kernel) rfl
theorem tw_167 : Cond.instanceMethod yX6_put ∈ TB := tb_t 217 (by decide +kernel) rfl
theorem tw_168 : Cond.selects RX6 yX6_put yX6_put ∈ TB := tb_t 218 (by decide +kernel) rfl
set_option maxRecDepth 100000 in
theorem tw_169 : Cond.code yX6_put cX6_put 4 (Option.some Jvm.ClassFile.FieldType.boolean) ∈ TB := tb_t 219 rfl rfl
theorem tw_170 : Cond.methodLink RX6 21 yX6_slotOf ∈ TB := tb_t 220 (by decide +kernel) rfl
theorem tw_171 : Cond.instanceMethod yX6_slotOf ∈ TB := tb_t 222 (by decide +kernel) rfl
set_option maxRecDepth 100000 in
theorem tw_172 : Cond.code yX6_slotOf cX6_slotOf 4 (Option.some Jvm.ClassFile.FieldType.int) ∈ TB := tb_t 223 rfl rfl
theorem tw_173 : Cond.methodLink RX6 28 yX4_length ∈ TB := tb_t 224 (by decide +kernel) rfl
theorem tw_174 : Cond.instanceMethod yX4_length ∈ TB := tb_t 225 (by decide +kernel) rfl
theorem tw_175 : Cond.selects RX4 yX4_length yX4_length ∈ TB := tb_t 226 (by decide +kernel) rfl
set_option maxRecDepth 100000 in
theorem tw_176 : Cond.code yX4_length cX4_length 1 (Option.some Jvm.ClassFile.FieldType.int) ∈ TB := tb_t 227 rfl rfl
theorem tw_177 : Cond.methodLink RX6 32 yX5_size ∈ TB := tb_t 228 (by decide +kernel) rfl
theorem tw_178 : Cond.methodLink RX6 36 yX4_standsAt ∈ TB := tb_t 229 (by decide +kernel) rfl
theorem tw_179 : Cond.instanceMethod yX4_standsAt ∈ TB := tb_t 230 (by decide +kernel) rfl
theorem tw_180 : Cond.selects RX4 yX4_standsAt yX4_standsAt ∈ TB := tb_t 231 (by decide +kernel) rfl
set_option maxRecDepth 100000 in
theorem tw_181 : Cond.code yX4_standsAt cX4_standsAt 4 (Option.some Jvm.ClassFile.FieldType.boolean) ∈ TB := tb_t 232 rfl rfl
theorem tw_182 : Cond.methodLink RX4 22 yX5_size ∈ TB := tb_t 233 (by decide +kernel) rfl
theorem tw_183 : Cond.methodLink RX4 26 yX5_signAt ∈ TB := tb_t 234 (by decide +kernel) rfl
theorem tw_184 : Cond.instanceMethod yX5_signAt ∈ TB := tb_t 235 (by decide +kernel) rfl
theorem tw_185 : Cond.selects RX5 yX5_signAt yX5_signAt ∈ TB := tb_t 236 (by decide +kernel) rfl
set_option maxRecDepth 100000 in
theorem tw_186 : Cond.code yX5_signAt cX5_signAt 2 (Option.some Jvm.ClassFile.FieldType.int) ∈ TB := tb_t 237 rfl rfl
theorem tw_187 : Cond.methodLink RX5 25 yX5_has ∈ TB := tb_t 238 (by decide +kernel) rfl
theorem tw_188 : Cond.instanceMethod yX5_has ∈ TB := tb_t 239 (by decide +kernel) rfl
theorem tw_189 : Cond.selects RX5 yX5_has yX5_has ∈ TB := tb_t 240 (by decide +kernel) rfl
set_option maxRecDepth 100000 in
theorem tw_190 : Cond.code yX5_has cX5_has 2 (Option.some Jvm.ClassFile.FieldType.boolean) ∈ TB := tb_t 241 rfl rfl
theorem tw_191 : Cond.instantiable RX4 2 ∈ TB := tb_t 242 (by decide +kernel) rfl
theorem tw_192 : Cond.methodLink RX6 25 yX4_init ∈ TB := tb_t 243 (by decide +kernel) rfl
theorem tw_193 : Cond.instanceMethod yX4_init ∈ TB := tb_t 244 (by decide +kernel) rfl
set_option maxRecDepth 100000 in
theorem tw_194 : Cond.code yX4_init cX4_init 3 (Option.none : Option Jvm.ClassFile.FieldType) ∈ TB := tb_t 245 rfl rfl
theorem tw_195 : Cond.methodLink RX4 1 (⟨"java/lang/Object", "<init>", "()V"⟩ : MethodName) ∈ TB := tb_t 246 (by decide +kernel) rfl
theorem tw_196 : Cond.methodLink RX4 7 yX5_signsAlone ∈ TB := tb_t 247 (by decide +kernel) rfl
theorem tw_197 : Cond.instanceMethod yX5_signsAlone ∈ TB := tb_t 248 (by decide +kernel) rfl
theorem tw_198 : Cond.selects RX5 yX5_signsAlone yX5_signsAlone ∈ TB := tb_t 249 (by decide +kernel) rfl
set_option maxRecDepth 100000 in
theorem tw_199 : Cond.code yX5_signsAlone cX5_signsAlone 1 (Option.some (Jvm.ClassFile.FieldType.array Jvm.ClassFile.FieldType.int)) ∈ TB := tb_t 250 rfl rfl
theorem tw_200 : Cond.methodLink RX5 49 yJ7_copyOf_59c91 ∈ TB := tb_t 251 (by decide +kernel) rfl
theorem tw_201 : Cond.static yJ7_copyOf_59c91 ∈ TB := tb_t 252 (by decide +kernel) rfl
set_option maxRecDepth 100000 in
theorem tw_202 : Cond.code yJ7_copyOf_59c91 cJ7_copyOf_59c91 3 (Option.some (Jvm.ClassFile.FieldType.array Jvm.ClassFile.FieldType.int)) ∈ TB := tb_t 253 rfl rfl
theorem tw_203 : Cond.methodLink RJ7 316 (⟨"[I", "clone", "()Ljava/lang/Object;"⟩ : MethodName) ∈ TB := tb_t 254 (by decide +kernel) rfl
theorem tw_204 : Cond.native (⟨"java/lang/Object", "clone", "()Ljava/lang/Object;"⟩ : MethodName) ∈ TB := tb_t 256 (by decide +kernel) rfl
theorem tw_205 : Cond.instanceMethod (⟨"java/lang/Object", "clone", "()Ljava/lang/Object;"⟩ : MethodName) ∈ TB := tb_t 257 (by decide +kernel) rfl
theorem tw_206 : Cond.classLink RJ7 317 "[I" ∈ TB := tb_t 260 (by decide +kernel) rfl
theorem tw_207 : Cond.methodLink RJ7 304 yJ9_min_7cf53 ∈ TB := tb_t 261 (by decide +kernel) rfl
theorem tw_208 : Cond.static yJ9_min_7cf53 ∈ TB := tb_t 262 (by decide +kernel) rfl
set_option maxRecDepth 100000 in
theorem tw_209 : Cond.code yJ9_min_7cf53 cJ9_min_7cf53 2 (Option.some Jvm.ClassFile.FieldType.int) ∈ TB := tb_t 263 rfl rfl
theorem tw_210 : Cond.methodLink RJ7 150 (⟨"java/lang/System", "arraycopy", "(Ljava/lang/Object;ILjava/lang/Object;II)V"⟩ : MethodName) ∈ TB := tb_t 264 (by decide +kernel) rfl
theorem tw_211 : Cond.static (⟨"java/lang/System", "arraycopy", "(Ljava/lang/Object;ILjava/lang/Object;II)V"⟩ : MethodName) ∈ TB := tb_t 265 (by decide +kernel) rfl
theorem tw_212 : Cond.native (⟨"java/lang/System", "arraycopy", "(Ljava/lang/Object;ILjava/lang/Object;II)V"⟩ : MethodName) ∈ TB := tb_t 266 (by decide +kernel) rfl
theorem tw_213 : Cond.fieldLink RX4 13 "SignTables$Replacement" "before" "[I" ∈ TB := tb_t 267 (by decide +kernel) rfl
theorem tw_214 : Cond.fieldLink RX4 19 "SignTables$Replacement" "after" "[I" ∈ TB := tb_t 268 (by decide +kernel) rfl
theorem tw_215 : Cond.laysFinal RX4 "SignTables$Replacement" "before" "[I" ∈ TB := tb_t 269 (by decide +kernel) rfl
theorem tw_216 : Cond.laysFinal RX4 "SignTables$Replacement" "after" "[I" ∈ TB := tb_t 271 (by decide +kernel) rfl
theorem tw_217 : Cond.methodLink RX8 93 yX6_size ∈ TB := tb_t 274 (by decide +kernel) rfl
theorem tw_218 : Cond.instanceMethod yX6_size ∈ TB := tb_t 275 (by decide +kernel) rfl
theorem tw_219 : Cond.selects RX6 yX6_size yX6_size ∈ TB := tb_t 276 (by decide +kernel) rfl
set_option maxRecDepth 100000 in
theorem tw_220 : Cond.code yX6_size cX6_size 1 (Option.some Jvm.ClassFile.FieldType.int) ∈ TB := tb_t 277 rfl rfl
theorem tw_221 : Cond.methodLink RL 31 yX8_fold ∈ TB := tb_t 278 (by decide +kernel) rfl
theorem tw_222 : Cond.instanceMethod yX8_fold ∈ TB := tb_t 279 (by decide +kernel) rfl
theorem tw_223 : Cond.selects RX8 yX8_fold yX8_fold ∈ TB := tb_t 280 (by decide +kernel) rfl
set_option maxRecDepth 100000 in
theorem tw_224 : Cond.code yX8_fold cX8_fold 5 (Option.some Jvm.ClassFile.FieldType.int) ∈ TB := tb_t 281 rfl rfl
theorem tw_225 : Cond.methodLink RX8 94 yX8_isSign ∈ TB := tb_t 282 (by decide +kernel) rfl
theorem tw_226 : Cond.static yX8_isSign ∈ TB := tb_t 283 (by decide +kernel) rfl
set_option maxRecDepth 100000 in
theorem tw_227 : Cond.code yX8_isSign cX8_isSign 1 (Option.some Jvm.ClassFile.FieldType.boolean) ∈ TB := tb_t 284 rfl rfl
theorem tw_228 : Cond.constant RX8 179 (1114111) ∈ TB := tb_t 285 (by decide +kernel) rfl
theorem tw_229 : Cond.methodLink RX8 98 yX8_isFoldRow ∈ TB := tb_t 286 (by decide +kernel) rfl
theorem tw_230 : Cond.static yX8_isFoldRow ∈ TB := tb_t 287 (by decide +kernel) rfl
set_option maxRecDepth 100000 in
theorem tw_231 : Cond.code yX8_isFoldRow cX8_isFoldRow 3 (Option.some Jvm.ClassFile.FieldType.boolean) ∈ TB := tb_t 288 rfl rfl
theorem tw_232 : Cond.methodLink RX8 180 yX8_isSignOrNone ∈ TB := tb_t 289 (by decide +kernel) rfl
theorem tw_233 : Cond.static yX8_isSignOrNone ∈ TB := tb_t 290 (by decide +kernel) rfl
set_option maxRecDepth 100000 in
theorem tw_234 : Cond.code yX8_isSignOrNone cX8_isSignOrNone 1 (Option.some Jvm.ClassFile.FieldType.boolean) ∈ TB := tb_t 291 rfl rfl
theorem tw_235 : Cond.methodLink RX8 102 yX1_put ∈ TB := tb_t 292 (by decide +kernel) rfl
theorem tw_236 : Cond.instanceMethod yX1_put ∈ TB := tb_t 293 (by decide +kernel) rfl
theorem tw_237 : Cond.selects RX1 yX1_put yX1_put ∈ TB := tb_t 294 (by decide +kernel) rfl
set_option maxRecDepth 100000 in
theorem tw_238 : Cond.code yX1_put cX1_put 6 (Option.some Jvm.ClassFile.FieldType.boolean) ∈ TB := tb_t 295 rfl rfl
theorem tw_239 : Cond.methodLink RX1 28 yX1_slotOf ∈ TB := tb_t 296 (by decide +kernel) rfl
theorem tw_240 : Cond.instanceMethod yX1_slotOf ∈ TB := tb_t 297 (by decide +kernel) rfl
theorem tw_241 : Cond.selects RX1 yX1_slotOf yX1_slotOf ∈ TB := tb_t 298 (by decide +kernel) rfl
set_option maxRecDepth 100000 in
theorem tw_242 : Cond.code yX1_slotOf cX1_slotOf 3 (Option.some Jvm.ClassFile.FieldType.int) ∈ TB := tb_t 299 rfl rfl
theorem tw_243 : Cond.methodLink RX8 105 yX1_size ∈ TB := tb_t 300 (by decide +kernel) rfl
theorem tw_244 : Cond.instanceMethod yX1_size ∈ TB := tb_t 301 (by decide +kernel) rfl
theorem tw_245 : Cond.selects RX1 yX1_size yX1_size ∈ TB := tb_t 302 (by decide +kernel) rfl
set_option maxRecDepth 100000 in
theorem tw_246 : Cond.code yX1_size cX1_size 1 (Option.some Jvm.ClassFile.FieldType.int) ∈ TB := tb_t 303 rfl rfl
theorem tw_247 : Cond.methodLink RL 36 yX8_pair ∈ TB := tb_t 304 (by decide +kernel) rfl
theorem tw_248 : Cond.instanceMethod yX8_pair ∈ TB := tb_t 305 (by decide +kernel) rfl
theorem tw_249 : Cond.selects RX8 yX8_pair yX8_pair ∈ TB := tb_t 306 (by decide +kernel) rfl
set_option maxRecDepth 100000 in
theorem tw_250 : Cond.code yX8_pair cX8_pair 4 (Option.some Jvm.ClassFile.FieldType.int) ∈ TB := tb_t 307 rfl rfl
theorem tw_251 : Cond.methodLink RX8 106 yX2_put ∈ TB := tb_t 308 (by decide +kernel) rfl
theorem tw_252 : Cond.instanceMethod yX2_put ∈ TB := tb_t 309 (by decide +kernel) rfl
theorem tw_253 : Cond.selects RX2 yX2_put yX2_put ∈ TB := tb_t 310 (by decide +kernel) rfl
set_option maxRecDepth 100000 in
theorem tw_254 : Cond.code yX2_put cX2_put 5 (Option.some Jvm.ClassFile.FieldType.boolean) ∈ TB := tb_t 311 rfl rfl
theorem tw_255 : Cond.methodLink RX2 25 yX2_slotOf ∈ TB := tb_t 312 (by decide +kernel) rfl
theorem tw_256 : Cond.instanceMethod yX2_slotOf ∈ TB := tb_t 313 (by decide +kernel) rfl
theorem tw_257 : Cond.selects RX2 yX2_slotOf yX2_slotOf ∈ TB := tb_t 314 (by decide +kernel) rfl
set_option maxRecDepth 100000 in
theorem tw_258 : Cond.code yX2_slotOf cX2_slotOf 4 (Option.some Jvm.ClassFile.FieldType.int) ∈ TB := tb_t 315 rfl rfl
theorem tw_259 : Cond.methodLink RX8 108 yX2_size ∈ TB := tb_t 316 (by decide +kernel) rfl
theorem tw_260 : Cond.instanceMethod yX2_size ∈ TB := tb_t 317 (by decide +kernel) rfl
theorem tw_261 : Cond.selects RX2 yX2_size yX2_size ∈ TB := tb_t 318 (by decide +kernel) rfl
set_option maxRecDepth 100000 in
theorem tw_262 : Cond.code yX2_size cX2_size 1 (Option.some Jvm.ClassFile.FieldType.int) ∈ TB := tb_t 319 rfl rfl
theorem tw_263 : Cond.methodLink RL 41 yX8_zero ∈ TB := tb_t 320 (by decide +kernel) rfl
theorem tw_264 : Cond.instanceMethod yX8_zero ∈ TB := tb_t 321 (by decide +kernel) rfl
theorem tw_265 : Cond.selects RX8 yX8_zero yX8_zero ∈ TB := tb_t 322 (by decide +kernel) rfl
set_option maxRecDepth 100000 in
theorem tw_266 : Cond.code yX8_zero cX8_zero 2 (Option.some Jvm.ClassFile.FieldType.int) ∈ TB := tb_t 323 rfl rfl
theorem tw_267 : Cond.constant RX8 109 (1114102) ∈ TB := tb_t 324 (by decide +kernel) rfl
theorem tw_268 : Cond.methodLink RX8 110 yX7_add ∈ TB := tb_t 325 (by decide +kernel) rfl
theorem tw_269 : Cond.instanceMethod yX7_add ∈ TB := tb_t 326 (by decide +kernel) rfl
theorem tw_270 : Cond.selects RX7 yX7_add yX7_add ∈ TB := tb_t 327 (by decide +kernel) rfl
set_option maxRecDepth 100000 in
theorem tw_271 : Cond.code yX7_add cX7_add 2 (Option.some Jvm.ClassFile.FieldType.boolean) ∈ TB := tb_t 328 rfl rfl
theorem tw_272 : Cond.methodLink RX8 113 yX7_size ∈ TB := tb_t 329 (by decide +kernel) rfl
theorem tw_273 : Cond.instanceMethod yX7_size ∈ TB := tb_t 330 (by decide +kernel) rfl
theorem tw_274 : Cond.selects RX7 yX7_size yX7_size ∈ TB := tb_t 331 (by decide +kernel) rfl
set_option maxRecDepth 100000 in
theorem tw_275 : Cond.code yX7_size cX7_size 1 (Option.some Jvm.ClassFile.FieldType.int) ∈ TB := tb_t 332 rfl rfl
theorem tw_276 : Cond.methodLink RL 45 yX8_range ∈ TB := tb_t 333 (by decide +kernel) rfl
theorem tw_277 : Cond.instanceMethod yX8_range ∈ TB := tb_t 334 (by decide +kernel) rfl
theorem tw_278 : Cond.selects RX8 yX8_range yX8_range ∈ TB := tb_t 335 (by decide +kernel) rfl
set_option maxRecDepth 100000 in
theorem tw_279 : Cond.code yX8_range cX8_range 3 (Option.some Jvm.ClassFile.FieldType.int) ∈ TB := tb_t 336 rfl rfl
theorem tw_280 : Cond.methodLink RX8 114 yX3_add ∈ TB := tb_t 337 (by decide +kernel) rfl
theorem tw_281 : Cond.instanceMethod yX3_add ∈ TB := tb_t 338 (by decide +kernel) rfl
theorem tw_282 : Cond.selects RX3 yX3_add yX3_add ∈ TB := tb_t 339 (by decide +kernel) rfl
set_option maxRecDepth 100000 in
theorem tw_283 : Cond.code yX3_add cX3_add 3 (Option.some Jvm.ClassFile.FieldType.boolean) ∈ TB := tb_t 340 rfl rfl
theorem tw_284 : Cond.methodLink RX8 117 yX3_size ∈ TB := tb_t 341 (by decide +kernel) rfl
theorem tw_285 : Cond.instanceMethod yX3_size ∈ TB := tb_t 342 (by decide +kernel) rfl
theorem tw_286 : Cond.selects RX3 yX3_size yX3_size ∈ TB := tb_t 343 (by decide +kernel) rfl
set_option maxRecDepth 100000 in
theorem tw_287 : Cond.code yX3_size cX3_size 1 (Option.some Jvm.ClassFile.FieldType.int) ∈ TB := tb_t 344 rfl rfl
theorem tw_288 : Cond.methodLink RL 50 yX8_filter ∈ TB := tb_t 345 (by decide +kernel) rfl
theorem tw_289 : Cond.instanceMethod yX8_filter ∈ TB := tb_t 346 (by decide +kernel) rfl
theorem tw_290 : Cond.selects RX8 yX8_filter yX8_filter ∈ TB := tb_t 347 (by decide +kernel) rfl
set_option maxRecDepth 100000 in
theorem tw_291 : Cond.code yX8_filter cX8_filter 3 (Option.some Jvm.ClassFile.FieldType.int) ∈ TB := tb_t 348 rfl rfl
theorem tw_292 : Cond.methodLink RX8 118 yX8_isPlace ∈ TB := tb_t 349 (by decide +kernel) rfl
theorem tw_293 : Cond.static yX8_isPlace ∈ TB := tb_t 350 (by decide +kernel) rfl
set_option maxRecDepth 100000 in
theorem tw_294 : Cond.code yX8_isPlace cX8_isPlace 1 (Option.some Jvm.ClassFile.FieldType.boolean) ∈ TB := tb_t 351 rfl rfl
theorem tw_295 : Cond.instantiable RX0 6 ∈ TB := tb_t 352 (by decide +kernel) rfl
theorem tw_296 : Cond.methodLink RX8 121 yX0_init ∈ TB := tb_t 353 (by decide +kernel) rfl
theorem tw_297 : Cond.instanceMethod yX0_init ∈ TB := tb_t 354 (by decide +kernel) rfl
set_option maxRecDepth 100000 in
theorem tw_298 : Cond.code yX0_init cX0_init 2 (Option.none : Option Jvm.ClassFile.FieldType) ∈ TB := tb_t 355 rfl rfl
theorem tw_299 : Cond.methodLink RX0 3 (⟨"java/lang/Object", "<init>", "()V"⟩ : MethodName) ∈ TB := tb_t 356 (by decide +kernel) rfl
theorem tw_300 : Cond.fieldLink RX0 27 "SignTables$Filter" "kind" "I" ∈ TB := tb_t 357 (by decide +kernel) rfl
theorem tw_301 : Cond.fieldLink RX8 124 "SignTables$Filter" "kind" "I" ∈ TB := tb_t 358 (by decide +kernel) rfl
theorem tw_302 : Cond.fieldLink RX0 9 "SignTables$Filter" "halvesRule" "I" ∈ TB := tb_t 359 (by decide +kernel) rfl
theorem tw_303 : Cond.fieldLink RX8 127 "SignTables$Filter" "halvesRule" "I" ∈ TB := tb_t 360 (by decide +kernel) rfl
theorem tw_304 : Cond.fieldLink RX0 15 "SignTables$Filter" "settledMet" "I" ∈ TB := tb_t 361 (by decide +kernel) rfl
theorem tw_305 : Cond.fieldLink RX8 167 "SignTables$Filter" "settledMet" "I" ∈ TB := tb_t 362 (by decide +kernel) rfl
theorem tw_306 : Cond.fieldLink RX0 18 "SignTables$Filter" "settledGrown" "I" ∈ TB := tb_t 363 (by decide +kernel) rfl
theorem tw_307 : Cond.fieldLink RX8 170 "SignTables$Filter" "settledGrown" "I" ∈ TB := tb_t 364 (by decide +kernel) rfl
theorem tw_308 : Cond.fieldLink RX0 21 "SignTables$Filter" "runningMet" "I" ∈ TB := tb_t 365 (by decide +kernel) rfl
theorem tw_309 : Cond.fieldLink RX0 24 "SignTables$Filter" "runningGrown" "I" ∈ TB := tb_t 366 (by decide +kernel) rfl
theorem tw_310 : Cond.laysFinal RX0 "SignTables$Filter" "kind" "I" ∈ TB := tb_t 367 (by decide +kernel) rfl
theorem tw_311 : Cond.lays RX0 "SignTables$Filter" "halvesRule" "I" ∈ TB := tb_t 369 (by decide +kernel) rfl
theorem tw_312 : Cond.lays RX0 "SignTables$Filter" "settledMet" "I" ∈ TB := tb_t 371 (by decide +kernel) rfl
theorem tw_313 : Cond.lays RX0 "SignTables$Filter" "settledGrown" "I" ∈ TB := tb_t 373 (by decide +kernel) rfl
theorem tw_314 : Cond.lays RX0 "SignTables$Filter" "runningMet" "I" ∈ TB := tb_t 375 (by decide +kernel) rfl
theorem tw_315 : Cond.lays RX0 "SignTables$Filter" "runningGrown" "I" ∈ TB := tb_t 377 (by decide +kernel) rfl
theorem tw_316 : Cond.methodLink RL 54 yX8_drop ∈ TB := tb_t 380 (by decide +kernel) rfl
theorem tw_317 : Cond.instanceMethod yX8_drop ∈ TB := tb_t 381 (by decide +kernel) rfl
theorem tw_318 : Cond.selects RX8 yX8_drop yX8_drop ∈ TB := tb_t 382 (by decide +kernel) rfl
set_option maxRecDepth 100000 in
theorem tw_319 : Cond.code yX8_drop cX8_drop 3 (Option.some Jvm.ClassFile.FieldType.int) ∈ TB := tb_t 383 rfl rfl
theorem tw_320 : Cond.methodLink RL 58 yX8_rule ∈ TB := tb_t 384 (by decide +kernel) rfl
theorem tw_321 : Cond.instanceMethod yX8_rule ∈ TB := tb_t 385 (by decide +kernel) rfl
theorem tw_322 : Cond.selects RX8 yX8_rule yX8_rule ∈ TB := tb_t 386 (by decide +kernel) rfl
set_option maxRecDepth 100000 in
theorem tw_323 : Cond.code yX8_rule cX8_rule 5 (Option.some Jvm.ClassFile.FieldType.int) ∈ TB := tb_t 387 rfl rfl
theorem tw_324 : Cond.methodLink RL 62 yX8_run ∈ TB := tb_t 388 (by decide +kernel) rfl
theorem tw_325 : Cond.instanceMethod yX8_run ∈ TB := tb_t 389 (by decide +kernel) rfl
theorem tw_326 : Cond.selects RX8 yX8_run yX8_run ∈ TB := tb_t 390 (by decide +kernel) rfl
set_option maxRecDepth 100000 in
theorem tw_327 : Cond.code yX8_run cX8_run 6 (Option.some Jvm.ClassFile.FieldType.int) ∈ TB := tb_t 391 rfl rfl
theorem tw_328 : Cond.methodLink RX8 130 yX5_copyFrom ∈ TB := tb_t 392 (by decide +kernel) rfl
theorem tw_329 : Cond.instanceMethod yX5_copyFrom ∈ TB := tb_t 393 (by decide +kernel) rfl
theorem tw_330 : Cond.selects RX5 yX5_copyFrom yX5_copyFrom ∈ TB := tb_t 394 (by decide +kernel) rfl
set_option maxRecDepth 100000 in
theorem tw_331 : Cond.code yX5_copyFrom cX5_copyFrom 3 (Option.none : Option Jvm.ClassFile.FieldType) ∈ TB := tb_t 395 rfl rfl
theorem tw_332 : Cond.methodLink RX5 29 yX5_clear ∈ TB := tb_t 396 (by decide +kernel) rfl
theorem tw_333 : Cond.methodLink RX5 32 yX5_size ∈ TB := tb_t 397 (by decide +kernel) rfl
theorem tw_334 : Cond.methodLink RX5 35 yX5_signAt ∈ TB := tb_t 398 (by decide +kernel) rfl
theorem tw_335 : Cond.methodLink RX5 39 yX5_beginAt ∈ TB := tb_t 399 (by decide +kernel) rfl
theorem tw_336 : Cond.instanceMethod yX5_beginAt ∈ TB := tb_t 400 (by decide +kernel) rfl
theorem tw_337 : Cond.selects RX5 yX5_beginAt yX5_beginAt ∈ TB := tb_t 401 (by decide +kernel) rfl
set_option maxRecDepth 100000 in
theorem tw_338 : Cond.code yX5_beginAt cX5_beginAt 2 (Option.some Jvm.ClassFile.FieldType.int) ∈ TB := tb_t 402 rfl rfl
theorem tw_339 : Cond.methodLink RX5 42 yX5_endAt ∈ TB := tb_t 403 (by decide +kernel) rfl
theorem tw_340 : Cond.instanceMethod yX5_endAt ∈ TB := tb_t 404 (by decide +kernel) rfl
theorem tw_341 : Cond.selects RX5 yX5_endAt yX5_endAt ∈ TB := tb_t 405 (by decide +kernel) rfl
set_option maxRecDepth 100000 in
theorem tw_342 : Cond.code yX5_endAt cX5_endAt 2 (Option.some Jvm.ClassFile.FieldType.int) ∈ TB := tb_t 406 rfl rfl
theorem tw_343 : Cond.methodLink RX5 45 yX5_add ∈ TB := tb_t 407 (by decide +kernel) rfl
theorem tw_344 : Cond.methodLink RX8 134 yX0_beginRun ∈ TB := tb_t 408 (by decide +kernel) rfl
theorem tw_345 : Cond.instanceMethod yX0_beginRun ∈ TB := tb_t 409 (by decide +kernel) rfl
theorem tw_346 : Cond.selects RX0 yX0_beginRun yX0_beginRun ∈ TB := tb_t 410 (by decide +kernel) rfl
set_option maxRecDepth 100000 in
theorem tw_347 : Cond.code yX0_beginRun cX0_beginRun 1 (Option.none : Option Jvm.ClassFile.FieldType) ∈ TB := tb_t 411 rfl rfl
theorem tw_348 : Cond.methodLink RX8 137 yX8_passThrough ∈ TB := tb_t 412 (by decide +kernel) rfl
theorem tw_349 : Cond.instanceMethod yX8_passThrough ∈ TB := tb_t 414 (by decide +kernel) rfl
set_option maxRecDepth 100000 in
theorem tw_350 : Cond.code yX8_passThrough cX8_passThrough 4 (Option.some Jvm.ClassFile.FieldType.boolean) ∈ TB := tb_t 415 rfl rfl
theorem tw_351 : Cond.methodLink RX8 204 yX8_passFolding ∈ TB := tb_t 416 (by decide +kernel) rfl
theorem tw_352 : Cond.instanceMethod yX8_passFolding ∈ TB := tb_t 418 (by decide +kernel) rfl
set_option maxRecDepth 100000 in
theorem tw_353 : Cond.code yX8_passFolding cX8_passFolding 9 (Option.some Jvm.ClassFile.FieldType.boolean) ∈ TB := tb_t 419 rfl rfl
theorem tw_354 : Cond.methodLink RX8 147 yX5_signAt ∈ TB := tb_t 420 (by decide +kernel) rfl
theorem tw_355 : Cond.methodLink RX8 225 yX1_slotOf ∈ TB := tb_t 421 (by decide +kernel) rfl
theorem tw_356 : Cond.methodLink RX8 154 yX5_beginAt ∈ TB := tb_t 422 (by decide +kernel) rfl
theorem tw_357 : Cond.methodLink RX8 151 yX5_endAt ∈ TB := tb_t 423 (by decide +kernel) rfl
theorem tw_358 : Cond.methodLink RX8 228 yX0_meetOne ∈ TB := tb_t 424 (by decide +kernel) rfl
theorem tw_359 : Cond.instanceMethod yX0_meetOne ∈ TB := tb_t 425 (by decide +kernel) rfl
theorem tw_360 : Cond.selects RX0 yX0_meetOne yX0_meetOne ∈ TB := tb_t 426 (by decide +kernel) rfl
set_option maxRecDepth 100000 in
theorem tw_361 : Cond.code yX0_meetOne cX0_meetOne 1 (Option.none : Option Jvm.ClassFile.FieldType) ∈ TB := tb_t 427 rfl rfl
theorem tw_362 : Cond.methodLink RX8 231 yX1_unitsAt ∈ TB := tb_t 428 (by decide +kernel) rfl
theorem tw_363 : Cond.instanceMethod yX1_unitsAt ∈ TB := tb_t 429 (by decide +kernel) rfl
theorem tw_364 : Cond.selects RX1 yX1_unitsAt yX1_unitsAt ∈ TB := tb_t 430 (by decide +kernel) rfl
set_option maxRecDepth 100000 in
theorem tw_365 : Cond.code yX1_unitsAt cX1_unitsAt 4 (Option.some Jvm.ClassFile.FieldType.int) ∈ TB := tb_t 431 rfl rfl
theorem tw_366 : Cond.methodLink RX1 36 yX1_lengthAt ∈ TB := tb_t 432 (by decide +kernel) rfl
theorem tw_367 : Cond.instanceMethod yX1_lengthAt ∈ TB := tb_t 433 (by decide +kernel) rfl
theorem tw_368 : Cond.selects RX1 yX1_lengthAt yX1_lengthAt ∈ TB := tb_t 434 (by decide +kernel) rfl
set_option maxRecDepth 100000 in
theorem tw_369 : Cond.code yX1_lengthAt cX1_lengthAt 3 (Option.some Jvm.ClassFile.FieldType.int) ∈ TB := tb_t 435 rfl rfl
theorem tw_370 : Cond.methodLink RX1 32 yX1_partAt ∈ TB := tb_t 436 (by decide +kernel) rfl
theorem tw_371 : Cond.instanceMethod yX1_partAt ∈ TB := tb_t 437 (by decide +kernel) rfl
theorem tw_372 : Cond.selects RX1 yX1_partAt yX1_partAt ∈ TB := tb_t 438 (by decide +kernel) rfl
set_option maxRecDepth 100000 in
theorem tw_373 : Cond.code yX1_partAt cX1_partAt 3 (Option.some Jvm.ClassFile.FieldType.int) ∈ TB := tb_t 439 rfl rfl
theorem tw_374 : Cond.static yX8_unitsOf ∈ TB := tb_t 441 (by decide +kernel) rfl
set_option maxRecDepth 100000 in
theorem tw_375 : Cond.code yX8_unitsOf cX8_unitsOf 1 (Option.some Jvm.ClassFile.FieldType.int) ∈ TB := tb_t 442 rfl rfl
theorem tw_376 : Cond.methodLink RX8 157 yX8_unitsOf ∈ TB := tb_t 443 (by decide +kernel) rfl
theorem tw_377 : Cond.methodLink RX8 234 yX0_growBy ∈ TB := tb_t 444 (by decide +kernel) rfl
theorem tw_378 : Cond.instanceMethod yX0_growBy ∈ TB := tb_t 445 (by decide +kernel) rfl
theorem tw_379 : Cond.selects RX0 yX0_growBy yX0_growBy ∈ TB := tb_t 446 (by decide +kernel) rfl
set_option maxRecDepth 100000 in
theorem tw_380 : Cond.code yX0_growBy cX0_growBy 2 (Option.none : Option Jvm.ClassFile.FieldType) ∈ TB := tb_t 447 rfl rfl
theorem tw_381 : Cond.methodLink RX8 237 yX1_lengthAt ∈ TB := tb_t 448 (by decide +kernel) rfl
theorem tw_382 : Cond.methodLink RX8 240 yX1_partAt ∈ TB := tb_t 449 (by decide +kernel) rfl
theorem tw_383 : Cond.methodLink RX8 207 yX8_passComposing ∈ TB := tb_t 450 (by decide +kernel) rfl
theorem tw_384 : Cond.instanceMethod yX8_passComposing ∈ TB := tb_t 452 (by decide +kernel) rfl
set_option maxRecDepth 100000 in
theorem tw_385 : Cond.code yX8_passComposing cX8_passComposing 7 (Option.some Jvm.ClassFile.FieldType.boolean) ∈ TB := tb_t 453 rfl rfl
theorem tw_386 : Cond.methodLink RX8 243 yX2_slotOf ∈ TB := tb_t 454 (by decide +kernel) rfl
theorem tw_387 : Cond.methodLink RX8 245 yX2_signAt ∈ TB := tb_t 455 (by decide +kernel) rfl
theorem tw_388 : Cond.instanceMethod yX2_signAt ∈ TB := tb_t 456 (by decide +kernel) rfl
theorem tw_389 : Cond.selects RX2 yX2_signAt yX2_signAt ∈ TB := tb_t 457 (by decide +kernel) rfl
set_option maxRecDepth 100000 in
theorem tw_390 : Cond.code yX2_signAt cX2_signAt 2 (Option.some Jvm.ClassFile.FieldType.int) ∈ TB := tb_t 458 rfl rfl
theorem tw_391 : Cond.methodLink RX8 246 yX5_changeLast ∈ TB := tb_t 459 (by decide +kernel) rfl
theorem tw_392 : Cond.instanceMethod yX5_changeLast ∈ TB := tb_t 460 (by decide +kernel) rfl
theorem tw_393 : Cond.selects RX5 yX5_changeLast yX5_changeLast ∈ TB := tb_t 461 (by decide +kernel) rfl
set_option maxRecDepth 100000 in
theorem tw_394 : Cond.code yX5_changeLast cX5_changeLast 3 (Option.none : Option Jvm.ClassFile.FieldType) ∈ TB := tb_t 462 rfl rfl
theorem tw_395 : Cond.methodLink RX8 210 yX8_passDigits ∈ TB := tb_t 463 (by decide +kernel) rfl
theorem tw_396 : Cond.instanceMethod yX8_passDigits ∈ TB := tb_t 465 (by decide +kernel) rfl
set_option maxRecDepth 100000 in
theorem tw_397 : Cond.code yX8_passDigits cX8_passDigits 8 (Option.some Jvm.ClassFile.FieldType.boolean) ∈ TB := tb_t 466 rfl rfl
theorem tw_398 : Cond.methodLink RX8 173 yX7_digitOf ∈ TB := tb_t 467 (by decide +kernel) rfl
theorem tw_399 : Cond.instanceMethod yX7_digitOf ∈ TB := tb_t 468 (by decide +kernel) rfl
theorem tw_400 : Cond.selects RX7 yX7_digitOf yX7_digitOf ∈ TB := tb_t 469 (by decide +kernel) rfl
set_option maxRecDepth 100000 in
theorem tw_401 : Cond.code yX7_digitOf cX7_digitOf 3 (Option.some Jvm.ClassFile.FieldType.int) ∈ TB := tb_t 470 rfl rfl
theorem tw_402 : Cond.methodLink RX8 213 yX8_passDropping ∈ TB := tb_t 471 (by decide +kernel) rfl
theorem tw_403 : Cond.instanceMethod yX8_passDropping ∈ TB := tb_t 473 (by decide +kernel) rfl
set_option maxRecDepth 100000 in
theorem tw_404 : Cond.code yX8_passDropping cX8_passDropping 6 (Option.some Jvm.ClassFile.FieldType.boolean) ∈ TB := tb_t 474 rfl rfl
theorem tw_405 : Cond.methodLink RX8 250 yX3_holds ∈ TB := tb_t 475 (by decide +kernel) rfl
theorem tw_406 : Cond.instanceMethod yX3_holds ∈ TB := tb_t 476 (by decide +kernel) rfl
theorem tw_407 : Cond.selects RX3 yX3_holds yX3_holds ∈ TB := tb_t 477 (by decide +kernel) rfl
set_option maxRecDepth 100000 in
theorem tw_408 : Cond.code yX3_holds cX3_holds 3 (Option.some Jvm.ClassFile.FieldType.boolean) ∈ TB := tb_t 478 rfl rfl
theorem tw_409 : Cond.methodLink RX8 216 yX8_passReplacing ∈ TB := tb_t 479 (by decide +kernel) rfl
theorem tw_410 : Cond.instanceMethod yX8_passReplacing ∈ TB := tb_t 481 (by decide +kernel) rfl
set_option maxRecDepth 100000 in
theorem tw_411 : Cond.code yX8_passReplacing cX8_passReplacing 8 (Option.some Jvm.ClassFile.FieldType.boolean) ∈ TB := tb_t 482 rfl rfl
theorem tw_412 : Cond.methodLink RX8 253 yX6_longestAt ∈ TB := tb_t 483 (by decide +kernel) rfl
theorem tw_413 : Cond.instanceMethod yX6_longestAt ∈ TB := tb_t 484 (by decide +kernel) rfl
theorem tw_414 : Cond.selects RX6 yX6_longestAt yX6_longestAt ∈ TB := tb_t 485 (by decide +kernel) rfl
set_option maxRecDepth 100000 in
theorem tw_415 : Cond.code yX6_longestAt cX6_longestAt 6 (Option.some (Jvm.ClassFile.FieldType.object "SignTables$Replacement")) ∈ TB := tb_t 486 rfl rfl
theorem tw_416 : Cond.methodLink RX8 257 yX4_length ∈ TB := tb_t 487 (by decide +kernel) rfl
theorem tw_417 : Cond.methodLink RX8 262 yX4_writeTo ∈ TB := tb_t 488 (by decide +kernel) rfl
theorem tw_418 : Cond.instanceMethod yX4_writeTo ∈ TB := tb_t 489 (by decide +kernel) rfl
theorem tw_419 : Cond.selects RX4 yX4_writeTo yX4_writeTo ∈ TB := tb_t 490 (by decide +kernel) rfl
set_option maxRecDepth 100000 in
theorem tw_420 : Cond.code yX4_writeTo cX4_writeTo 6 (Option.some Jvm.ClassFile.FieldType.boolean) ∈ TB := tb_t 491 rfl rfl
theorem tw_421 : Cond.methodLink RX4 30 yX5_add ∈ TB := tb_t 492 (by decide +kernel) rfl
theorem tw_422 : Cond.methodLink RX8 219 yX8_passHalves ∈ TB := tb_t 493 (by decide +kernel) rfl
theorem tw_423 : Cond.instanceMethod yX8_passHalves ∈ TB := tb_t 495 (by decide +kernel) rfl
set_option maxRecDepth 100000 in
theorem tw_424 : Cond.code yX8_passHalves cX8_passHalves 8 (Option.some Jvm.ClassFile.FieldType.boolean) ∈ TB := tb_t 496 rfl rfl
theorem tw_425 : Cond.constant RX8 266 (65533) ∈ TB := tb_t 497 (by decide +kernel) rfl
theorem tw_426 : Cond.methodLink RX8 222 yX8_passWidths ∈ TB := tb_t 498 (by decide +kernel) rfl
theorem tw_427 : Cond.instanceMethod yX8_passWidths ∈ TB := tb_t 500 (by decide +kernel) rfl
set_option maxRecDepth 100000 in
theorem tw_428 : Cond.code yX8_passWidths cX8_passWidths 8 (Option.some Jvm.ClassFile.FieldType.boolean) ∈ TB := tb_t 501 rfl rfl
theorem tw_429 : Cond.methodLink RX8 267 yX8_narrowed ∈ TB := tb_t 502 (by decide +kernel) rfl
theorem tw_430 : Cond.static yX8_narrowed ∈ TB := tb_t 503 (by decide +kernel) rfl
set_option maxRecDepth 100000 in
theorem tw_431 : Cond.code yX8_narrowed cX8_narrowed 1 (Option.some Jvm.ClassFile.FieldType.int) ∈ TB := tb_t 504 rfl rfl
theorem tw_432 : Cond.constant RX8 187 (65281) ∈ TB := tb_t 505 (by decide +kernel) rfl
theorem tw_433 : Cond.constant RX8 188 (65374) ∈ TB := tb_t 506 (by decide +kernel) rfl
theorem tw_434 : Cond.constant RX8 189 (65248) ∈ TB := tb_t 507 (by decide +kernel) rfl
theorem tw_435 : Cond.methodLink RX8 141 yX8_settleFilters ∈ TB := tb_t 508 (by decide +kernel) rfl
theorem tw_436 : Cond.instanceMethod yX8_settleFilters ∈ TB := tb_t 510 (by decide +kernel) rfl
set_option maxRecDepth 100000 in
theorem tw_437 : Cond.code yX8_settleFilters cX8_settleFilters 3 (Option.none : Option Jvm.ClassFile.FieldType) ∈ TB := tb_t 511 rfl rfl
theorem tw_438 : Cond.methodLink RX8 201 yX0_settleRun ∈ TB := tb_t 512 (by decide +kernel) rfl
theorem tw_439 : Cond.instanceMethod yX0_settleRun ∈ TB := tb_t 513 (by decide +kernel) rfl
theorem tw_440 : Cond.selects RX0 yX0_settleRun yX0_settleRun ∈ TB := tb_t 514 (by decide +kernel) rfl
set_option maxRecDepth 100000 in
theorem tw_441 : Cond.code yX0_settleRun cX0_settleRun 1 (Option.none : Option Jvm.ClassFile.FieldType) ∈ TB := tb_t 515 rfl rfl
theorem tw_442 : Cond.methodLink RL 66 yX8_sign ∈ TB := tb_t 516 (by decide +kernel) rfl
theorem tw_443 : Cond.instanceMethod yX8_sign ∈ TB := tb_t 517 (by decide +kernel) rfl
theorem tw_444 : Cond.selects RX8 yX8_sign yX8_sign ∈ TB := tb_t 518 (by decide +kernel) rfl
set_option maxRecDepth 100000 in
theorem tw_445 : Cond.code yX8_sign cX8_sign 2 (Option.some Jvm.ClassFile.FieldType.int) ∈ TB := tb_t 519 rfl rfl
theorem tw_446 : Cond.methodLink RX8 144 yX5_has ∈ TB := tb_t 520 (by decide +kernel) rfl
theorem tw_447 : Cond.methodLink RL 70 yX8_place ∈ TB := tb_t 521 (by decide +kernel) rfl
theorem tw_448 : Cond.instanceMethod yX8_place ∈ TB := tb_t 522 (by decide +kernel) rfl
theorem tw_449 : Cond.selects RX8 yX8_place yX8_place ∈ TB := tb_t 523 (by decide +kernel) rfl
set_option maxRecDepth 100000 in
theorem tw_450 : Cond.code yX8_place cX8_place 3 (Option.some Jvm.ClassFile.FieldType.int) ∈ TB := tb_t 524 rfl rfl
theorem tw_451 : Cond.methodLink RL 75 yX8_unitAt ∈ TB := tb_t 525 (by decide +kernel) rfl
theorem tw_452 : Cond.instanceMethod yX8_unitAt ∈ TB := tb_t 526 (by decide +kernel) rfl
theorem tw_453 : Cond.selects RX8 yX8_unitAt yX8_unitAt ∈ TB := tb_t 527 (by decide +kernel) rfl
set_option maxRecDepth 100000 in
theorem tw_454 : Cond.code yX8_unitAt cX8_unitAt 6 (Option.some Jvm.ClassFile.FieldType.int) ∈ TB := tb_t 528 rfl rfl
theorem tw_455 : Cond.methodLink RX8 160 yX8_unitOf ∈ TB := tb_t 529 (by decide +kernel) rfl
theorem tw_456 : Cond.static yX8_unitOf ∈ TB := tb_t 530 (by decide +kernel) rfl
set_option maxRecDepth 100000 in
theorem tw_457 : Cond.code yX8_unitOf cX8_unitOf 3 (Option.some Jvm.ClassFile.FieldType.int) ∈ TB := tb_t 531 rfl rfl
theorem tw_458 : Cond.methodLink RL 79 yX8_units ∈ TB := tb_t 532 (by decide +kernel) rfl
theorem tw_459 : Cond.instanceMethod yX8_units ∈ TB := tb_t 533 (by decide +kernel) rfl
theorem tw_460 : Cond.selects RX8 yX8_units yX8_units ∈ TB := tb_t 534 (by decide +kernel) rfl
set_option maxRecDepth 100000 in
theorem tw_461 : Cond.code yX8_units cX8_units 3 (Option.some Jvm.ClassFile.FieldType.int) ∈ TB := tb_t 535 rfl rfl
theorem tw_462 : Cond.methodLink RL 83 yX8_broken ∈ TB := tb_t 536 (by decide +kernel) rfl
theorem tw_463 : Cond.instanceMethod yX8_broken ∈ TB := tb_t 537 (by decide +kernel) rfl
theorem tw_464 : Cond.selects RX8 yX8_broken yX8_broken ∈ TB := tb_t 538 (by decide +kernel) rfl
set_option maxRecDepth 100000 in
theorem tw_465 : Cond.code yX8_broken cX8_broken 5 (Option.some Jvm.ClassFile.FieldType.int) ∈ TB := tb_t 539 rfl rfl
theorem tw_466 : Cond.methodLink RX8 164 yX8_classOf ∈ TB := tb_t 540 (by decide +kernel) rfl
theorem tw_467 : Cond.static yX8_classOf ∈ TB := tb_t 541 (by decide +kernel) rfl
set_option maxRecDepth 100000 in
theorem tw_468 : Cond.code yX8_classOf cX8_classOf 1 (Option.some Jvm.ClassFile.FieldType.int) ∈ TB := tb_t 542 rfl rfl
theorem tw_469 : Cond.methodLink RL 87 yX8_met ∈ TB := tb_t 543 (by decide +kernel) rfl
theorem tw_470 : Cond.instanceMethod yX8_met ∈ TB := tb_t 544 (by decide +kernel) rfl
theorem tw_471 : Cond.selects RX8 yX8_met yX8_met ∈ TB := tb_t 545 (by decide +kernel) rfl
set_option maxRecDepth 100000 in
theorem tw_472 : Cond.code yX8_met cX8_met 3 (Option.some Jvm.ClassFile.FieldType.int) ∈ TB := tb_t 546 rfl rfl
theorem tw_473 : Cond.methodLink RL 91 yX8_grown ∈ TB := tb_t 547 (by decide +kernel) rfl
theorem tw_474 : Cond.instanceMethod yX8_grown ∈ TB := tb_t 548 (by decide +kernel) rfl
theorem tw_475 : Cond.selects RX8 yX8_grown yX8_grown ∈ TB := tb_t 549 (by decide +kernel) rfl
set_option maxRecDepth 100000 in
theorem tw_476 : Cond.code yX8_grown cX8_grown 3 (Option.some Jvm.ClassFile.FieldType.int) ∈ TB := tb_t 550 rfl rfl
theorem tw_477 : Cond.methodLink RL 95 yX8_table ∈ TB := tb_t 551 (by decide +kernel) rfl
theorem tw_478 : Cond.instanceMethod yX8_table ∈ TB := tb_t 552 (by decide +kernel) rfl
theorem tw_479 : Cond.selects RX8 yX8_table yX8_table ∈ TB := tb_t 553 (by decide +kernel) rfl
set_option maxRecDepth 100000 in
theorem tw_480 : Cond.code yX8_table cX8_table 2 (Option.some Jvm.ClassFile.FieldType.int) ∈ TB := tb_t 554 rfl rfl
theorem tw_481 : Cond.methodLink RL 99 yX8_digit ∈ TB := tb_t 555 (by decide +kernel) rfl
theorem tw_482 : Cond.instanceMethod yX8_digit ∈ TB := tb_t 556 (by decide +kernel) rfl
theorem tw_483 : Cond.selects RX8 yX8_digit yX8_digit ∈ TB := tb_t 557 (by decide +kernel) rfl
set_option maxRecDepth 100000 in
theorem tw_484 : Cond.code yX8_digit cX8_digit 2 (Option.some Jvm.ClassFile.FieldType.int) ∈ TB := tb_t 558 rfl rfl
theorem tw_485 : Cond.methodLink RL 103 yX8_count ∈ TB := tb_t 559 (by decide +kernel) rfl
theorem tw_486 : Cond.instanceMethod yX8_count ∈ TB := tb_t 560 (by decide +kernel) rfl
theorem tw_487 : Cond.selects RX8 yX8_count yX8_count ∈ TB := tb_t 561 (by decide +kernel) rfl
set_option maxRecDepth 100000 in
theorem tw_488 : Cond.code yX8_count cX8_count 2 (Option.some Jvm.ClassFile.FieldType.int) ∈ TB := tb_t 562 rfl rfl
theorem tw_489 : Cond.methodLink RX8 176 yX8_filtersInChain ∈ TB := tb_t 563 (by decide +kernel) rfl
theorem tw_490 : Cond.instanceMethod yX8_filtersInChain ∈ TB := tb_t 565 (by decide +kernel) rfl
set_option maxRecDepth 100000 in
theorem tw_491 : Cond.code yX8_filtersInChain cX8_filtersInChain 3 (Option.some Jvm.ClassFile.FieldType.int) ∈ TB := tb_t 566 rfl rfl
theorem tw_492 : Cond.classLink RL 10 RX9 ∈ TB := tb_t 567 (by decide +kernel) rfl
theorem tw_493 : Cond.instantiable RX9 43 ∈ TB := tb_t 568 (by decide +kernel) rfl
theorem tw_494 : Cond.methodLink RL 12 yX9_init ∈ TB := tb_t 569 (by decide +kernel) rfl
theorem tw_495 : Cond.instanceMethod yX9_init ∈ TB := tb_t 570 (by decide +kernel) rfl
set_option maxRecDepth 100000 in
theorem tw_496 : Cond.code yX9_init cX9_init 1 (Option.none : Option Jvm.ClassFile.FieldType) ∈ TB := tb_t 571 rfl rfl
theorem tw_497 : Cond.methodLink RX9 1 (⟨"java/lang/Object", "<init>", "()V"⟩ : MethodName) ∈ TB := tb_t 572 (by decide +kernel) rfl
theorem tw_498 : Cond.fieldLink RX9 106 "SignTablesModel" "units" "I" ∈ TB := tb_t 573 (by decide +kernel) rfl
theorem tw_499 : Cond.fieldLink RX9 120 "SignTablesModel" "mark" "I" ∈ TB := tb_t 574 (by decide +kernel) rfl
theorem tw_500 : Cond.fieldLink RX9 7 "SignTablesModel" "unit" "[I" ∈ TB := tb_t 575 (by decide +kernel) rfl
theorem tw_501 : Cond.fieldLink RX9 135 "SignTablesModel" "texts" "I" ∈ TB := tb_t 576 (by decide +kernel) rfl
theorem tw_502 : Cond.fieldLink RX9 13 "SignTablesModel" "text" "[I" ∈ TB := tb_t 577 (by decide +kernel) rfl
theorem tw_503 : Cond.fieldLink RX9 16 "SignTablesModel" "textFrom" "[I" ∈ TB := tb_t 578 (by decide +kernel) rfl
theorem tw_504 : Cond.fieldLink RX9 19 "SignTablesModel" "textTo" "[I" ∈ TB := tb_t 579 (by decide +kernel) rfl
theorem tw_505 : Cond.fieldLink RX9 155 "SignTablesModel" "folds" "I" ∈ TB := tb_t 580 (by decide +kernel) rfl
theorem tw_506 : Cond.fieldLink RX9 22 "SignTablesModel" "foldOf" "[I" ∈ TB := tb_t 581 (by decide +kernel) rfl
theorem tw_507 : Cond.fieldLink RX9 25 "SignTablesModel" "foldSize" "[I" ∈ TB := tb_t 582 (by decide +kernel) rfl
theorem tw_508 : Cond.fieldLink RX9 28 "SignTablesModel" "fold" "[I" ∈ TB := tb_t 583 (by decide +kernel) rfl
theorem tw_509 : Cond.fieldLink RX9 168 "SignTablesModel" "pairs" "I" ∈ TB := tb_t 584 (by decide +kernel) rfl
theorem tw_510 : Cond.fieldLink RX9 31 "SignTablesModel" "pairFirst" "[I" ∈ TB := tb_t 585 (by decide +kernel) rfl
theorem tw_511 : Cond.fieldLink RX9 34 "SignTablesModel" "pairSecond" "[I" ∈ TB := tb_t 586 (by decide +kernel) rfl
theorem tw_512 : Cond.fieldLink RX9 37 "SignTablesModel" "pairSign" "[I" ∈ TB := tb_t 587 (by decide +kernel) rfl
theorem tw_513 : Cond.fieldLink RX9 175 "SignTablesModel" "zeros" "I" ∈ TB := tb_t 588 (by decide +kernel) rfl
theorem tw_514 : Cond.fieldLink RX9 40 "SignTablesModel" "zero" "[I" ∈ TB := tb_t 589 (by decide +kernel) rfl
theorem tw_515 : Cond.fieldLink RX9 178 "SignTablesModel" "ranges" "I" ∈ TB := tb_t 590 (by decide +kernel) rfl
theorem tw_516 : Cond.fieldLink RX9 43 "SignTablesModel" "rangeFirst" "[I" ∈ TB := tb_t 591 (by decide +kernel) rfl
theorem tw_517 : Cond.fieldLink RX9 46 "SignTablesModel" "rangeLast" "[I" ∈ TB := tb_t 592 (by decide +kernel) rfl
theorem tw_518 : Cond.fieldLink RX9 149 "SignTablesModel" "strings" "I" ∈ TB := tb_t 593 (by decide +kernel) rfl
theorem tw_519 : Cond.fieldLink RX9 49 "SignTablesModel" "fromSize" "[I" ∈ TB := tb_t 594 (by decide +kernel) rfl
theorem tw_520 : Cond.fieldLink RX9 52 "SignTablesModel" "toSize" "[I" ∈ TB := tb_t 595 (by decide +kernel) rfl
theorem tw_521 : Cond.fieldLink RX9 55 "SignTablesModel" "from" "[I" ∈ TB := tb_t 596 (by decide +kernel) rfl
theorem tw_522 : Cond.fieldLink RX9 58 "SignTablesModel" "to" "[I" ∈ TB := tb_t 597 (by decide +kernel) rfl
theorem tw_523 : Cond.fieldLink RX9 61 "SignTablesModel" "chain" "[I" ∈ TB := tb_t 598 (by decide +kernel) rfl
theorem tw_524 : Cond.fieldLink RX9 64 "SignTablesModel" "ruleOf" "[I" ∈ TB := tb_t 599 (by decide +kernel) rfl
theorem tw_525 : Cond.fieldLink RX9 67 "SignTablesModel" "met" "[I" ∈ TB := tb_t 600 (by decide +kernel) rfl
theorem tw_526 : Cond.fieldLink RX9 70 "SignTablesModel" "grown" "[I" ∈ TB := tb_t 601 (by decide +kernel) rfl
theorem tw_527 : Cond.fieldLink RX9 73 "SignTablesModel" "newMet" "[I" ∈ TB := tb_t 602 (by decide +kernel) rfl
theorem tw_528 : Cond.fieldLink RX9 76 "SignTablesModel" "newGrown" "[I" ∈ TB := tb_t 603 (by decide +kernel) rfl
theorem tw_529 : Cond.fieldLink RX9 226 "SignTablesModel" "outs" "I" ∈ TB := tb_t 604 (by decide +kernel) rfl
theorem tw_530 : Cond.fieldLink RX9 79 "SignTablesModel" "out" "[I" ∈ TB := tb_t 605 (by decide +kernel) rfl
theorem tw_531 : Cond.fieldLink RX9 82 "SignTablesModel" "outFrom" "[I" ∈ TB := tb_t 606 (by decide +kernel) rfl
theorem tw_532 : Cond.fieldLink RX9 85 "SignTablesModel" "outTo" "[I" ∈ TB := tb_t 607 (by decide +kernel) rfl
theorem tw_533 : Cond.fieldLink RX9 194 "SignTablesModel" "reads" "I" ∈ TB := tb_t 608 (by decide +kernel) rfl
theorem tw_534 : Cond.fieldLink RX9 88 "SignTablesModel" "read" "[I" ∈ TB := tb_t 609 (by decide +kernel) rfl
theorem tw_535 : Cond.fieldLink RX9 91 "SignTablesModel" "readFrom" "[I" ∈ TB := tb_t 610 (by decide +kernel) rfl
theorem tw_536 : Cond.fieldLink RX9 94 "SignTablesModel" "readTo" "[I" ∈ TB := tb_t 611 (by decide +kernel) rfl
theorem tw_537 : Cond.fieldLink RX9 184 "SignTablesModel" "lays" "I" ∈ TB := tb_t 612 (by decide +kernel) rfl
theorem tw_538 : Cond.fieldLink RX9 97 "SignTablesModel" "laid" "[I" ∈ TB := tb_t 613 (by decide +kernel) rfl
theorem tw_539 : Cond.fieldLink RX9 100 "SignTablesModel" "laidFrom" "[I" ∈ TB := tb_t 614 (by decide +kernel) rfl
theorem tw_540 : Cond.fieldLink RX9 103 "SignTablesModel" "laidTo" "[I" ∈ TB := tb_t 615 (by decide +kernel) rfl
theorem tw_541 : Cond.lays RX9 "SignTablesModel" "units" "I" ∈ TB := tb_t 616 (by decide +kernel) rfl
theorem tw_542 : Cond.lays RX9 "SignTablesModel" "mark" "I" ∈ TB := tb_t 618 (by decide +kernel) rfl
theorem tw_543 : Cond.laysFinal RX9 "SignTablesModel" "unit" "[I" ∈ TB := tb_t 620 (by decide +kernel) rfl
theorem tw_544 : Cond.lays RX9 "SignTablesModel" "texts" "I" ∈ TB := tb_t 622 (by decide +kernel) rfl
theorem tw_545 : Cond.laysFinal RX9 "SignTablesModel" "text" "[I" ∈ TB := tb_t 624 (by decide +kernel) rfl
theorem tw_546 : Cond.laysFinal RX9 "SignTablesModel" "textFrom" "[I" ∈ TB := tb_t 626 (by decide +kernel) rfl
theorem tw_547 : Cond.laysFinal RX9 "SignTablesModel" "textTo" "[I" ∈ TB := tb_t 628 (by decide +kernel) rfl
theorem tw_548 : Cond.lays RX9 "SignTablesModel" "folds" "I" ∈ TB := tb_t 630 (by decide +kernel) rfl
theorem tw_549 : Cond.laysFinal RX9 "SignTablesModel" "foldOf" "[I" ∈ TB := tb_t 632 (by decide +kernel) rfl
theorem tw_550 : Cond.laysFinal RX9 "SignTablesModel" "foldSize" "[I" ∈ TB := tb_t 634 (by decide +kernel) rfl
theorem tw_551 : Cond.laysFinal RX9 "SignTablesModel" "fold" "[I" ∈ TB := tb_t 636 (by decide +kernel) rfl
theorem tw_552 : Cond.lays RX9 "SignTablesModel" "pairs" "I" ∈ TB := tb_t 638 (by decide +kernel) rfl
theorem tw_553 : Cond.laysFinal RX9 "SignTablesModel" "pairFirst" "[I" ∈ TB := tb_t 640 (by decide +kernel) rfl
theorem tw_554 : Cond.laysFinal RX9 "SignTablesModel" "pairSecond" "[I" ∈ TB := tb_t 642 (by decide +kernel) rfl
theorem tw_555 : Cond.laysFinal RX9 "SignTablesModel" "pairSign" "[I" ∈ TB := tb_t 644 (by decide +kernel) rfl
theorem tw_556 : Cond.lays RX9 "SignTablesModel" "zeros" "I" ∈ TB := tb_t 646 (by decide +kernel) rfl
theorem tw_557 : Cond.laysFinal RX9 "SignTablesModel" "zero" "[I" ∈ TB := tb_t 648 (by decide +kernel) rfl
theorem tw_558 : Cond.lays RX9 "SignTablesModel" "ranges" "I" ∈ TB := tb_t 650 (by decide +kernel) rfl
theorem tw_559 : Cond.laysFinal RX9 "SignTablesModel" "rangeFirst" "[I" ∈ TB := tb_t 652 (by decide +kernel) rfl
theorem tw_560 : Cond.laysFinal RX9 "SignTablesModel" "rangeLast" "[I" ∈ TB := tb_t 654 (by decide +kernel) rfl
theorem tw_561 : Cond.lays RX9 "SignTablesModel" "strings" "I" ∈ TB := tb_t 656 (by decide +kernel) rfl
theorem tw_562 : Cond.laysFinal RX9 "SignTablesModel" "fromSize" "[I" ∈ TB := tb_t 658 (by decide +kernel) rfl
theorem tw_563 : Cond.laysFinal RX9 "SignTablesModel" "toSize" "[I" ∈ TB := tb_t 660 (by decide +kernel) rfl
theorem tw_564 : Cond.laysFinal RX9 "SignTablesModel" "from" "[I" ∈ TB := tb_t 662 (by decide +kernel) rfl
theorem tw_565 : Cond.laysFinal RX9 "SignTablesModel" "to" "[I" ∈ TB := tb_t 664 (by decide +kernel) rfl
theorem tw_566 : Cond.laysFinal RX9 "SignTablesModel" "chain" "[I" ∈ TB := tb_t 666 (by decide +kernel) rfl
theorem tw_567 : Cond.laysFinal RX9 "SignTablesModel" "ruleOf" "[I" ∈ TB := tb_t 668 (by decide +kernel) rfl
theorem tw_568 : Cond.laysFinal RX9 "SignTablesModel" "met" "[I" ∈ TB := tb_t 670 (by decide +kernel) rfl
theorem tw_569 : Cond.laysFinal RX9 "SignTablesModel" "grown" "[I" ∈ TB := tb_t 672 (by decide +kernel) rfl
theorem tw_570 : Cond.laysFinal RX9 "SignTablesModel" "newMet" "[I" ∈ TB := tb_t 674 (by decide +kernel) rfl
theorem tw_571 : Cond.laysFinal RX9 "SignTablesModel" "newGrown" "[I" ∈ TB := tb_t 676 (by decide +kernel) rfl
theorem tw_572 : Cond.lays RX9 "SignTablesModel" "outs" "I" ∈ TB := tb_t 678 (by decide +kernel) rfl
theorem tw_573 : Cond.laysFinal RX9 "SignTablesModel" "out" "[I" ∈ TB := tb_t 680 (by decide +kernel) rfl
theorem tw_574 : Cond.laysFinal RX9 "SignTablesModel" "outFrom" "[I" ∈ TB := tb_t 682 (by decide +kernel) rfl
theorem tw_575 : Cond.laysFinal RX9 "SignTablesModel" "outTo" "[I" ∈ TB := tb_t 684 (by decide +kernel) rfl
theorem tw_576 : Cond.lays RX9 "SignTablesModel" "reads" "I" ∈ TB := tb_t 686 (by decide +kernel) rfl
theorem tw_577 : Cond.laysFinal RX9 "SignTablesModel" "read" "[I" ∈ TB := tb_t 688 (by decide +kernel) rfl
theorem tw_578 : Cond.laysFinal RX9 "SignTablesModel" "readFrom" "[I" ∈ TB := tb_t 690 (by decide +kernel) rfl
theorem tw_579 : Cond.laysFinal RX9 "SignTablesModel" "readTo" "[I" ∈ TB := tb_t 692 (by decide +kernel) rfl
theorem tw_580 : Cond.lays RX9 "SignTablesModel" "lays" "I" ∈ TB := tb_t 694 (by decide +kernel) rfl
theorem tw_581 : Cond.laysFinal RX9 "SignTablesModel" "laid" "[I" ∈ TB := tb_t 696 (by decide +kernel) rfl
theorem tw_582 : Cond.laysFinal RX9 "SignTablesModel" "laidFrom" "[I" ∈ TB := tb_t 698 (by decide +kernel) rfl
theorem tw_583 : Cond.laysFinal RX9 "SignTablesModel" "laidTo" "[I" ∈ TB := tb_t 700 (by decide +kernel) rfl
theorem tw_584 : Cond.methodLink RL 17 yX9_unit ∈ TB := tb_t 703 (by decide +kernel) rfl
theorem tw_585 : Cond.instanceMethod yX9_unit ∈ TB := tb_t 704 (by decide +kernel) rfl
theorem tw_586 : Cond.selects RX9 yX9_unit yX9_unit ∈ TB := tb_t 705 (by decide +kernel) rfl
set_option maxRecDepth 100000 in
theorem tw_587 : Cond.code yX9_unit cX9_unit 2 (Option.some Jvm.ClassFile.FieldType.int) ∈ TB := tb_t 706 rfl rfl
theorem tw_588 : Cond.constant RX9 119 (65535) ∈ TB := tb_t 707 (by decide +kernel) rfl
theorem tw_589 : Cond.methodLink RL 22 yX9_mark ∈ TB := tb_t 708 (by decide +kernel) rfl
theorem tw_590 : Cond.instanceMethod yX9_mark ∈ TB := tb_t 709 (by decide +kernel) rfl
theorem tw_591 : Cond.selects RX9 yX9_mark yX9_mark ∈ TB := tb_t 710 (by decide +kernel) rfl
set_option maxRecDepth 100000 in
theorem tw_592 : Cond.code yX9_mark cX9_mark 1 (Option.some Jvm.ClassFile.FieldType.int) ∈ TB := tb_t 711 rfl rfl
theorem tw_593 : Cond.methodLink RL 26 yX9_text ∈ TB := tb_t 712 (by decide +kernel) rfl
theorem tw_594 : Cond.instanceMethod yX9_text ∈ TB := tb_t 713 (by decide +kernel) rfl
theorem tw_595 : Cond.selects RX9 yX9_text yX9_text ∈ TB := tb_t 714 (by decide +kernel) rfl
set_option maxRecDepth 100000 in
theorem tw_596 : Cond.code yX9_text cX9_text 2 (Option.some Jvm.ClassFile.FieldType.int) ∈ TB := tb_t 715 rfl rfl
theorem tw_597 : Cond.methodLink RX9 138 yX9_signAt ∈ TB := tb_t 716 (by decide +kernel) rfl
theorem tw_598 : Cond.instanceMethod yX9_signAt ∈ TB := tb_t 718 (by decide +kernel) rfl
set_option maxRecDepth 100000 in
theorem tw_599 : Cond.code yX9_signAt cX9_signAt 3 (Option.some Jvm.ClassFile.FieldType.int) ∈ TB := tb_t 719 rfl rfl
theorem tw_600 : Cond.methodLink RX9 130 yX9_isTwo ∈ TB := tb_t 720 (by decide +kernel) rfl
theorem tw_601 : Cond.instanceMethod yX9_isTwo ∈ TB := tb_t 722 (by decide +kernel) rfl
set_option maxRecDepth 100000 in
theorem tw_602 : Cond.code yX9_isTwo cX9_isTwo 3 (Option.some Jvm.ClassFile.FieldType.boolean) ∈ TB := tb_t 723 rfl rfl
theorem tw_603 : Cond.methodLink RX9 123 yX9_isHigh ∈ TB := tb_t 724 (by decide +kernel) rfl
theorem tw_604 : Cond.static yX9_isHigh ∈ TB := tb_t 725 (by decide +kernel) rfl
set_option maxRecDepth 100000 in
theorem tw_605 : Cond.code yX9_isHigh cX9_isHigh 1 (Option.some Jvm.ClassFile.FieldType.boolean) ∈ TB := tb_t 726 rfl rfl
theorem tw_606 : Cond.constant RX9 115 (55296) ∈ TB := tb_t 727 (by decide +kernel) rfl
theorem tw_607 : Cond.constant RX9 116 (56319) ∈ TB := tb_t 728 (by decide +kernel) rfl
theorem tw_608 : Cond.methodLink RX9 111 yX9_isIn ∈ TB := tb_t 729 (by decide +kernel) rfl
theorem tw_609 : Cond.static yX9_isIn ∈ TB := tb_t 730 (by decide +kernel) rfl
set_option maxRecDepth 100000 in
theorem tw_610 : Cond.code yX9_isIn cX9_isIn 3 (Option.some Jvm.ClassFile.FieldType.boolean) ∈ TB := tb_t 731 rfl rfl
theorem tw_611 : Cond.methodLink RX9 127 yX9_isLow ∈ TB := tb_t 732 (by decide +kernel) rfl
theorem tw_612 : Cond.static yX9_isLow ∈ TB := tb_t 733 (by decide +kernel) rfl
set_option maxRecDepth 100000 in
theorem tw_613 : Cond.code yX9_isLow cX9_isLow 1 (Option.some Jvm.ClassFile.FieldType.boolean) ∈ TB := tb_t 734 rfl rfl
theorem tw_614 : Cond.constant RX9 117 (56320) ∈ TB := tb_t 735 (by decide +kernel) rfl
theorem tw_615 : Cond.constant RX9 118 (57343) ∈ TB := tb_t 736 (by decide +kernel) rfl
theorem tw_616 : Cond.constant RX9 134 (65536) ∈ TB := tb_t 737 (by decide +kernel) rfl
theorem tw_617 : Cond.methodLink RX9 142 yX9_emptyDraft ∈ TB := tb_t 738 (by decide +kernel) rfl
theorem tw_618 : Cond.instanceMethod yX9_emptyDraft ∈ TB := tb_t 740 (by decide +kernel) rfl
set_option maxRecDepth 100000 in
theorem tw_619 : Cond.code yX9_emptyDraft cX9_emptyDraft 1 (Option.none : Option Jvm.ClassFile.FieldType) ∈ TB := tb_t 741 rfl rfl
theorem tw_620 : Cond.methodLink RL 30 yX9_string ∈ TB := tb_t 742 (by decide +kernel) rfl
theorem tw_621 : Cond.instanceMethod yX9_string ∈ TB := tb_t 743 (by decide +kernel) rfl
theorem tw_622 : Cond.selects RX9 yX9_string yX9_string ∈ TB := tb_t 744 (by decide +kernel) rfl
set_option maxRecDepth 100000 in
theorem tw_623 : Cond.code yX9_string cX9_string 3 (Option.some Jvm.ClassFile.FieldType.int) ∈ TB := tb_t 745 rfl rfl
theorem tw_624 : Cond.methodLink RX9 145 yX9_signsOf ∈ TB := tb_t 746 (by decide +kernel) rfl
theorem tw_625 : Cond.instanceMethod yX9_signsOf ∈ TB := tb_t 748 (by decide +kernel) rfl
set_option maxRecDepth 100000 in
theorem tw_626 : Cond.code yX9_signsOf cX9_signsOf 7 (Option.some Jvm.ClassFile.FieldType.int) ∈ TB := tb_t 749 rfl rfl
theorem tw_627 : Cond.methodLink RX9 152 yX9_isSameRow ∈ TB := tb_t 750 (by decide +kernel) rfl
theorem tw_628 : Cond.instanceMethod yX9_isSameRow ∈ TB := tb_t 752 (by decide +kernel) rfl
set_option maxRecDepth 100000 in
theorem tw_629 : Cond.code yX9_isSameRow cX9_isSameRow 5 (Option.some Jvm.ClassFile.FieldType.boolean) ∈ TB := tb_t 753 rfl rfl
theorem tw_630 : Cond.methodLink RL 35 yX9_fold ∈ TB := tb_t 754 (by decide +kernel) rfl
theorem tw_631 : Cond.instanceMethod yX9_fold ∈ TB := tb_t 755 (by decide +kernel) rfl
theorem tw_632 : Cond.selects RX9 yX9_fold yX9_fold ∈ TB := tb_t 756 (by decide +kernel) rfl
set_option maxRecDepth 100000 in
theorem tw_633 : Cond.code yX9_fold cX9_fold 6 (Option.some Jvm.ClassFile.FieldType.int) ∈ TB := tb_t 757 rfl rfl
theorem tw_634 : Cond.methodLink RX9 158 yX9_isSign ∈ TB := tb_t 758 (by decide +kernel) rfl
theorem tw_635 : Cond.static yX9_isSign ∈ TB := tb_t 759 (by decide +kernel) rfl
set_option maxRecDepth 100000 in
theorem tw_636 : Cond.code yX9_isSign cX9_isSign 1 (Option.some Jvm.ClassFile.FieldType.boolean) ∈ TB := tb_t 760 rfl rfl
theorem tw_637 : Cond.constant RX9 110 (1114111) ∈ TB := tb_t 761 (by decide +kernel) rfl
theorem tw_638 : Cond.methodLink RX9 161 yX9_isSignOrNone ∈ TB := tb_t 762 (by decide +kernel) rfl
theorem tw_639 : Cond.static yX9_isSignOrNone ∈ TB := tb_t 763 (by decide +kernel) rfl
set_option maxRecDepth 100000 in
theorem tw_640 : Cond.code yX9_isSignOrNone cX9_isSignOrNone 1 (Option.some Jvm.ClassFile.FieldType.boolean) ∈ TB := tb_t 764 rfl rfl
theorem tw_641 : Cond.methodLink RX9 164 yX9_foldAt ∈ TB := tb_t 765 (by decide +kernel) rfl
theorem tw_642 : Cond.instanceMethod yX9_foldAt ∈ TB := tb_t 767 (by decide +kernel) rfl
set_option maxRecDepth 100000 in
theorem tw_643 : Cond.code yX9_foldAt cX9_foldAt 4 (Option.some Jvm.ClassFile.FieldType.int) ∈ TB := tb_t 768 rfl rfl
theorem tw_644 : Cond.methodLink RL 40 yX9_pair ∈ TB := tb_t 769 (by decide +kernel) rfl
theorem tw_645 : Cond.instanceMethod yX9_pair ∈ TB := tb_t 770 (by decide +kernel) rfl
theorem tw_646 : Cond.selects RX9 yX9_pair yX9_pair ∈ TB := tb_t 771 (by decide +kernel) rfl
set_option maxRecDepth 100000 in
theorem tw_647 : Cond.code yX9_pair cX9_pair 5 (Option.some Jvm.ClassFile.FieldType.int) ∈ TB := tb_t 772 rfl rfl
theorem tw_648 : Cond.methodLink RX9 171 yX9_pairAt ∈ TB := tb_t 773 (by decide +kernel) rfl
theorem tw_649 : Cond.instanceMethod yX9_pairAt ∈ TB := tb_t 775 (by decide +kernel) rfl
set_option maxRecDepth 100000 in
theorem tw_650 : Cond.code yX9_pairAt cX9_pairAt 5 (Option.some Jvm.ClassFile.FieldType.int) ∈ TB := tb_t 776 rfl rfl
theorem tw_651 : Cond.methodLink RL 44 yX9_zero ∈ TB := tb_t 777 (by decide +kernel) rfl
theorem tw_652 : Cond.instanceMethod yX9_zero ∈ TB := tb_t 778 (by decide +kernel) rfl
theorem tw_653 : Cond.selects RX9 yX9_zero yX9_zero ∈ TB := tb_t 779 (by decide +kernel) rfl
set_option maxRecDepth 100000 in
theorem tw_654 : Cond.code yX9_zero cX9_zero 2 (Option.some Jvm.ClassFile.FieldType.int) ∈ TB := tb_t 780 rfl rfl
theorem tw_655 : Cond.constant RX9 174 (1114102) ∈ TB := tb_t 781 (by decide +kernel) rfl
theorem tw_656 : Cond.methodLink RL 49 yX9_range ∈ TB := tb_t 782 (by decide +kernel) rfl
theorem tw_657 : Cond.instanceMethod yX9_range ∈ TB := tb_t 783 (by decide +kernel) rfl
theorem tw_658 : Cond.selects RX9 yX9_range yX9_range ∈ TB := tb_t 784 (by decide +kernel) rfl
set_option maxRecDepth 100000 in
theorem tw_659 : Cond.code yX9_range cX9_range 3 (Option.some Jvm.ClassFile.FieldType.int) ∈ TB := tb_t 785 rfl rfl
theorem tw_660 : Cond.methodLink RL 53 yX9_filter ∈ TB := tb_t 786 (by decide +kernel) rfl
theorem tw_661 : Cond.instanceMethod yX9_filter ∈ TB := tb_t 787 (by decide +kernel) rfl
theorem tw_662 : Cond.selects RX9 yX9_filter yX9_filter ∈ TB := tb_t 788 (by decide +kernel) rfl
set_option maxRecDepth 100000 in
theorem tw_663 : Cond.code yX9_filter cX9_filter 3 (Option.some Jvm.ClassFile.FieldType.int) ∈ TB := tb_t 789 rfl rfl
theorem tw_664 : Cond.methodLink RX9 181 yX9_isPlace ∈ TB := tb_t 790 (by decide +kernel) rfl
theorem tw_665 : Cond.static yX9_isPlace ∈ TB := tb_t 791 (by decide +kernel) rfl
set_option maxRecDepth 100000 in
theorem tw_666 : Cond.code yX9_isPlace cX9_isPlace 1 (Option.some Jvm.ClassFile.FieldType.boolean) ∈ TB := tb_t 792 rfl rfl
theorem tw_667 : Cond.methodLink RL 57 yX9_drop ∈ TB := tb_t 793 (by decide +kernel) rfl
theorem tw_668 : Cond.instanceMethod yX9_drop ∈ TB := tb_t 794 (by decide +kernel) rfl
theorem tw_669 : Cond.selects RX9 yX9_drop yX9_drop ∈ TB := tb_t 795 (by decide +kernel) rfl
set_option maxRecDepth 100000 in
theorem tw_670 : Cond.code yX9_drop cX9_drop 3 (Option.some Jvm.ClassFile.FieldType.int) ∈ TB := tb_t 796 rfl rfl
theorem tw_671 : Cond.methodLink RL 61 yX9_rule ∈ TB := tb_t 797 (by decide +kernel) rfl
theorem tw_672 : Cond.instanceMethod yX9_rule ∈ TB := tb_t 798 (by decide +kernel) rfl
theorem tw_673 : Cond.selects RX9 yX9_rule yX9_rule ∈ TB := tb_t 799 (by decide +kernel) rfl
set_option maxRecDepth 100000 in
theorem tw_674 : Cond.code yX9_rule cX9_rule 4 (Option.some Jvm.ClassFile.FieldType.int) ∈ TB := tb_t 800 rfl rfl
theorem tw_675 : Cond.methodLink RL 65 yX9_run ∈ TB := tb_t 801 (by decide +kernel) rfl
theorem tw_676 : Cond.instanceMethod yX9_run ∈ TB := tb_t 802 (by decide +kernel) rfl
theorem tw_677 : Cond.selects RX9 yX9_run yX9_run ∈ TB := tb_t 803 (by decide +kernel) rfl
set_option maxRecDepth 100000 in
theorem tw_678 : Cond.code yX9_run cX9_run 2 (Option.some Jvm.ClassFile.FieldType.int) ∈ TB := tb_t 804 rfl rfl
theorem tw_679 : Cond.methodLink RX9 223 yX9_goesThrough ∈ TB := tb_t 805 (by decide +kernel) rfl
theorem tw_680 : Cond.instanceMethod yX9_goesThrough ∈ TB := tb_t 807 (by decide +kernel) rfl
set_option maxRecDepth 100000 in
theorem tw_681 : Cond.code yX9_goesThrough cX9_goesThrough 4 (Option.some Jvm.ClassFile.FieldType.boolean) ∈ TB := tb_t 808 rfl rfl
theorem tw_682 : Cond.methodLink RX9 210 yX9_folding ∈ TB := tb_t 809 (by decide +kernel) rfl
theorem tw_683 : Cond.instanceMethod yX9_folding ∈ TB := tb_t 811 (by decide +kernel) rfl
set_option maxRecDepth 100000 in
theorem tw_684 : Cond.code yX9_folding cX9_folding 5 (Option.none : Option Jvm.ClassFile.FieldType) ∈ TB := tb_t 812 rfl rfl
theorem tw_685 : Cond.methodLink RX9 187 yX9_lay ∈ TB := tb_t 813 (by decide +kernel) rfl
theorem tw_686 : Cond.instanceMethod yX9_lay ∈ TB := tb_t 815 (by decide +kernel) rfl
set_option maxRecDepth 100000 in
theorem tw_687 : Cond.code yX9_lay cX9_lay 4 (Option.none : Option Jvm.ClassFile.FieldType) ∈ TB := tb_t 816 rfl rfl
theorem tw_688 : Cond.methodLink RX9 191 yX9_unitsOf ∈ TB := tb_t 817 (by decide +kernel) rfl
theorem tw_689 : Cond.static yX9_unitsOf ∈ TB := tb_t 818 (by decide +kernel) rfl
set_option maxRecDepth 100000 in
theorem tw_690 : Cond.code yX9_unitsOf cX9_unitsOf 1 (Option.some Jvm.ClassFile.FieldType.int) ∈ TB := tb_t 819 rfl rfl
theorem tw_691 : Cond.methodLink RX9 214 yX9_composing ∈ TB := tb_t 820 (by decide +kernel) rfl
theorem tw_692 : Cond.instanceMethod yX9_composing ∈ TB := tb_t 822 (by decide +kernel) rfl
set_option maxRecDepth 100000 in
theorem tw_693 : Cond.code yX9_composing cX9_composing 4 (Option.none : Option Jvm.ClassFile.FieldType) ∈ TB := tb_t 823 rfl rfl
theorem tw_694 : Cond.methodLink RX9 217 yX9_replacing ∈ TB := tb_t 824 (by decide +kernel) rfl
theorem tw_695 : Cond.instanceMethod yX9_replacing ∈ TB := tb_t 826 (by decide +kernel) rfl
set_option maxRecDepth 100000 in
theorem tw_696 : Cond.code yX9_replacing cX9_replacing 6 (Option.some Jvm.ClassFile.FieldType.int) ∈ TB := tb_t 827 rfl rfl
theorem tw_697 : Cond.methodLink RX9 197 yX9_stringAt ∈ TB := tb_t 828 (by decide +kernel) rfl
theorem tw_698 : Cond.instanceMethod yX9_stringAt ∈ TB := tb_t 830 (by decide +kernel) rfl
set_option maxRecDepth 100000 in
theorem tw_699 : Cond.code yX9_stringAt cX9_stringAt 6 (Option.some Jvm.ClassFile.FieldType.int) ∈ TB := tb_t 831 rfl rfl
theorem tw_700 : Cond.methodLink RX9 220 yX9_changed ∈ TB := tb_t 832 (by decide +kernel) rfl
theorem tw_701 : Cond.instanceMethod yX9_changed ∈ TB := tb_t 834 (by decide +kernel) rfl
set_option maxRecDepth 100000 in
theorem tw_702 : Cond.code yX9_changed cX9_changed 7 (Option.none : Option Jvm.ClassFile.FieldType) ∈ TB := tb_t 835 rfl rfl
theorem tw_703 : Cond.methodLink RX9 200 yX9_digitOf ∈ TB := tb_t 836 (by decide +kernel) rfl
theorem tw_704 : Cond.instanceMethod yX9_digitOf ∈ TB := tb_t 838 (by decide +kernel) rfl
set_option maxRecDepth 100000 in
theorem tw_705 : Cond.code yX9_digitOf cX9_digitOf 4 (Option.some Jvm.ClassFile.FieldType.int) ∈ TB := tb_t 839 rfl rfl
theorem tw_706 : Cond.methodLink RX9 203 yX9_isDropped ∈ TB := tb_t 840 (by decide +kernel) rfl
theorem tw_707 : Cond.instanceMethod yX9_isDropped ∈ TB := tb_t 842 (by decide +kernel) rfl
set_option maxRecDepth 100000 in
theorem tw_708 : Cond.code yX9_isDropped cX9_isDropped 4 (Option.some Jvm.ClassFile.FieldType.boolean) ∈ TB := tb_t 843 rfl rfl
theorem tw_709 : Cond.constant RX9 206 (65533) ∈ TB := tb_t 844 (by decide +kernel) rfl
theorem tw_710 : Cond.constant RX9 207 (65281) ∈ TB := tb_t 845 (by decide +kernel) rfl
theorem tw_711 : Cond.constant RX9 208 (65374) ∈ TB := tb_t 846 (by decide +kernel) rfl
theorem tw_712 : Cond.constant RX9 209 (65248) ∈ TB := tb_t 847 (by decide +kernel) rfl
theorem tw_713 : Cond.methodLink RL 69 yX9_sign ∈ TB := tb_t 848 (by decide +kernel) rfl
theorem tw_714 : Cond.instanceMethod yX9_sign ∈ TB := tb_t 849 (by decide +kernel) rfl
theorem tw_715 : Cond.selects RX9 yX9_sign yX9_sign ∈ TB := tb_t 850 (by decide +kernel) rfl
set_option maxRecDepth 100000 in
theorem tw_716 : Cond.code yX9_sign cX9_sign 2 (Option.some Jvm.ClassFile.FieldType.int) ∈ TB := tb_t 851 rfl rfl
theorem tw_717 : Cond.methodLink RX9 229 yX9_isOut ∈ TB := tb_t 852 (by decide +kernel) rfl
theorem tw_718 : Cond.instanceMethod yX9_isOut ∈ TB := tb_t 854 (by decide +kernel) rfl
set_option maxRecDepth 100000 in
theorem tw_719 : Cond.code yX9_isOut cX9_isOut 2 (Option.some Jvm.ClassFile.FieldType.boolean) ∈ TB := tb_t 855 rfl rfl
theorem tw_720 : Cond.methodLink RL 74 yX9_place ∈ TB := tb_t 856 (by decide +kernel) rfl
theorem tw_721 : Cond.instanceMethod yX9_place ∈ TB := tb_t 857 (by decide +kernel) rfl
theorem tw_722 : Cond.selects RX9 yX9_place yX9_place ∈ TB := tb_t 858 (by decide +kernel) rfl
set_option maxRecDepth 100000 in
theorem tw_723 : Cond.code yX9_place cX9_place 3 (Option.some Jvm.ClassFile.FieldType.int) ∈ TB := tb_t 859 rfl rfl
theorem tw_724 : Cond.methodLink RL 82 yX9_units ∈ TB := tb_t 860 (by decide +kernel) rfl
theorem tw_725 : Cond.instanceMethod yX9_units ∈ TB := tb_t 861 (by decide +kernel) rfl
theorem tw_726 : Cond.selects RX9 yX9_units yX9_units ∈ TB := tb_t 862 (by decide +kernel) rfl
set_option maxRecDepth 100000 in
theorem tw_727 : Cond.code yX9_units cX9_units 3 (Option.some Jvm.ClassFile.FieldType.int) ∈ TB := tb_t 863 rfl rfl
theorem tw_728 : Cond.methodLink RL 78 yX9_unitAt ∈ TB := tb_t 864 (by decide +kernel) rfl
theorem tw_729 : Cond.instanceMethod yX9_unitAt ∈ TB := tb_t 865 (by decide +kernel) rfl
theorem tw_730 : Cond.selects RX9 yX9_unitAt yX9_unitAt ∈ TB := tb_t 866 (by decide +kernel) rfl
set_option maxRecDepth 100000 in
theorem tw_731 : Cond.code yX9_unitAt cX9_unitAt 6 (Option.some Jvm.ClassFile.FieldType.int) ∈ TB := tb_t 867 rfl rfl
theorem tw_732 : Cond.methodLink RL 86 yX9_broken ∈ TB := tb_t 868 (by decide +kernel) rfl
theorem tw_733 : Cond.instanceMethod yX9_broken ∈ TB := tb_t 869 (by decide +kernel) rfl
theorem tw_734 : Cond.selects RX9 yX9_broken yX9_broken ∈ TB := tb_t 870 (by decide +kernel) rfl
set_option maxRecDepth 100000 in
theorem tw_735 : Cond.code yX9_broken cX9_broken 4 (Option.some Jvm.ClassFile.FieldType.int) ∈ TB := tb_t 871 rfl rfl
theorem tw_736 : Cond.methodLink RX9 232 yX9_classOf ∈ TB := tb_t 872 (by decide +kernel) rfl
theorem tw_737 : Cond.static yX9_classOf ∈ TB := tb_t 873 (by decide +kernel) rfl
set_option maxRecDepth 100000 in
theorem tw_738 : Cond.code yX9_classOf cX9_classOf 1 (Option.some Jvm.ClassFile.FieldType.int) ∈ TB := tb_t 874 rfl rfl
theorem tw_739 : Cond.methodLink RL 90 yX9_met ∈ TB := tb_t 875 (by decide +kernel) rfl
theorem tw_740 : Cond.instanceMethod yX9_met ∈ TB := tb_t 876 (by decide +kernel) rfl
theorem tw_741 : Cond.selects RX9 yX9_met yX9_met ∈ TB := tb_t 877 (by decide +kernel) rfl
set_option maxRecDepth 100000 in
theorem tw_742 : Cond.code yX9_met cX9_met 2 (Option.some Jvm.ClassFile.FieldType.int) ∈ TB := tb_t 878 rfl rfl
theorem tw_743 : Cond.methodLink RL 94 yX9_grown ∈ TB := tb_t 879 (by decide +kernel) rfl
theorem tw_744 : Cond.instanceMethod yX9_grown ∈ TB := tb_t 880 (by decide +kernel) rfl
theorem tw_745 : Cond.selects RX9 yX9_grown yX9_grown ∈ TB := tb_t 881 (by decide +kernel) rfl
set_option maxRecDepth 100000 in
theorem tw_746 : Cond.code yX9_grown cX9_grown 2 (Option.some Jvm.ClassFile.FieldType.int) ∈ TB := tb_t 882 rfl rfl
theorem tw_747 : Cond.methodLink RL 98 yX9_table ∈ TB := tb_t 883 (by decide +kernel) rfl
theorem tw_748 : Cond.instanceMethod yX9_table ∈ TB := tb_t 884 (by decide +kernel) rfl
theorem tw_749 : Cond.selects RX9 yX9_table yX9_table ∈ TB := tb_t 885 (by decide +kernel) rfl
set_option maxRecDepth 100000 in
theorem tw_750 : Cond.code yX9_table cX9_table 2 (Option.some Jvm.ClassFile.FieldType.int) ∈ TB := tb_t 886 rfl rfl
theorem tw_751 : Cond.methodLink RL 102 yX9_digit ∈ TB := tb_t 887 (by decide +kernel) rfl
theorem tw_752 : Cond.instanceMethod yX9_digit ∈ TB := tb_t 888 (by decide +kernel) rfl
theorem tw_753 : Cond.selects RX9 yX9_digit yX9_digit ∈ TB := tb_t 889 (by decide +kernel) rfl
set_option maxRecDepth 100000 in
theorem tw_754 : Cond.code yX9_digit cX9_digit 2 (Option.some Jvm.ClassFile.FieldType.int) ∈ TB := tb_t 890 rfl rfl
theorem tw_755 : Cond.methodLink RL 106 yX9_count ∈ TB := tb_t 891 (by decide +kernel) rfl
theorem tw_756 : Cond.instanceMethod yX9_count ∈ TB := tb_t 892 (by decide +kernel) rfl
theorem tw_757 : Cond.selects RX9 yX9_count yX9_count ∈ TB := tb_t 893 (by decide +kernel) rfl
set_option maxRecDepth 100000 in
theorem tw_758 : Cond.code yX9_count cX9_count 4 (Option.some Jvm.ClassFile.FieldType.int) ∈ TB := tb_t 894 rfl rfl
theorem tw_759 : Cond.selects RX8 yX8_readSigns yX8_readSigns ∈ TB := tb_p 0 (by decide +kernel) rfl
theorem tw_760 : Cond.selects RX8 yX8_emptyDraft yX8_emptyDraft ∈ TB := tb_p 1 (by decide +kernel) rfl
theorem tw_761 : Cond.selects RX6 yX6_slotOf yX6_slotOf ∈ TB := tb_p 2 (by decide +kernel) rfl
theorem tw_762 : Cond.selects RX8 yX8_passThrough yX8_passThrough ∈ TB := tb_p 3 (by decide +kernel) rfl
theorem tw_763 : Cond.selects RX8 yX8_passFolding yX8_passFolding ∈ TB := tb_p 4 (by decide +kernel) rfl
theorem tw_764 : Cond.selects RX8 yX8_passComposing yX8_passComposing ∈ TB := tb_p 5 (by decide +kernel) rfl
theorem tw_765 : Cond.selects RX8 yX8_passDigits yX8_passDigits ∈ TB := tb_p 6 (by decide +kernel) rfl
theorem tw_766 : Cond.selects RX8 yX8_passDropping yX8_passDropping ∈ TB := tb_p 7 (by decide +kernel) rfl
theorem tw_767 : Cond.selects RX8 yX8_passReplacing yX8_passReplacing ∈ TB := tb_p 8 (by decide +kernel) rfl
theorem tw_768 : Cond.selects RX8 yX8_passHalves yX8_passHalves ∈ TB := tb_p 9 (by decide +kernel) rfl
theorem tw_769 : Cond.selects RX8 yX8_passWidths yX8_passWidths ∈ TB := tb_p 10 (by decide +kernel) rfl
theorem tw_770 : Cond.selects RX8 yX8_settleFilters yX8_settleFilters ∈ TB := tb_p 11 (by decide +kernel) rfl
theorem tw_771 : Cond.selects RX8 yX8_filtersInChain yX8_filtersInChain ∈ TB := tb_p 12 (by decide +kernel) rfl
theorem tw_772 : Cond.selects RX9 yX9_signAt yX9_signAt ∈ TB := tb_p 13 (by decide +kernel) rfl
theorem tw_773 : Cond.selects RX9 yX9_isTwo yX9_isTwo ∈ TB := tb_p 14 (by decide +kernel) rfl
theorem tw_774 : Cond.selects RX9 yX9_emptyDraft yX9_emptyDraft ∈ TB := tb_p 15 (by decide +kernel) rfl
theorem tw_775 : Cond.selects RX9 yX9_signsOf yX9_signsOf ∈ TB := tb_p 16 (by decide +kernel) rfl
theorem tw_776 : Cond.selects RX9 yX9_isSameRow yX9_isSameRow ∈ TB := tb_p 17 (by decide +kernel) rfl
theorem tw_777 : Cond.selects RX9 yX9_foldAt yX9_foldAt ∈ TB := tb_p 18 (by decide +kernel) rfl
theorem tw_778 : Cond.selects RX9 yX9_pairAt yX9_pairAt ∈ TB := tb_p 19 (by decide +kernel) rfl
theorem tw_779 : Cond.selects RX9 yX9_goesThrough yX9_goesThrough ∈ TB := tb_p 20 (by decide +kernel) rfl
theorem tw_780 : Cond.selects RX9 yX9_folding yX9_folding ∈ TB := tb_p 21 (by decide +kernel) rfl
theorem tw_781 : Cond.selects RX9 yX9_lay yX9_lay ∈ TB := tb_p 22 (by decide +kernel) rfl
theorem tw_782 : Cond.selects RX9 yX9_composing yX9_composing ∈ TB := tb_p 23 (by decide +kernel) rfl
theorem tw_783 : Cond.selects RX9 yX9_replacing yX9_replacing ∈ TB := tb_p 24 (by decide +kernel) rfl
theorem tw_784 : Cond.selects RX9 yX9_stringAt yX9_stringAt ∈ TB := tb_p 25 (by decide +kernel) rfl
theorem tw_785 : Cond.selects RX9 yX9_changed yX9_changed ∈ TB := tb_p 26 (by decide +kernel) rfl
theorem tw_786 : Cond.selects RX9 yX9_digitOf yX9_digitOf ∈ TB := tb_p 27 (by decide +kernel) rfl
theorem tw_787 : Cond.selects RX9 yX9_isDropped yX9_isDropped ∈ TB := tb_p 28 (by decide +kernel) rfl
theorem tw_788 : Cond.selects RX9 yX9_isOut yX9_isOut ∈ TB := tb_p 29 (by decide +kernel) rfl
theorem inT0 : ∀ w ∈ u_ws RX0 TX0 6, w ∈ TB := tb_u (fun k hk => match k, hk with | 0, _ => tw_310 | 1, _ => tw_311 | 2, _ => tw_312 | 3, _ => tw_313 | 4, _ => tw_314 | 5, _ => tw_315 | k + 6, h => absurd h (by omega))
theorem inT1 : ∀ w ∈ u_ws RX1 TX1 5, w ∈ TB := tb_u (fun k hk => match k, hk with | 0, _ => tw_32 | 1, _ => tw_33 | 2, _ => tw_34 | 3, _ => tw_35 | 4, _ => tw_36 | k + 5, h => absurd h (by omega))
theorem inT2 : ∀ w ∈ u_ws RX2 TX2 4, w ∈ TB := tb_u (fun k hk => match k, hk with | 0, _ => tw_47 | 1, _ => tw_48 | 2, _ => tw_49 | 3, _ => tw_50 | k + 4, h => absurd h (by omega))
theorem inT3 : ∀ w ∈ u_ws RX3 TX3 3, w ∈ TB := tb_u (fun k hk => match k, hk with | 0, _ => tw_68 | 1, _ => tw_69 | 2, _ => tw_70 | k + 3, h => absurd h (by omega))
theorem inT4 : ∀ w ∈ u_ws RX4 TX4 2, w ∈ TB := tb_u (fun k hk => match k, hk with | 0, _ => tw_215 | 1, _ => tw_216 | k + 2, h => absurd h (by omega))
theorem inT5 : ∀ w ∈ u_ws RX5 TX5 4, w ∈ TB := tb_u (fun k hk => match k, hk with | 0, _ => tw_91 | 1, _ => tw_92 | 2, _ => tw_93 | 3, _ => tw_94 | k + 4, h => absurd h (by omega))
theorem inT6 : ∀ w ∈ u_ws RX6 TX6 2, w ∈ TB := tb_u (fun k hk => match k, hk with | 0, _ => tw_79 | 1, _ => tw_80 | k + 2, h => absurd h (by omega))
theorem inT7 : ∀ w ∈ u_ws RX7 TX7 2, w ∈ TB := tb_u (fun k hk => match k, hk with | 0, _ => tw_58 | 1, _ => tw_59 | k + 2, h => absurd h (by omega))
theorem inT8 : ∀ w ∈ u_ws RX8 TX8 13, w ∈ TB := tb_u (fun k hk => match k, hk with | 0, _ => tw_108 | 1, _ => tw_109 | 2, _ => tw_110 | 3, _ => tw_111 | 4, _ => tw_112 | 5, _ => tw_113 | 6, _ => tw_114 | 7, _ => tw_115 | 8, _ => tw_116 | 9, _ => tw_117 | 10, _ => tw_118 | 11, _ => tw_119 | 12, _ => tw_120 | k + 13, h => absurd h (by omega))
theorem inT9 : ∀ w ∈ u_ws RX9 TX9 43, w ∈ TB := tb_u (fun k hk => match k, hk with | 0, _ => tw_541 | 1, _ => tw_542 | 2, _ => tw_543 | 3, _ => tw_544 | 4, _ => tw_545 | 5, _ => tw_546 | 6, _ => tw_547 | 7, _ => tw_548 | 8, _ => tw_549 | 9, _ => tw_550 | 10, _ => tw_551 | 11, _ => tw_552 | 12, _ => tw_553 | 13, _ => tw_554 | 14, _ => tw_555 | 15, _ => tw_556 | 16, _ => tw_557 | 17, _ => tw_558 | 18, _ => tw_559 | 19, _ => tw_560 | 20, _ => tw_561 | 21, _ => tw_562 | 22, _ => tw_563 | 23, _ => tw_564 | 24, _ => tw_565 | 25, _ => tw_566 | 26, _ => tw_567 | 27, _ => tw_568 | 28, _ => tw_569 | 29, _ => tw_570 | 30, _ => tw_571 | 31, _ => tw_572 | 32, _ => tw_573 | 33, _ => tw_574 | 34, _ => tw_575 | 35, _ => tw_576 | 36, _ => tw_577 | 37, _ => tw_578 | 38, _ => tw_579 | 39, _ => tw_580 | 40, _ => tw_581 | 41, _ => tw_582 | 42, _ => tw_583 | k + 43, h => absurd h (by omega))
end
section
theorem fl_X1_9 : FL RX1 9 1 0 := ⟨(RX1, TX1, 5), rfl, by decide, tw_27, inT1⟩
theorem fp_X1_9 : FP RX1 9 1 0 (.array .int) true := ⟨(RX1, TX1, 5), rfl, by decide, tw_27, inT1, ⟨tyX1, tyX1_ok⟩, nmX1, by decide +kernel, rfl, fun _ => rfl⟩
theorem fl_X1_15 : FL RX1 15 1 1 := ⟨(RX1, TX1, 5), rfl, by decide, tw_28, inT1⟩
theorem fp_X1_15 : FP RX1 15 1 1 (.array .int) true := ⟨(RX1, TX1, 5), rfl, by decide, tw_28, inT1, ⟨tyX1, tyX1_ok⟩, nmX1, by decide +kernel, rfl, fun _ => rfl⟩
theorem fl_X1_18 : FL RX1 18 1 2 := ⟨(RX1, TX1, 5), rfl, by decide, tw_29, inT1⟩
theorem fp_X1_18 : FP RX1 18 1 2 (.array .int) true := ⟨(RX1, TX1, 5), rfl, by decide, tw_29, inT1, ⟨tyX1, tyX1_ok⟩, nmX1, by decide +kernel, rfl, fun _ => rfl⟩
theorem fl_X1_21 : FL RX1 21 1 3 := ⟨(RX1, TX1, 5), rfl, by decide, tw_30, inT1⟩
theorem fp_X1_21 : FP RX1 21 1 3 (.array .int) true := ⟨(RX1, TX1, 5), rfl, by decide, tw_30, inT1, ⟨tyX1, tyX1_ok⟩, nmX1, by decide +kernel, rfl, fun _ => rfl⟩
theorem fl_X1_24 : FL RX1 24 1 4 := ⟨(RX1, TX1, 5), rfl, by decide, tw_31, inT1⟩
theorem fp_X1_24 : FP RX1 24 1 4 .int false := ⟨(RX1, TX1, 5), rfl, by decide, tw_31, inT1, ⟨tyX1, tyX1_ok⟩, nmX1, by decide +kernel, rfl, fun h => nomatch h⟩
theorem fl_X2_9 : FL RX2 9 2 0 := ⟨(RX2, TX2, 4), rfl, by decide, tw_43, inT2⟩
theorem fp_X2_9 : FP RX2 9 2 0 (.array .int) true := ⟨(RX2, TX2, 4), rfl, by decide, tw_43, inT2, ⟨tyX2, tyX2_ok⟩, nmX2, by decide +kernel, rfl, fun _ => rfl⟩
theorem fl_X2_15 : FL RX2 15 2 1 := ⟨(RX2, TX2, 4), rfl, by decide, tw_44, inT2⟩
theorem fp_X2_15 : FP RX2 15 2 1 (.array .int) true := ⟨(RX2, TX2, 4), rfl, by decide, tw_44, inT2, ⟨tyX2, tyX2_ok⟩, nmX2, by decide +kernel, rfl, fun _ => rfl⟩
theorem fl_X2_18 : FL RX2 18 2 2 := ⟨(RX2, TX2, 4), rfl, by decide, tw_45, inT2⟩
theorem fp_X2_18 : FP RX2 18 2 2 (.array .int) true := ⟨(RX2, TX2, 4), rfl, by decide, tw_45, inT2, ⟨tyX2, tyX2_ok⟩, nmX2, by decide +kernel, rfl, fun _ => rfl⟩
theorem fl_X2_21 : FL RX2 21 2 3 := ⟨(RX2, TX2, 4), rfl, by decide, tw_46, inT2⟩
theorem fp_X2_21 : FP RX2 21 2 3 .int false := ⟨(RX2, TX2, 4), rfl, by decide, tw_46, inT2, ⟨tyX2, tyX2_ok⟩, nmX2, by decide +kernel, rfl, fun h => nomatch h⟩
theorem fl_X7_9 : FL RX7 9 7 0 := ⟨(RX7, TX7, 2), rfl, by decide, tw_56, inT7⟩
theorem fp_X7_9 : FP RX7 9 7 0 (.array .int) true := ⟨(RX7, TX7, 2), rfl, by decide, tw_56, inT7, ⟨tyX7, tyX7_ok⟩, nmX7, by decide +kernel, rfl, fun _ => rfl⟩
theorem fl_X7_15 : FL RX7 15 7 1 := ⟨(RX7, TX7, 2), rfl, by decide, tw_57, inT7⟩
theorem fp_X7_15 : FP RX7 15 7 1 .int false := ⟨(RX7, TX7, 2), rfl, by decide, tw_57, inT7, ⟨tyX7, tyX7_ok⟩, nmX7, by decide +kernel, rfl, fun h => nomatch h⟩
theorem fl_X3_9 : FL RX3 9 3 0 := ⟨(RX3, TX3, 3), rfl, by decide, tw_65, inT3⟩
theorem fp_X3_9 : FP RX3 9 3 0 (.array .int) true := ⟨(RX3, TX3, 3), rfl, by decide, tw_65, inT3, ⟨tyX3, tyX3_ok⟩, nmX3, by decide +kernel, rfl, fun _ => rfl⟩
theorem fl_X3_15 : FL RX3 15 3 1 := ⟨(RX3, TX3, 3), rfl, by decide, tw_66, inT3⟩
theorem fp_X3_15 : FP RX3 15 3 1 (.array .int) true := ⟨(RX3, TX3, 3), rfl, by decide, tw_66, inT3, ⟨tyX3, tyX3_ok⟩, nmX3, by decide +kernel, rfl, fun _ => rfl⟩
theorem fl_X3_18 : FL RX3 18 3 2 := ⟨(RX3, TX3, 3), rfl, by decide, tw_67, inT3⟩
theorem fp_X3_18 : FP RX3 18 3 2 .int false := ⟨(RX3, TX3, 3), rfl, by decide, tw_67, inT3, ⟨tyX3, tyX3_ok⟩, nmX3, by decide +kernel, rfl, fun h => nomatch h⟩
theorem fl_X6_11 : FL RX6 11 6 0 := ⟨(RX6, TX6, 2), rfl, by decide, tw_77, inT6⟩
theorem fp_X6_11 : FP RX6 11 6 0 (.array (.object "SignTables$Replacement")) true := ⟨(RX6, TX6, 2), rfl, by decide, tw_77, inT6, ⟨tyX6, tyX6_ok⟩, nmX6, by decide +kernel, rfl, fun _ => rfl⟩
theorem fl_X6_17 : FL RX6 17 6 1 := ⟨(RX6, TX6, 2), rfl, by decide, tw_78, inT6⟩
theorem fp_X6_17 : FP RX6 17 6 1 .int false := ⟨(RX6, TX6, 2), rfl, by decide, tw_78, inT6, ⟨tyX6, tyX6_ok⟩, nmX6, by decide +kernel, rfl, fun h => nomatch h⟩
theorem fl_X5_9 : FL RX5 9 5 0 := ⟨(RX5, TX5, 4), rfl, by decide, tw_87, inT5⟩
theorem fp_X5_9 : FP RX5 9 5 0 (.array .int) true := ⟨(RX5, TX5, 4), rfl, by decide, tw_87, inT5, ⟨tyX5, tyX5_ok⟩, nmX5, by decide +kernel, rfl, fun _ => rfl⟩
theorem fl_X5_15 : FL RX5 15 5 1 := ⟨(RX5, TX5, 4), rfl, by decide, tw_88, inT5⟩
theorem fp_X5_15 : FP RX5 15 5 1 (.array .int) true := ⟨(RX5, TX5, 4), rfl, by decide, tw_88, inT5, ⟨tyX5, tyX5_ok⟩, nmX5, by decide +kernel, rfl, fun _ => rfl⟩
theorem fl_X5_18 : FL RX5 18 5 2 := ⟨(RX5, TX5, 4), rfl, by decide, tw_89, inT5⟩
theorem fp_X5_18 : FP RX5 18 5 2 (.array .int) true := ⟨(RX5, TX5, 4), rfl, by decide, tw_89, inT5, ⟨tyX5, tyX5_ok⟩, nmX5, by decide +kernel, rfl, fun _ => rfl⟩
theorem fl_X5_21 : FL RX5 21 5 3 := ⟨(RX5, TX5, 4), rfl, by decide, tw_90, inT5⟩
theorem fp_X5_21 : FP RX5 21 5 3 .int false := ⟨(RX5, TX5, 4), rfl, by decide, tw_90, inT5, ⟨tyX5, tyX5_ok⟩, nmX5, by decide +kernel, rfl, fun h => nomatch h⟩
theorem fl_X8_9 : FL RX8 9 8 0 := ⟨(RX8, TX8, 13), rfl, by decide, tw_95, inT8⟩
theorem fp_X8_9 : FP RX8 9 8 0 (.array .int) true := ⟨(RX8, TX8, 13), rfl, by decide, tw_95, inT8, ⟨tyX8, tyX8_ok⟩, nmX8, by decide +kernel, rfl, fun _ => rfl⟩
theorem fl_X8_13 : FL RX8 13 8 1 := ⟨(RX8, TX8, 13), rfl, by decide, tw_96, inT8⟩
theorem fp_X8_13 : FP RX8 13 8 1 .int false := ⟨(RX8, TX8, 13), rfl, by decide, tw_96, inT8, ⟨tyX8, tyX8_ok⟩, nmX8, by decide +kernel, rfl, fun h => nomatch h⟩
theorem fl_X8_17 : FL RX8 17 8 2 := ⟨(RX8, TX8, 13), rfl, by decide, tw_97, inT8⟩
theorem fp_X8_17 : FP RX8 17 8 2 .int false := ⟨(RX8, TX8, 13), rfl, by decide, tw_97, inT8, ⟨tyX8, tyX8_ok⟩, nmX8, by decide +kernel, rfl, fun h => nomatch h⟩
theorem fl_X8_23 : FL RX8 23 8 3 := ⟨(RX8, TX8, 13), rfl, by decide, tw_98, inT8⟩
theorem fp_X8_23 : FP RX8 23 8 3 (.object "SignTables$FoldTable") true := ⟨(RX8, TX8, 13), rfl, by decide, tw_98, inT8, ⟨tyX8, tyX8_ok⟩, nmX8, by decide +kernel, rfl, fun _ => rfl⟩
theorem fl_X8_30 : FL RX8 30 8 4 := ⟨(RX8, TX8, 13), rfl, by decide, tw_99, inT8⟩
theorem fp_X8_30 : FP RX8 30 8 4 (.object "SignTables$PairTable") true := ⟨(RX8, TX8, 13), rfl, by decide, tw_99, inT8, ⟨tyX8, tyX8_ok⟩, nmX8, by decide +kernel, rfl, fun _ => rfl⟩
theorem fl_X8_37 : FL RX8 37 8 5 := ⟨(RX8, TX8, 13), rfl, by decide, tw_100, inT8⟩
theorem fp_X8_37 : FP RX8 37 8 5 (.object "SignTables$ZeroTable") true := ⟨(RX8, TX8, 13), rfl, by decide, tw_100, inT8, ⟨tyX8, tyX8_ok⟩, nmX8, by decide +kernel, rfl, fun _ => rfl⟩
theorem fl_X8_44 : FL RX8 44 8 6 := ⟨(RX8, TX8, 13), rfl, by decide, tw_101, inT8⟩
theorem fp_X8_44 : FP RX8 44 8 6 (.object "SignTables$RangeTable") true := ⟨(RX8, TX8, 13), rfl, by decide, tw_101, inT8, ⟨tyX8, tyX8_ok⟩, nmX8, by decide +kernel, rfl, fun _ => rfl⟩
theorem fl_X8_51 : FL RX8 51 8 7 := ⟨(RX8, TX8, 13), rfl, by decide, tw_102, inT8⟩
theorem fp_X8_51 : FP RX8 51 8 7 (.object "SignTables$StringTable") true := ⟨(RX8, TX8, 13), rfl, by decide, tw_102, inT8, ⟨tyX8, tyX8_ok⟩, nmX8, by decide +kernel, rfl, fun _ => rfl⟩
theorem fl_X8_57 : FL RX8 57 8 8 := ⟨(RX8, TX8, 13), rfl, by decide, tw_103, inT8⟩
theorem fp_X8_57 : FP RX8 57 8 8 (.array (.object "SignTables$Filter")) true := ⟨(RX8, TX8, 13), rfl, by decide, tw_103, inT8, ⟨tyX8, tyX8_ok⟩, nmX8, by decide +kernel, rfl, fun _ => rfl⟩
theorem fl_X8_64 : FL RX8 64 8 9 := ⟨(RX8, TX8, 13), rfl, by decide, tw_104, inT8⟩
theorem fp_X8_64 : FP RX8 64 8 9 (.object "SignTables$SignRow") true := ⟨(RX8, TX8, 13), rfl, by decide, tw_104, inT8, ⟨tyX8, tyX8_ok⟩, nmX8, by decide +kernel, rfl, fun _ => rfl⟩
theorem fl_X8_68 : FL RX8 68 8 10 := ⟨(RX8, TX8, 13), rfl, by decide, tw_105, inT8⟩
theorem fp_X8_68 : FP RX8 68 8 10 (.object "SignTables$SignRow") false := ⟨(RX8, TX8, 13), rfl, by decide, tw_105, inT8, ⟨tyX8, tyX8_ok⟩, nmX8, by decide +kernel, rfl, fun h => nomatch h⟩
theorem fl_X8_71 : FL RX8 71 8 11 := ⟨(RX8, TX8, 13), rfl, by decide, tw_106, inT8⟩
theorem fp_X8_71 : FP RX8 71 8 11 (.object "SignTables$SignRow") false := ⟨(RX8, TX8, 13), rfl, by decide, tw_106, inT8, ⟨tyX8, tyX8_ok⟩, nmX8, by decide +kernel, rfl, fun h => nomatch h⟩
theorem fl_X8_74 : FL RX8 74 8 12 := ⟨(RX8, TX8, 13), rfl, by decide, tw_107, inT8⟩
theorem fp_X8_74 : FP RX8 74 8 12 (.object "SignTables$SignRow") false := ⟨(RX8, TX8, 13), rfl, by decide, tw_107, inT8, ⟨tyX8, tyX8_ok⟩, nmX8, by decide +kernel, rfl, fun h => nomatch h⟩
theorem fl_X4_13 : FL RX4 13 4 0 := ⟨(RX4, TX4, 2), rfl, by decide, tw_213, inT4⟩
theorem fp_X4_13 : FP RX4 13 4 0 (.array .int) true := ⟨(RX4, TX4, 2), rfl, by decide, tw_213, inT4, ⟨tyX4, tyX4_ok⟩, nmX4, by decide +kernel, rfl, fun _ => rfl⟩
theorem fl_X4_19 : FL RX4 19 4 1 := ⟨(RX4, TX4, 2), rfl, by decide, tw_214, inT4⟩
theorem fp_X4_19 : FP RX4 19 4 1 (.array .int) true := ⟨(RX4, TX4, 2), rfl, by decide, tw_214, inT4, ⟨tyX4, tyX4_ok⟩, nmX4, by decide +kernel, rfl, fun _ => rfl⟩
theorem fl_X0_27 : FL RX0 27 0 0 := ⟨(RX0, TX0, 6), rfl, by decide, tw_300, inT0⟩
theorem fp_X0_27 : FP RX0 27 0 0 .int true := ⟨(RX0, TX0, 6), rfl, by decide, tw_300, inT0, ⟨tyX0, tyX0_ok⟩, nmX0, by decide +kernel, rfl, fun _ => rfl⟩
theorem fl_X8_124 : FL RX8 124 0 0 := ⟨(RX0, TX0, 6), rfl, by decide, tw_301, inT0⟩
theorem fl_X0_9 : FL RX0 9 0 1 := ⟨(RX0, TX0, 6), rfl, by decide, tw_302, inT0⟩
theorem fp_X0_9 : FP RX0 9 0 1 .int false := ⟨(RX0, TX0, 6), rfl, by decide, tw_302, inT0, ⟨tyX0, tyX0_ok⟩, nmX0, by decide +kernel, rfl, fun h => nomatch h⟩
theorem fl_X8_127 : FL RX8 127 0 1 := ⟨(RX0, TX0, 6), rfl, by decide, tw_303, inT0⟩
theorem fp_X8_127 : FP RX8 127 0 1 .int false := ⟨(RX0, TX0, 6), rfl, by decide, tw_303, inT0, ⟨tyX0, tyX0_ok⟩, nmX0, by decide +kernel, rfl, fun h => nomatch h⟩
theorem fl_X0_15 : FL RX0 15 0 2 := ⟨(RX0, TX0, 6), rfl, by decide, tw_304, inT0⟩
theorem fp_X0_15 : FP RX0 15 0 2 .int false := ⟨(RX0, TX0, 6), rfl, by decide, tw_304, inT0, ⟨tyX0, tyX0_ok⟩, nmX0, by decide +kernel, rfl, fun h => nomatch h⟩
theorem fl_X8_167 : FL RX8 167 0 2 := ⟨(RX0, TX0, 6), rfl, by decide, tw_305, inT0⟩
theorem fp_X8_167 : FP RX8 167 0 2 .int false := ⟨(RX0, TX0, 6), rfl, by decide, tw_305, inT0, ⟨tyX0, tyX0_ok⟩, nmX0, by decide +kernel, rfl, fun h => nomatch h⟩
theorem fl_X0_18 : FL RX0 18 0 3 := ⟨(RX0, TX0, 6), rfl, by decide, tw_306, inT0⟩
theorem fp_X0_18 : FP RX0 18 0 3 .int false := ⟨(RX0, TX0, 6), rfl, by decide, tw_306, inT0, ⟨tyX0, tyX0_ok⟩, nmX0, by decide +kernel, rfl, fun h => nomatch h⟩
theorem fl_X8_170 : FL RX8 170 0 3 := ⟨(RX0, TX0, 6), rfl, by decide, tw_307, inT0⟩
theorem fp_X8_170 : FP RX8 170 0 3 .int false := ⟨(RX0, TX0, 6), rfl, by decide, tw_307, inT0, ⟨tyX0, tyX0_ok⟩, nmX0, by decide +kernel, rfl, fun h => nomatch h⟩
theorem fl_X0_21 : FL RX0 21 0 4 := ⟨(RX0, TX0, 6), rfl, by decide, tw_308, inT0⟩
theorem fp_X0_21 : FP RX0 21 0 4 .int false := ⟨(RX0, TX0, 6), rfl, by decide, tw_308, inT0, ⟨tyX0, tyX0_ok⟩, nmX0, by decide +kernel, rfl, fun h => nomatch h⟩
theorem fl_X0_24 : FL RX0 24 0 5 := ⟨(RX0, TX0, 6), rfl, by decide, tw_309, inT0⟩
theorem fp_X0_24 : FP RX0 24 0 5 .int false := ⟨(RX0, TX0, 6), rfl, by decide, tw_309, inT0, ⟨tyX0, tyX0_ok⟩, nmX0, by decide +kernel, rfl, fun h => nomatch h⟩
theorem fl_X9_106 : FL RX9 106 9 0 := ⟨(RX9, TX9, 43), rfl, by decide, tw_498, inT9⟩
theorem fp_X9_106 : FP RX9 106 9 0 .int false := ⟨(RX9, TX9, 43), rfl, by decide, tw_498, inT9, ⟨tyX9, tyX9_ok⟩, nmX9, by decide +kernel, rfl, fun h => nomatch h⟩
theorem fl_X9_120 : FL RX9 120 9 1 := ⟨(RX9, TX9, 43), rfl, by decide, tw_499, inT9⟩
theorem fp_X9_120 : FP RX9 120 9 1 .int false := ⟨(RX9, TX9, 43), rfl, by decide, tw_499, inT9, ⟨tyX9, tyX9_ok⟩, nmX9, by decide +kernel, rfl, fun h => nomatch h⟩
theorem fl_X9_7 : FL RX9 7 9 2 := ⟨(RX9, TX9, 43), rfl, by decide, tw_500, inT9⟩
theorem fp_X9_7 : FP RX9 7 9 2 (.array .int) true := ⟨(RX9, TX9, 43), rfl, by decide, tw_500, inT9, ⟨tyX9, tyX9_ok⟩, nmX9, by decide +kernel, rfl, fun _ => rfl⟩
theorem fl_X9_135 : FL RX9 135 9 3 := ⟨(RX9, TX9, 43), rfl, by decide, tw_501, inT9⟩
theorem fp_X9_135 : FP RX9 135 9 3 .int false := ⟨(RX9, TX9, 43), rfl, by decide, tw_501, inT9, ⟨tyX9, tyX9_ok⟩, nmX9, by decide +kernel, rfl, fun h => nomatch h⟩
theorem fl_X9_13 : FL RX9 13 9 4 := ⟨(RX9, TX9, 43), rfl, by decide, tw_502, inT9⟩
theorem fp_X9_13 : FP RX9 13 9 4 (.array .int) true := ⟨(RX9, TX9, 43), rfl, by decide, tw_502, inT9, ⟨tyX9, tyX9_ok⟩, nmX9, by decide +kernel, rfl, fun _ => rfl⟩
theorem fl_X9_16 : FL RX9 16 9 5 := ⟨(RX9, TX9, 43), rfl, by decide, tw_503, inT9⟩
theorem fp_X9_16 : FP RX9 16 9 5 (.array .int) true := ⟨(RX9, TX9, 43), rfl, by decide, tw_503, inT9, ⟨tyX9, tyX9_ok⟩, nmX9, by decide +kernel, rfl, fun _ => rfl⟩
theorem fl_X9_19 : FL RX9 19 9 6 := ⟨(RX9, TX9, 43), rfl, by decide, tw_504, inT9⟩
theorem fp_X9_19 : FP RX9 19 9 6 (.array .int) true := ⟨(RX9, TX9, 43), rfl, by decide, tw_504, inT9, ⟨tyX9, tyX9_ok⟩, nmX9, by decide +kernel, rfl, fun _ => rfl⟩
theorem fl_X9_155 : FL RX9 155 9 7 := ⟨(RX9, TX9, 43), rfl, by decide, tw_505, inT9⟩
theorem fp_X9_155 : FP RX9 155 9 7 .int false := ⟨(RX9, TX9, 43), rfl, by decide, tw_505, inT9, ⟨tyX9, tyX9_ok⟩, nmX9, by decide +kernel, rfl, fun h => nomatch h⟩
theorem fl_X9_22 : FL RX9 22 9 8 := ⟨(RX9, TX9, 43), rfl, by decide, tw_506, inT9⟩
theorem fp_X9_22 : FP RX9 22 9 8 (.array .int) true := ⟨(RX9, TX9, 43), rfl, by decide, tw_506, inT9, ⟨tyX9, tyX9_ok⟩, nmX9, by decide +kernel, rfl, fun _ => rfl⟩
theorem fl_X9_25 : FL RX9 25 9 9 := ⟨(RX9, TX9, 43), rfl, by decide, tw_507, inT9⟩
theorem fp_X9_25 : FP RX9 25 9 9 (.array .int) true := ⟨(RX9, TX9, 43), rfl, by decide, tw_507, inT9, ⟨tyX9, tyX9_ok⟩, nmX9, by decide +kernel, rfl, fun _ => rfl⟩
theorem fl_X9_28 : FL RX9 28 9 10 := ⟨(RX9, TX9, 43), rfl, by decide, tw_508, inT9⟩
theorem fp_X9_28 : FP RX9 28 9 10 (.array .int) true := ⟨(RX9, TX9, 43), rfl, by decide, tw_508, inT9, ⟨tyX9, tyX9_ok⟩, nmX9, by decide +kernel, rfl, fun _ => rfl⟩
theorem fl_X9_168 : FL RX9 168 9 11 := ⟨(RX9, TX9, 43), rfl, by decide, tw_509, inT9⟩
theorem fp_X9_168 : FP RX9 168 9 11 .int false := ⟨(RX9, TX9, 43), rfl, by decide, tw_509, inT9, ⟨tyX9, tyX9_ok⟩, nmX9, by decide +kernel, rfl, fun h => nomatch h⟩
theorem fl_X9_31 : FL RX9 31 9 12 := ⟨(RX9, TX9, 43), rfl, by decide, tw_510, inT9⟩
theorem fp_X9_31 : FP RX9 31 9 12 (.array .int) true := ⟨(RX9, TX9, 43), rfl, by decide, tw_510, inT9, ⟨tyX9, tyX9_ok⟩, nmX9, by decide +kernel, rfl, fun _ => rfl⟩
theorem fl_X9_34 : FL RX9 34 9 13 := ⟨(RX9, TX9, 43), rfl, by decide, tw_511, inT9⟩
theorem fp_X9_34 : FP RX9 34 9 13 (.array .int) true := ⟨(RX9, TX9, 43), rfl, by decide, tw_511, inT9, ⟨tyX9, tyX9_ok⟩, nmX9, by decide +kernel, rfl, fun _ => rfl⟩
theorem fl_X9_37 : FL RX9 37 9 14 := ⟨(RX9, TX9, 43), rfl, by decide, tw_512, inT9⟩
theorem fp_X9_37 : FP RX9 37 9 14 (.array .int) true := ⟨(RX9, TX9, 43), rfl, by decide, tw_512, inT9, ⟨tyX9, tyX9_ok⟩, nmX9, by decide +kernel, rfl, fun _ => rfl⟩
theorem fl_X9_175 : FL RX9 175 9 15 := ⟨(RX9, TX9, 43), rfl, by decide, tw_513, inT9⟩
theorem fp_X9_175 : FP RX9 175 9 15 .int false := ⟨(RX9, TX9, 43), rfl, by decide, tw_513, inT9, ⟨tyX9, tyX9_ok⟩, nmX9, by decide +kernel, rfl, fun h => nomatch h⟩
theorem fl_X9_40 : FL RX9 40 9 16 := ⟨(RX9, TX9, 43), rfl, by decide, tw_514, inT9⟩
theorem fp_X9_40 : FP RX9 40 9 16 (.array .int) true := ⟨(RX9, TX9, 43), rfl, by decide, tw_514, inT9, ⟨tyX9, tyX9_ok⟩, nmX9, by decide +kernel, rfl, fun _ => rfl⟩
theorem fl_X9_178 : FL RX9 178 9 17 := ⟨(RX9, TX9, 43), rfl, by decide, tw_515, inT9⟩
theorem fp_X9_178 : FP RX9 178 9 17 .int false := ⟨(RX9, TX9, 43), rfl, by decide, tw_515, inT9, ⟨tyX9, tyX9_ok⟩, nmX9, by decide +kernel, rfl, fun h => nomatch h⟩
theorem fl_X9_43 : FL RX9 43 9 18 := ⟨(RX9, TX9, 43), rfl, by decide, tw_516, inT9⟩
theorem fp_X9_43 : FP RX9 43 9 18 (.array .int) true := ⟨(RX9, TX9, 43), rfl, by decide, tw_516, inT9, ⟨tyX9, tyX9_ok⟩, nmX9, by decide +kernel, rfl, fun _ => rfl⟩
theorem fl_X9_46 : FL RX9 46 9 19 := ⟨(RX9, TX9, 43), rfl, by decide, tw_517, inT9⟩
theorem fp_X9_46 : FP RX9 46 9 19 (.array .int) true := ⟨(RX9, TX9, 43), rfl, by decide, tw_517, inT9, ⟨tyX9, tyX9_ok⟩, nmX9, by decide +kernel, rfl, fun _ => rfl⟩
theorem fl_X9_149 : FL RX9 149 9 20 := ⟨(RX9, TX9, 43), rfl, by decide, tw_518, inT9⟩
theorem fp_X9_149 : FP RX9 149 9 20 .int false := ⟨(RX9, TX9, 43), rfl, by decide, tw_518, inT9, ⟨tyX9, tyX9_ok⟩, nmX9, by decide +kernel, rfl, fun h => nomatch h⟩
theorem fl_X9_49 : FL RX9 49 9 21 := ⟨(RX9, TX9, 43), rfl, by decide, tw_519, inT9⟩
theorem fp_X9_49 : FP RX9 49 9 21 (.array .int) true := ⟨(RX9, TX9, 43), rfl, by decide, tw_519, inT9, ⟨tyX9, tyX9_ok⟩, nmX9, by decide +kernel, rfl, fun _ => rfl⟩
theorem fl_X9_52 : FL RX9 52 9 22 := ⟨(RX9, TX9, 43), rfl, by decide, tw_520, inT9⟩
theorem fp_X9_52 : FP RX9 52 9 22 (.array .int) true := ⟨(RX9, TX9, 43), rfl, by decide, tw_520, inT9, ⟨tyX9, tyX9_ok⟩, nmX9, by decide +kernel, rfl, fun _ => rfl⟩
theorem fl_X9_55 : FL RX9 55 9 23 := ⟨(RX9, TX9, 43), rfl, by decide, tw_521, inT9⟩
theorem fp_X9_55 : FP RX9 55 9 23 (.array .int) true := ⟨(RX9, TX9, 43), rfl, by decide, tw_521, inT9, ⟨tyX9, tyX9_ok⟩, nmX9, by decide +kernel, rfl, fun _ => rfl⟩
theorem fl_X9_58 : FL RX9 58 9 24 := ⟨(RX9, TX9, 43), rfl, by decide, tw_522, inT9⟩
theorem fp_X9_58 : FP RX9 58 9 24 (.array .int) true := ⟨(RX9, TX9, 43), rfl, by decide, tw_522, inT9, ⟨tyX9, tyX9_ok⟩, nmX9, by decide +kernel, rfl, fun _ => rfl⟩
theorem fl_X9_61 : FL RX9 61 9 25 := ⟨(RX9, TX9, 43), rfl, by decide, tw_523, inT9⟩
theorem fp_X9_61 : FP RX9 61 9 25 (.array .int) true := ⟨(RX9, TX9, 43), rfl, by decide, tw_523, inT9, ⟨tyX9, tyX9_ok⟩, nmX9, by decide +kernel, rfl, fun _ => rfl⟩
theorem fl_X9_64 : FL RX9 64 9 26 := ⟨(RX9, TX9, 43), rfl, by decide, tw_524, inT9⟩
theorem fp_X9_64 : FP RX9 64 9 26 (.array .int) true := ⟨(RX9, TX9, 43), rfl, by decide, tw_524, inT9, ⟨tyX9, tyX9_ok⟩, nmX9, by decide +kernel, rfl, fun _ => rfl⟩
theorem fl_X9_67 : FL RX9 67 9 27 := ⟨(RX9, TX9, 43), rfl, by decide, tw_525, inT9⟩
theorem fp_X9_67 : FP RX9 67 9 27 (.array .int) true := ⟨(RX9, TX9, 43), rfl, by decide, tw_525, inT9, ⟨tyX9, tyX9_ok⟩, nmX9, by decide +kernel, rfl, fun _ => rfl⟩
theorem fl_X9_70 : FL RX9 70 9 28 := ⟨(RX9, TX9, 43), rfl, by decide, tw_526, inT9⟩
theorem fp_X9_70 : FP RX9 70 9 28 (.array .int) true := ⟨(RX9, TX9, 43), rfl, by decide, tw_526, inT9, ⟨tyX9, tyX9_ok⟩, nmX9, by decide +kernel, rfl, fun _ => rfl⟩
theorem fl_X9_73 : FL RX9 73 9 29 := ⟨(RX9, TX9, 43), rfl, by decide, tw_527, inT9⟩
theorem fp_X9_73 : FP RX9 73 9 29 (.array .int) true := ⟨(RX9, TX9, 43), rfl, by decide, tw_527, inT9, ⟨tyX9, tyX9_ok⟩, nmX9, by decide +kernel, rfl, fun _ => rfl⟩
theorem fl_X9_76 : FL RX9 76 9 30 := ⟨(RX9, TX9, 43), rfl, by decide, tw_528, inT9⟩
theorem fp_X9_76 : FP RX9 76 9 30 (.array .int) true := ⟨(RX9, TX9, 43), rfl, by decide, tw_528, inT9, ⟨tyX9, tyX9_ok⟩, nmX9, by decide +kernel, rfl, fun _ => rfl⟩
theorem fl_X9_226 : FL RX9 226 9 31 := ⟨(RX9, TX9, 43), rfl, by decide, tw_529, inT9⟩
theorem fp_X9_226 : FP RX9 226 9 31 .int false := ⟨(RX9, TX9, 43), rfl, by decide, tw_529, inT9, ⟨tyX9, tyX9_ok⟩, nmX9, by decide +kernel, rfl, fun h => nomatch h⟩
theorem fl_X9_79 : FL RX9 79 9 32 := ⟨(RX9, TX9, 43), rfl, by decide, tw_530, inT9⟩
theorem fp_X9_79 : FP RX9 79 9 32 (.array .int) true := ⟨(RX9, TX9, 43), rfl, by decide, tw_530, inT9, ⟨tyX9, tyX9_ok⟩, nmX9, by decide +kernel, rfl, fun _ => rfl⟩
theorem fl_X9_82 : FL RX9 82 9 33 := ⟨(RX9, TX9, 43), rfl, by decide, tw_531, inT9⟩
theorem fp_X9_82 : FP RX9 82 9 33 (.array .int) true := ⟨(RX9, TX9, 43), rfl, by decide, tw_531, inT9, ⟨tyX9, tyX9_ok⟩, nmX9, by decide +kernel, rfl, fun _ => rfl⟩
theorem fl_X9_85 : FL RX9 85 9 34 := ⟨(RX9, TX9, 43), rfl, by decide, tw_532, inT9⟩
theorem fp_X9_85 : FP RX9 85 9 34 (.array .int) true := ⟨(RX9, TX9, 43), rfl, by decide, tw_532, inT9, ⟨tyX9, tyX9_ok⟩, nmX9, by decide +kernel, rfl, fun _ => rfl⟩
theorem fl_X9_194 : FL RX9 194 9 35 := ⟨(RX9, TX9, 43), rfl, by decide, tw_533, inT9⟩
theorem fp_X9_194 : FP RX9 194 9 35 .int false := ⟨(RX9, TX9, 43), rfl, by decide, tw_533, inT9, ⟨tyX9, tyX9_ok⟩, nmX9, by decide +kernel, rfl, fun h => nomatch h⟩
theorem fl_X9_88 : FL RX9 88 9 36 := ⟨(RX9, TX9, 43), rfl, by decide, tw_534, inT9⟩
theorem fp_X9_88 : FP RX9 88 9 36 (.array .int) true := ⟨(RX9, TX9, 43), rfl, by decide, tw_534, inT9, ⟨tyX9, tyX9_ok⟩, nmX9, by decide +kernel, rfl, fun _ => rfl⟩
theorem fl_X9_91 : FL RX9 91 9 37 := ⟨(RX9, TX9, 43), rfl, by decide, tw_535, inT9⟩
theorem fp_X9_91 : FP RX9 91 9 37 (.array .int) true := ⟨(RX9, TX9, 43), rfl, by decide, tw_535, inT9, ⟨tyX9, tyX9_ok⟩, nmX9, by decide +kernel, rfl, fun _ => rfl⟩
theorem fl_X9_94 : FL RX9 94 9 38 := ⟨(RX9, TX9, 43), rfl, by decide, tw_536, inT9⟩
theorem fp_X9_94 : FP RX9 94 9 38 (.array .int) true := ⟨(RX9, TX9, 43), rfl, by decide, tw_536, inT9, ⟨tyX9, tyX9_ok⟩, nmX9, by decide +kernel, rfl, fun _ => rfl⟩
theorem fl_X9_184 : FL RX9 184 9 39 := ⟨(RX9, TX9, 43), rfl, by decide, tw_537, inT9⟩
theorem fp_X9_184 : FP RX9 184 9 39 .int false := ⟨(RX9, TX9, 43), rfl, by decide, tw_537, inT9, ⟨tyX9, tyX9_ok⟩, nmX9, by decide +kernel, rfl, fun h => nomatch h⟩
theorem fl_X9_97 : FL RX9 97 9 40 := ⟨(RX9, TX9, 43), rfl, by decide, tw_538, inT9⟩
theorem fp_X9_97 : FP RX9 97 9 40 (.array .int) true := ⟨(RX9, TX9, 43), rfl, by decide, tw_538, inT9, ⟨tyX9, tyX9_ok⟩, nmX9, by decide +kernel, rfl, fun _ => rfl⟩
theorem fl_X9_100 : FL RX9 100 9 41 := ⟨(RX9, TX9, 43), rfl, by decide, tw_539, inT9⟩
theorem fp_X9_100 : FP RX9 100 9 41 (.array .int) true := ⟨(RX9, TX9, 43), rfl, by decide, tw_539, inT9, ⟨tyX9, tyX9_ok⟩, nmX9, by decide +kernel, rfl, fun _ => rfl⟩
theorem fl_X9_103 : FL RX9 103 9 42 := ⟨(RX9, TX9, 43), rfl, by decide, tw_540, inT9⟩
theorem fp_X9_103 : FP RX9 103 9 42 (.array .int) true := ⟨(RX9, TX9, 43), rfl, by decide, tw_540, inT9, ⟨tyX9, tyX9_ok⟩, nmX9, by decide +kernel, rfl, fun _ => rfl⟩
theorem ml_X8_init : ML yX8_init cX8_init 1 (Option.none : Option Jvm.ClassFile.FieldType) 0 := ⟨tw_18, tw_1, ⟨by decide +kernel, by decide +kernel⟩, by decide +kernel⟩
theorem ml_X1_init : ML yX1_init cX1_init 1 (Option.none : Option Jvm.ClassFile.FieldType) 0 := ⟨tw_25, tw_2, ⟨by decide +kernel, by decide +kernel⟩, by decide +kernel⟩
theorem ml_X2_init : ML yX2_init cX2_init 1 (Option.none : Option Jvm.ClassFile.FieldType) 0 := ⟨tw_41, tw_3, ⟨by decide +kernel, by decide +kernel⟩, by decide +kernel⟩
theorem ml_X7_init : ML yX7_init cX7_init 1 (Option.none : Option Jvm.ClassFile.FieldType) 0 := ⟨tw_54, tw_4, ⟨by decide +kernel, by decide +kernel⟩, by decide +kernel⟩
theorem ml_X3_init : ML yX3_init cX3_init 1 (Option.none : Option Jvm.ClassFile.FieldType) 0 := ⟨tw_63, tw_5, ⟨by decide +kernel, by decide +kernel⟩, by decide +kernel⟩
theorem ml_X6_init : ML yX6_init cX6_init 1 (Option.none : Option Jvm.ClassFile.FieldType) 0 := ⟨tw_74, tw_6, ⟨by decide +kernel, by decide +kernel⟩, by decide +kernel⟩
theorem ml_X5_init : ML yX5_init cX5_init 1 (Option.none : Option Jvm.ClassFile.FieldType) 0 := ⟨tw_85, tw_7, ⟨by decide +kernel, by decide +kernel⟩, by decide +kernel⟩
theorem ml_X8_unit : ML yX8_unit cX8_unit 2 (Option.some Jvm.ClassFile.FieldType.int) 1 := ⟨tw_124, tw_1, ⟨by decide +kernel, by decide +kernel⟩, by decide +kernel⟩
theorem ml_X8_mark : ML yX8_mark cX8_mark 1 (Option.some Jvm.ClassFile.FieldType.int) 0 := ⟨tw_129, tw_1, ⟨by decide +kernel, by decide +kernel⟩, by decide +kernel⟩
theorem ml_X8_text : ML yX8_text cX8_text 1 (Option.some Jvm.ClassFile.FieldType.int) 0 := ⟨tw_133, tw_1, ⟨by decide +kernel, by decide +kernel⟩, by decide +kernel⟩
theorem ml_X8_readSigns : ML yX8_readSigns cX8_readSigns 7 (Option.none : Option Jvm.ClassFile.FieldType) 3 := ⟨tw_136, tw_1, ⟨by decide +kernel, by decide +kernel⟩, by decide +kernel⟩
theorem ml_X5_clear : ML yX5_clear cX5_clear 1 (Option.none : Option Jvm.ClassFile.FieldType) 0 := ⟨tw_140, tw_7, ⟨by decide +kernel, by decide +kernel⟩, by decide +kernel⟩
theorem ml_X8_isHigh : ML yX8_isHigh cX8_isHigh 1 (Option.some Jvm.ClassFile.FieldType.boolean) 1 := ⟨tw_143, tw_1, ⟨by decide +kernel, by decide +kernel⟩, by decide +kernel⟩
theorem ml_X8_isLow : ML yX8_isLow cX8_isLow 1 (Option.some Jvm.ClassFile.FieldType.boolean) 1 := ⟨tw_148, tw_1, ⟨by decide +kernel, by decide +kernel⟩, by decide +kernel⟩
theorem ml_X5_add : ML yX5_add cX5_add 4 (Option.some Jvm.ClassFile.FieldType.boolean) 3 := ⟨tw_154, tw_7, ⟨by decide +kernel, by decide +kernel⟩, by decide +kernel⟩
theorem ml_X8_emptyDraft : ML yX8_emptyDraft cX8_emptyDraft 1 (Option.none : Option Jvm.ClassFile.FieldType) 0 := ⟨tw_157, tw_1, ⟨by decide +kernel, by decide +kernel⟩, by decide +kernel⟩
theorem ml_X5_size : ML yX5_size cX5_size 1 (Option.some Jvm.ClassFile.FieldType.int) 0 := ⟨tw_161, tw_7, ⟨by decide +kernel, by decide +kernel⟩, by decide +kernel⟩
theorem ml_X8_string : ML yX8_string cX8_string 1 (Option.some Jvm.ClassFile.FieldType.int) 0 := ⟨tw_165, tw_1, ⟨by decide +kernel, by decide +kernel⟩, by decide +kernel⟩
theorem ml_X6_put : ML yX6_put cX6_put 4 (Option.some Jvm.ClassFile.FieldType.boolean) 2 := ⟨tw_169, tw_6, ⟨by decide +kernel, by decide +kernel⟩, by decide +kernel⟩
theorem ml_X6_slotOf : ML yX6_slotOf cX6_slotOf 4 (Option.some Jvm.ClassFile.FieldType.int) 1 := ⟨tw_172, tw_6, ⟨by decide +kernel, by decide +kernel⟩, by decide +kernel⟩
theorem ml_X4_length : ML yX4_length cX4_length 1 (Option.some Jvm.ClassFile.FieldType.int) 0 := ⟨tw_176, tw_9, ⟨by decide +kernel, by decide +kernel⟩, by decide +kernel⟩
theorem ml_X4_standsAt : ML yX4_standsAt cX4_standsAt 4 (Option.some Jvm.ClassFile.FieldType.boolean) 2 := ⟨tw_181, tw_9, ⟨by decide +kernel, by decide +kernel⟩, by decide +kernel⟩
theorem ml_X5_signAt : ML yX5_signAt cX5_signAt 2 (Option.some Jvm.ClassFile.FieldType.int) 1 := ⟨tw_186, tw_7, ⟨by decide +kernel, by decide +kernel⟩, by decide +kernel⟩
theorem ml_X5_has : ML yX5_has cX5_has 2 (Option.some Jvm.ClassFile.FieldType.boolean) 1 := ⟨tw_190, tw_7, ⟨by decide +kernel, by decide +kernel⟩, by decide +kernel⟩
theorem ml_X4_init : ML yX4_init cX4_init 3 (Option.none : Option Jvm.ClassFile.FieldType) 2 := ⟨tw_194, tw_9, ⟨by decide +kernel, by decide +kernel⟩, by decide +kernel⟩
theorem ml_X5_signsAlone : ML yX5_signsAlone cX5_signsAlone 1 (Option.some (Jvm.ClassFile.FieldType.array Jvm.ClassFile.FieldType.int)) 0 := ⟨tw_199, tw_7, ⟨by decide +kernel, by decide +kernel⟩, by decide +kernel⟩
theorem ml_J7_copyOf_59c91 : ML yJ7_copyOf_59c91 cJ7_copyOf_59c91 3 (Option.some (Jvm.ClassFile.FieldType.array Jvm.ClassFile.FieldType.int)) 2 := ⟨tw_202, tw_10, ⟨by decide +kernel, by decide +kernel⟩, by decide +kernel⟩
theorem ml_J9_min_7cf53 : ML yJ9_min_7cf53 cJ9_min_7cf53 2 (Option.some Jvm.ClassFile.FieldType.int) 2 := ⟨tw_209, tw_11, ⟨by decide +kernel, by decide +kernel⟩, by decide +kernel⟩
theorem ml_X6_size : ML yX6_size cX6_size 1 (Option.some Jvm.ClassFile.FieldType.int) 0 := ⟨tw_220, tw_6, ⟨by decide +kernel, by decide +kernel⟩, by decide +kernel⟩
theorem ml_X8_fold : ML yX8_fold cX8_fold 5 (Option.some Jvm.ClassFile.FieldType.int) 4 := ⟨tw_224, tw_1, ⟨by decide +kernel, by decide +kernel⟩, by decide +kernel⟩
theorem ml_X8_isSign : ML yX8_isSign cX8_isSign 1 (Option.some Jvm.ClassFile.FieldType.boolean) 1 := ⟨tw_227, tw_1, ⟨by decide +kernel, by decide +kernel⟩, by decide +kernel⟩
theorem ml_X8_isFoldRow : ML yX8_isFoldRow cX8_isFoldRow 3 (Option.some Jvm.ClassFile.FieldType.boolean) 3 := ⟨tw_231, tw_1, ⟨by decide +kernel, by decide +kernel⟩, by decide +kernel⟩
theorem ml_X8_isSignOrNone : ML yX8_isSignOrNone cX8_isSignOrNone 1 (Option.some Jvm.ClassFile.FieldType.boolean) 1 := ⟨tw_234, tw_1, ⟨by decide +kernel, by decide +kernel⟩, by decide +kernel⟩
theorem ml_X1_put : ML yX1_put cX1_put 6 (Option.some Jvm.ClassFile.FieldType.boolean) 4 := ⟨tw_238, tw_2, ⟨by decide +kernel, by decide +kernel⟩, by decide +kernel⟩
theorem ml_X1_slotOf : ML yX1_slotOf cX1_slotOf 3 (Option.some Jvm.ClassFile.FieldType.int) 1 := ⟨tw_242, tw_2, ⟨by decide +kernel, by decide +kernel⟩, by decide +kernel⟩
theorem ml_X1_size : ML yX1_size cX1_size 1 (Option.some Jvm.ClassFile.FieldType.int) 0 := ⟨tw_246, tw_2, ⟨by decide +kernel, by decide +kernel⟩, by decide +kernel⟩
theorem ml_X8_pair : ML yX8_pair cX8_pair 4 (Option.some Jvm.ClassFile.FieldType.int) 3 := ⟨tw_250, tw_1, ⟨by decide +kernel, by decide +kernel⟩, by decide +kernel⟩
theorem ml_X2_put : ML yX2_put cX2_put 5 (Option.some Jvm.ClassFile.FieldType.boolean) 3 := ⟨tw_254, tw_3, ⟨by decide +kernel, by decide +kernel⟩, by decide +kernel⟩
theorem ml_X2_slotOf : ML yX2_slotOf cX2_slotOf 4 (Option.some Jvm.ClassFile.FieldType.int) 2 := ⟨tw_258, tw_3, ⟨by decide +kernel, by decide +kernel⟩, by decide +kernel⟩
theorem ml_X2_size : ML yX2_size cX2_size 1 (Option.some Jvm.ClassFile.FieldType.int) 0 := ⟨tw_262, tw_3, ⟨by decide +kernel, by decide +kernel⟩, by decide +kernel⟩
theorem ml_X8_zero : ML yX8_zero cX8_zero 2 (Option.some Jvm.ClassFile.FieldType.int) 1 := ⟨tw_266, tw_1, ⟨by decide +kernel, by decide +kernel⟩, by decide +kernel⟩
theorem ml_X7_add : ML yX7_add cX7_add 2 (Option.some Jvm.ClassFile.FieldType.boolean) 1 := ⟨tw_271, tw_4, ⟨by decide +kernel, by decide +kernel⟩, by decide +kernel⟩
theorem ml_X7_size : ML yX7_size cX7_size 1 (Option.some Jvm.ClassFile.FieldType.int) 0 := ⟨tw_275, tw_4, ⟨by decide +kernel, by decide +kernel⟩, by decide +kernel⟩
theorem ml_X8_range : ML yX8_range cX8_range 3 (Option.some Jvm.ClassFile.FieldType.int) 2 := ⟨tw_279, tw_1, ⟨by decide +kernel, by decide +kernel⟩, by decide +kernel⟩
theorem ml_X3_add : ML yX3_add cX3_add 3 (Option.some Jvm.ClassFile.FieldType.boolean) 2 := ⟨tw_283, tw_5, ⟨by decide +kernel, by decide +kernel⟩, by decide +kernel⟩
theorem ml_X3_size : ML yX3_size cX3_size 1 (Option.some Jvm.ClassFile.FieldType.int) 0 := ⟨tw_287, tw_5, ⟨by decide +kernel, by decide +kernel⟩, by decide +kernel⟩
theorem ml_X8_filter : ML yX8_filter cX8_filter 3 (Option.some Jvm.ClassFile.FieldType.int) 2 := ⟨tw_291, tw_1, ⟨by decide +kernel, by decide +kernel⟩, by decide +kernel⟩
theorem ml_X8_isPlace : ML yX8_isPlace cX8_isPlace 1 (Option.some Jvm.ClassFile.FieldType.boolean) 1 := ⟨tw_294, tw_1, ⟨by decide +kernel, by decide +kernel⟩, by decide +kernel⟩
theorem ml_X0_init : ML yX0_init cX0_init 2 (Option.none : Option Jvm.ClassFile.FieldType) 1 := ⟨tw_298, tw_13, ⟨by decide +kernel, by decide +kernel⟩, by decide +kernel⟩
theorem ml_X8_drop : ML yX8_drop cX8_drop 3 (Option.some Jvm.ClassFile.FieldType.int) 1 := ⟨tw_319, tw_1, ⟨by decide +kernel, by decide +kernel⟩, by decide +kernel⟩
theorem ml_X8_rule : ML yX8_rule cX8_rule 5 (Option.some Jvm.ClassFile.FieldType.int) 2 := ⟨tw_323, tw_1, ⟨by decide +kernel, by decide +kernel⟩, by decide +kernel⟩
theorem ml_X8_run : ML yX8_run cX8_run 6 (Option.some Jvm.ClassFile.FieldType.int) 0 := ⟨tw_327, tw_1, ⟨by decide +kernel, by decide +kernel⟩, by decide +kernel⟩
theorem ml_X5_copyFrom : ML yX5_copyFrom cX5_copyFrom 3 (Option.none : Option Jvm.ClassFile.FieldType) 1 := ⟨tw_331, tw_7, ⟨by decide +kernel, by decide +kernel⟩, by decide +kernel⟩
theorem ml_X5_beginAt : ML yX5_beginAt cX5_beginAt 2 (Option.some Jvm.ClassFile.FieldType.int) 1 := ⟨tw_338, tw_7, ⟨by decide +kernel, by decide +kernel⟩, by decide +kernel⟩
theorem ml_X5_endAt : ML yX5_endAt cX5_endAt 2 (Option.some Jvm.ClassFile.FieldType.int) 1 := ⟨tw_342, tw_7, ⟨by decide +kernel, by decide +kernel⟩, by decide +kernel⟩
theorem ml_X0_beginRun : ML yX0_beginRun cX0_beginRun 1 (Option.none : Option Jvm.ClassFile.FieldType) 0 := ⟨tw_347, tw_13, ⟨by decide +kernel, by decide +kernel⟩, by decide +kernel⟩
theorem ml_X8_passThrough : ML yX8_passThrough cX8_passThrough 4 (Option.some Jvm.ClassFile.FieldType.boolean) 3 := ⟨tw_350, tw_1, ⟨by decide +kernel, by decide +kernel⟩, by decide +kernel⟩
theorem ml_X8_passFolding : ML yX8_passFolding cX8_passFolding 9 (Option.some Jvm.ClassFile.FieldType.boolean) 3 := ⟨tw_353, tw_1, ⟨by decide +kernel, by decide +kernel⟩, by decide +kernel⟩
theorem ml_X0_meetOne : ML yX0_meetOne cX0_meetOne 1 (Option.none : Option Jvm.ClassFile.FieldType) 0 := ⟨tw_361, tw_13, ⟨by decide +kernel, by decide +kernel⟩, by decide +kernel⟩
theorem ml_X1_unitsAt : ML yX1_unitsAt cX1_unitsAt 4 (Option.some Jvm.ClassFile.FieldType.int) 1 := ⟨tw_365, tw_2, ⟨by decide +kernel, by decide +kernel⟩, by decide +kernel⟩
theorem ml_X1_lengthAt : ML yX1_lengthAt cX1_lengthAt 3 (Option.some Jvm.ClassFile.FieldType.int) 1 := ⟨tw_369, tw_2, ⟨by decide +kernel, by decide +kernel⟩, by decide +kernel⟩
theorem ml_X1_partAt : ML yX1_partAt cX1_partAt 3 (Option.some Jvm.ClassFile.FieldType.int) 2 := ⟨tw_373, tw_2, ⟨by decide +kernel, by decide +kernel⟩, by decide +kernel⟩
theorem ml_X8_unitsOf : ML yX8_unitsOf cX8_unitsOf 1 (Option.some Jvm.ClassFile.FieldType.int) 1 := ⟨tw_375, tw_1, ⟨by decide +kernel, by decide +kernel⟩, by decide +kernel⟩
theorem ml_X0_growBy : ML yX0_growBy cX0_growBy 2 (Option.none : Option Jvm.ClassFile.FieldType) 1 := ⟨tw_380, tw_13, ⟨by decide +kernel, by decide +kernel⟩, by decide +kernel⟩
theorem ml_X8_passComposing : ML yX8_passComposing cX8_passComposing 7 (Option.some Jvm.ClassFile.FieldType.boolean) 3 := ⟨tw_385, tw_1, ⟨by decide +kernel, by decide +kernel⟩, by decide +kernel⟩
theorem ml_X2_signAt : ML yX2_signAt cX2_signAt 2 (Option.some Jvm.ClassFile.FieldType.int) 1 := ⟨tw_390, tw_3, ⟨by decide +kernel, by decide +kernel⟩, by decide +kernel⟩
theorem ml_X5_changeLast : ML yX5_changeLast cX5_changeLast 3 (Option.none : Option Jvm.ClassFile.FieldType) 2 := ⟨tw_394, tw_7, ⟨by decide +kernel, by decide +kernel⟩, by decide +kernel⟩
theorem ml_X8_passDigits : ML yX8_passDigits cX8_passDigits 8 (Option.some Jvm.ClassFile.FieldType.boolean) 3 := ⟨tw_397, tw_1, ⟨by decide +kernel, by decide +kernel⟩, by decide +kernel⟩
theorem ml_X7_digitOf : ML yX7_digitOf cX7_digitOf 3 (Option.some Jvm.ClassFile.FieldType.int) 1 := ⟨tw_401, tw_4, ⟨by decide +kernel, by decide +kernel⟩, by decide +kernel⟩
theorem ml_X8_passDropping : ML yX8_passDropping cX8_passDropping 6 (Option.some Jvm.ClassFile.FieldType.boolean) 3 := ⟨tw_404, tw_1, ⟨by decide +kernel, by decide +kernel⟩, by decide +kernel⟩
theorem ml_X3_holds : ML yX3_holds cX3_holds 3 (Option.some Jvm.ClassFile.FieldType.boolean) 1 := ⟨tw_408, tw_5, ⟨by decide +kernel, by decide +kernel⟩, by decide +kernel⟩
theorem ml_X8_passReplacing : ML yX8_passReplacing cX8_passReplacing 8 (Option.some Jvm.ClassFile.FieldType.boolean) 3 := ⟨tw_411, tw_1, ⟨by decide +kernel, by decide +kernel⟩, by decide +kernel⟩
theorem ml_X6_longestAt : ML yX6_longestAt cX6_longestAt 6 (Option.some (Jvm.ClassFile.FieldType.object "SignTables$Replacement")) 2 := ⟨tw_415, tw_6, ⟨by decide +kernel, by decide +kernel⟩, by decide +kernel⟩
theorem ml_X4_writeTo : ML yX4_writeTo cX4_writeTo 6 (Option.some Jvm.ClassFile.FieldType.boolean) 3 := ⟨tw_420, tw_9, ⟨by decide +kernel, by decide +kernel⟩, by decide +kernel⟩
theorem ml_X8_passHalves : ML yX8_passHalves cX8_passHalves 8 (Option.some Jvm.ClassFile.FieldType.boolean) 3 := ⟨tw_424, tw_1, ⟨by decide +kernel, by decide +kernel⟩, by decide +kernel⟩
theorem ml_X8_passWidths : ML yX8_passWidths cX8_passWidths 8 (Option.some Jvm.ClassFile.FieldType.boolean) 3 := ⟨tw_428, tw_1, ⟨by decide +kernel, by decide +kernel⟩, by decide +kernel⟩
theorem ml_X8_narrowed : ML yX8_narrowed cX8_narrowed 1 (Option.some Jvm.ClassFile.FieldType.int) 1 := ⟨tw_431, tw_1, ⟨by decide +kernel, by decide +kernel⟩, by decide +kernel⟩
theorem ml_X8_settleFilters : ML yX8_settleFilters cX8_settleFilters 3 (Option.none : Option Jvm.ClassFile.FieldType) 0 := ⟨tw_437, tw_1, ⟨by decide +kernel, by decide +kernel⟩, by decide +kernel⟩
theorem ml_X0_settleRun : ML yX0_settleRun cX0_settleRun 1 (Option.none : Option Jvm.ClassFile.FieldType) 0 := ⟨tw_441, tw_13, ⟨by decide +kernel, by decide +kernel⟩, by decide +kernel⟩
theorem ml_X8_sign : ML yX8_sign cX8_sign 2 (Option.some Jvm.ClassFile.FieldType.int) 1 := ⟨tw_445, tw_1, ⟨by decide +kernel, by decide +kernel⟩, by decide +kernel⟩
theorem ml_X8_place : ML yX8_place cX8_place 3 (Option.some Jvm.ClassFile.FieldType.int) 2 := ⟨tw_450, tw_1, ⟨by decide +kernel, by decide +kernel⟩, by decide +kernel⟩
theorem ml_X8_unitAt : ML yX8_unitAt cX8_unitAt 6 (Option.some Jvm.ClassFile.FieldType.int) 1 := ⟨tw_454, tw_1, ⟨by decide +kernel, by decide +kernel⟩, by decide +kernel⟩
theorem ml_X8_unitOf : ML yX8_unitOf cX8_unitOf 3 (Option.some Jvm.ClassFile.FieldType.int) 2 := ⟨tw_457, tw_1, ⟨by decide +kernel, by decide +kernel⟩, by decide +kernel⟩
theorem ml_X8_units : ML yX8_units cX8_units 3 (Option.some Jvm.ClassFile.FieldType.int) 0 := ⟨tw_461, tw_1, ⟨by decide +kernel, by decide +kernel⟩, by decide +kernel⟩
theorem ml_X8_broken : ML yX8_broken cX8_broken 5 (Option.some Jvm.ClassFile.FieldType.int) 1 := ⟨tw_465, tw_1, ⟨by decide +kernel, by decide +kernel⟩, by decide +kernel⟩
theorem ml_X8_classOf : ML yX8_classOf cX8_classOf 1 (Option.some Jvm.ClassFile.FieldType.int) 1 := ⟨tw_468, tw_1, ⟨by decide +kernel, by decide +kernel⟩, by decide +kernel⟩
theorem ml_X8_met : ML yX8_met cX8_met 3 (Option.some Jvm.ClassFile.FieldType.int) 1 := ⟨tw_472, tw_1, ⟨by decide +kernel, by decide +kernel⟩, by decide +kernel⟩
theorem ml_X8_grown : ML yX8_grown cX8_grown 3 (Option.some Jvm.ClassFile.FieldType.int) 1 := ⟨tw_476, tw_1, ⟨by decide +kernel, by decide +kernel⟩, by decide +kernel⟩
theorem ml_X8_table : ML yX8_table cX8_table 2 (Option.some Jvm.ClassFile.FieldType.int) 1 := ⟨tw_480, tw_1, ⟨by decide +kernel, by decide +kernel⟩, by decide +kernel⟩
theorem ml_X8_digit : ML yX8_digit cX8_digit 2 (Option.some Jvm.ClassFile.FieldType.int) 1 := ⟨tw_484, tw_1, ⟨by decide +kernel, by decide +kernel⟩, by decide +kernel⟩
theorem ml_X8_count : ML yX8_count cX8_count 2 (Option.some Jvm.ClassFile.FieldType.int) 1 := ⟨tw_488, tw_1, ⟨by decide +kernel, by decide +kernel⟩, by decide +kernel⟩
theorem ml_X8_filtersInChain : ML yX8_filtersInChain cX8_filtersInChain 3 (Option.some Jvm.ClassFile.FieldType.int) 0 := ⟨tw_491, tw_1, ⟨by decide +kernel, by decide +kernel⟩, by decide +kernel⟩
theorem ml_X9_init : ML yX9_init cX9_init 1 (Option.none : Option Jvm.ClassFile.FieldType) 0 := ⟨tw_496, tw_8, ⟨by decide +kernel, by decide +kernel⟩, by decide +kernel⟩
theorem ml_X9_unit : ML yX9_unit cX9_unit 2 (Option.some Jvm.ClassFile.FieldType.int) 1 := ⟨tw_587, tw_8, ⟨by decide +kernel, by decide +kernel⟩, by decide +kernel⟩
theorem ml_X9_mark : ML yX9_mark cX9_mark 1 (Option.some Jvm.ClassFile.FieldType.int) 0 := ⟨tw_592, tw_8, ⟨by decide +kernel, by decide +kernel⟩, by decide +kernel⟩
theorem ml_X9_text : ML yX9_text cX9_text 2 (Option.some Jvm.ClassFile.FieldType.int) 0 := ⟨tw_596, tw_8, ⟨by decide +kernel, by decide +kernel⟩, by decide +kernel⟩
theorem ml_X9_signAt : ML yX9_signAt cX9_signAt 3 (Option.some Jvm.ClassFile.FieldType.int) 2 := ⟨tw_599, tw_8, ⟨by decide +kernel, by decide +kernel⟩, by decide +kernel⟩
theorem ml_X9_isTwo : ML yX9_isTwo cX9_isTwo 3 (Option.some Jvm.ClassFile.FieldType.boolean) 2 := ⟨tw_602, tw_8, ⟨by decide +kernel, by decide +kernel⟩, by decide +kernel⟩
theorem ml_X9_isHigh : ML yX9_isHigh cX9_isHigh 1 (Option.some Jvm.ClassFile.FieldType.boolean) 1 := ⟨tw_605, tw_8, ⟨by decide +kernel, by decide +kernel⟩, by decide +kernel⟩
theorem ml_X9_isIn : ML yX9_isIn cX9_isIn 3 (Option.some Jvm.ClassFile.FieldType.boolean) 3 := ⟨tw_610, tw_8, ⟨by decide +kernel, by decide +kernel⟩, by decide +kernel⟩
theorem ml_X9_isLow : ML yX9_isLow cX9_isLow 1 (Option.some Jvm.ClassFile.FieldType.boolean) 1 := ⟨tw_613, tw_8, ⟨by decide +kernel, by decide +kernel⟩, by decide +kernel⟩
theorem ml_X9_emptyDraft : ML yX9_emptyDraft cX9_emptyDraft 1 (Option.none : Option Jvm.ClassFile.FieldType) 0 := ⟨tw_619, tw_8, ⟨by decide +kernel, by decide +kernel⟩, by decide +kernel⟩
theorem ml_X9_string : ML yX9_string cX9_string 3 (Option.some Jvm.ClassFile.FieldType.int) 0 := ⟨tw_623, tw_8, ⟨by decide +kernel, by decide +kernel⟩, by decide +kernel⟩
theorem ml_X9_signsOf : ML yX9_signsOf cX9_signsOf 7 (Option.some Jvm.ClassFile.FieldType.int) 4 := ⟨tw_626, tw_8, ⟨by decide +kernel, by decide +kernel⟩, by decide +kernel⟩
theorem ml_X9_isSameRow : ML yX9_isSameRow cX9_isSameRow 5 (Option.some Jvm.ClassFile.FieldType.boolean) 2 := ⟨tw_629, tw_8, ⟨by decide +kernel, by decide +kernel⟩, by decide +kernel⟩
theorem ml_X9_fold : ML yX9_fold cX9_fold 6 (Option.some Jvm.ClassFile.FieldType.int) 4 := ⟨tw_633, tw_8, ⟨by decide +kernel, by decide +kernel⟩, by decide +kernel⟩
theorem ml_X9_isSign : ML yX9_isSign cX9_isSign 1 (Option.some Jvm.ClassFile.FieldType.boolean) 1 := ⟨tw_636, tw_8, ⟨by decide +kernel, by decide +kernel⟩, by decide +kernel⟩
theorem ml_X9_isSignOrNone : ML yX9_isSignOrNone cX9_isSignOrNone 1 (Option.some Jvm.ClassFile.FieldType.boolean) 1 := ⟨tw_640, tw_8, ⟨by decide +kernel, by decide +kernel⟩, by decide +kernel⟩
theorem ml_X9_foldAt : ML yX9_foldAt cX9_foldAt 4 (Option.some Jvm.ClassFile.FieldType.int) 1 := ⟨tw_643, tw_8, ⟨by decide +kernel, by decide +kernel⟩, by decide +kernel⟩
theorem ml_X9_pair : ML yX9_pair cX9_pair 5 (Option.some Jvm.ClassFile.FieldType.int) 3 := ⟨tw_647, tw_8, ⟨by decide +kernel, by decide +kernel⟩, by decide +kernel⟩
theorem ml_X9_pairAt : ML yX9_pairAt cX9_pairAt 5 (Option.some Jvm.ClassFile.FieldType.int) 2 := ⟨tw_650, tw_8, ⟨by decide +kernel, by decide +kernel⟩, by decide +kernel⟩
theorem ml_X9_zero : ML yX9_zero cX9_zero 2 (Option.some Jvm.ClassFile.FieldType.int) 1 := ⟨tw_654, tw_8, ⟨by decide +kernel, by decide +kernel⟩, by decide +kernel⟩
theorem ml_X9_range : ML yX9_range cX9_range 3 (Option.some Jvm.ClassFile.FieldType.int) 2 := ⟨tw_659, tw_8, ⟨by decide +kernel, by decide +kernel⟩, by decide +kernel⟩
theorem ml_X9_filter : ML yX9_filter cX9_filter 3 (Option.some Jvm.ClassFile.FieldType.int) 2 := ⟨tw_663, tw_8, ⟨by decide +kernel, by decide +kernel⟩, by decide +kernel⟩
theorem ml_X9_isPlace : ML yX9_isPlace cX9_isPlace 1 (Option.some Jvm.ClassFile.FieldType.boolean) 1 := ⟨tw_666, tw_8, ⟨by decide +kernel, by decide +kernel⟩, by decide +kernel⟩
theorem ml_X9_drop : ML yX9_drop cX9_drop 3 (Option.some Jvm.ClassFile.FieldType.int) 1 := ⟨tw_670, tw_8, ⟨by decide +kernel, by decide +kernel⟩, by decide +kernel⟩
theorem ml_X9_rule : ML yX9_rule cX9_rule 4 (Option.some Jvm.ClassFile.FieldType.int) 2 := ⟨tw_674, tw_8, ⟨by decide +kernel, by decide +kernel⟩, by decide +kernel⟩
theorem ml_X9_run : ML yX9_run cX9_run 2 (Option.some Jvm.ClassFile.FieldType.int) 0 := ⟨tw_678, tw_8, ⟨by decide +kernel, by decide +kernel⟩, by decide +kernel⟩
theorem ml_X9_goesThrough : ML yX9_goesThrough cX9_goesThrough 4 (Option.some Jvm.ClassFile.FieldType.boolean) 1 := ⟨tw_681, tw_8, ⟨by decide +kernel, by decide +kernel⟩, by decide +kernel⟩
theorem ml_X9_folding : ML yX9_folding cX9_folding 5 (Option.none : Option Jvm.ClassFile.FieldType) 2 := ⟨tw_684, tw_8, ⟨by decide +kernel, by decide +kernel⟩, by decide +kernel⟩
theorem ml_X9_lay : ML yX9_lay cX9_lay 4 (Option.none : Option Jvm.ClassFile.FieldType) 3 := ⟨tw_687, tw_8, ⟨by decide +kernel, by decide +kernel⟩, by decide +kernel⟩
theorem ml_X9_unitsOf : ML yX9_unitsOf cX9_unitsOf 1 (Option.some Jvm.ClassFile.FieldType.int) 1 := ⟨tw_690, tw_8, ⟨by decide +kernel, by decide +kernel⟩, by decide +kernel⟩
theorem ml_X9_composing : ML yX9_composing cX9_composing 4 (Option.none : Option Jvm.ClassFile.FieldType) 2 := ⟨tw_693, tw_8, ⟨by decide +kernel, by decide +kernel⟩, by decide +kernel⟩
theorem ml_X9_replacing : ML yX9_replacing cX9_replacing 6 (Option.some Jvm.ClassFile.FieldType.int) 2 := ⟨tw_696, tw_8, ⟨by decide +kernel, by decide +kernel⟩, by decide +kernel⟩
theorem ml_X9_stringAt : ML yX9_stringAt cX9_stringAt 6 (Option.some Jvm.ClassFile.FieldType.int) 1 := ⟨tw_699, tw_8, ⟨by decide +kernel, by decide +kernel⟩, by decide +kernel⟩
theorem ml_X9_changed : ML yX9_changed cX9_changed 7 (Option.none : Option Jvm.ClassFile.FieldType) 2 := ⟨tw_702, tw_8, ⟨by decide +kernel, by decide +kernel⟩, by decide +kernel⟩
theorem ml_X9_digitOf : ML yX9_digitOf cX9_digitOf 4 (Option.some Jvm.ClassFile.FieldType.int) 1 := ⟨tw_705, tw_8, ⟨by decide +kernel, by decide +kernel⟩, by decide +kernel⟩
theorem ml_X9_isDropped : ML yX9_isDropped cX9_isDropped 4 (Option.some Jvm.ClassFile.FieldType.boolean) 1 := ⟨tw_708, tw_8, ⟨by decide +kernel, by decide +kernel⟩, by decide +kernel⟩
theorem ml_X9_sign : ML yX9_sign cX9_sign 2 (Option.some Jvm.ClassFile.FieldType.int) 1 := ⟨tw_716, tw_8, ⟨by decide +kernel, by decide +kernel⟩, by decide +kernel⟩
theorem ml_X9_isOut : ML yX9_isOut cX9_isOut 2 (Option.some Jvm.ClassFile.FieldType.boolean) 1 := ⟨tw_719, tw_8, ⟨by decide +kernel, by decide +kernel⟩, by decide +kernel⟩
theorem ml_X9_place : ML yX9_place cX9_place 3 (Option.some Jvm.ClassFile.FieldType.int) 2 := ⟨tw_723, tw_8, ⟨by decide +kernel, by decide +kernel⟩, by decide +kernel⟩
theorem ml_X9_units : ML yX9_units cX9_units 3 (Option.some Jvm.ClassFile.FieldType.int) 0 := ⟨tw_727, tw_8, ⟨by decide +kernel, by decide +kernel⟩, by decide +kernel⟩
theorem ml_X9_unitAt : ML yX9_unitAt cX9_unitAt 6 (Option.some Jvm.ClassFile.FieldType.int) 1 := ⟨tw_731, tw_8, ⟨by decide +kernel, by decide +kernel⟩, by decide +kernel⟩
theorem ml_X9_broken : ML yX9_broken cX9_broken 4 (Option.some Jvm.ClassFile.FieldType.int) 1 := ⟨tw_735, tw_8, ⟨by decide +kernel, by decide +kernel⟩, by decide +kernel⟩
theorem ml_X9_classOf : ML yX9_classOf cX9_classOf 1 (Option.some Jvm.ClassFile.FieldType.int) 1 := ⟨tw_738, tw_8, ⟨by decide +kernel, by decide +kernel⟩, by decide +kernel⟩
theorem ml_X9_met : ML yX9_met cX9_met 2 (Option.some Jvm.ClassFile.FieldType.int) 1 := ⟨tw_742, tw_8, ⟨by decide +kernel, by decide +kernel⟩, by decide +kernel⟩
theorem ml_X9_grown : ML yX9_grown cX9_grown 2 (Option.some Jvm.ClassFile.FieldType.int) 1 := ⟨tw_746, tw_8, ⟨by decide +kernel, by decide +kernel⟩, by decide +kernel⟩
theorem ml_X9_table : ML yX9_table cX9_table 2 (Option.some Jvm.ClassFile.FieldType.int) 1 := ⟨tw_750, tw_8, ⟨by decide +kernel, by decide +kernel⟩, by decide +kernel⟩
theorem ml_X9_digit : ML yX9_digit cX9_digit 2 (Option.some Jvm.ClassFile.FieldType.int) 1 := ⟨tw_754, tw_8, ⟨by decide +kernel, by decide +kernel⟩, by decide +kernel⟩
theorem ml_X9_count : ML yX9_count cX9_count 4 (Option.some Jvm.ClassFile.FieldType.int) 1 := ⟨tw_758, tw_8, ⟨by decide +kernel, by decide +kernel⟩, by decide +kernel⟩
theorem lk_L_9 : IL RL 9 yX8_init := ⟨tw_16, tw_17, rfl⟩
theorem lk_L_13 : VL RL 13 yX8_unit := ⟨tw_121, tw_122, tw_123⟩
theorem lk_L_18 : VL RL 18 yX8_mark := ⟨tw_126, tw_127, tw_128⟩
theorem lk_L_23 : VL RL 23 yX8_text := ⟨tw_130, tw_131, tw_132⟩
theorem lk_X8_78 : VL RX8 78 yX8_readSigns := ⟨tw_134, tw_135, tw_759⟩
theorem lk_X8_190 : VL RX8 190 yX5_clear := ⟨tw_137, tw_138, tw_139⟩
theorem lk_X8_193 : SL RX8 193 yX8_isHigh := ⟨tw_141, tw_142⟩
theorem lk_X8_196 : SL RX8 196 yX8_isLow := ⟨tw_146, tw_147⟩
theorem lk_X8_199 : VL RX8 199 yX5_add := ⟨tw_151, tw_152, tw_153⟩
theorem lk_X8_82 : VL RX8 82 yX8_emptyDraft := ⟨tw_155, tw_156, tw_760⟩
theorem lk_X8_85 : VL RX8 85 yX5_size := ⟨tw_158, tw_159, tw_160⟩
theorem lk_L_27 : VL RL 27 yX8_string := ⟨tw_162, tw_163, tw_164⟩
theorem lk_X8_89 : VL RX8 89 yX6_put := ⟨tw_166, tw_167, tw_168⟩
theorem lk_X6_21 : VL RX6 21 yX6_slotOf := ⟨tw_170, tw_171, tw_761⟩
theorem lk_X6_28 : VL RX6 28 yX4_length := ⟨tw_173, tw_174, tw_175⟩
theorem lk_X6_32 : VL RX6 32 yX5_size := ⟨tw_177, tw_159, tw_160⟩
theorem lk_X6_36 : VL RX6 36 yX4_standsAt := ⟨tw_178, tw_179, tw_180⟩
theorem lk_X4_22 : VL RX4 22 yX5_size := ⟨tw_182, tw_159, tw_160⟩
theorem lk_X4_26 : VL RX4 26 yX5_signAt := ⟨tw_183, tw_184, tw_185⟩
theorem lk_X5_25 : VL RX5 25 yX5_has := ⟨tw_187, tw_188, tw_189⟩
theorem lk_X6_25 : IL RX6 25 yX4_init := ⟨tw_192, tw_193, rfl⟩
theorem lk_X4_7 : VL RX4 7 yX5_signsAlone := ⟨tw_196, tw_197, tw_198⟩
theorem lk_X5_49 : SL RX5 49 yJ7_copyOf_59c91 := ⟨tw_200, tw_201⟩
theorem lk_J7_304 : SL RJ7 304 yJ9_min_7cf53 := ⟨tw_207, tw_208⟩
theorem lk_X8_93 : VL RX8 93 yX6_size := ⟨tw_217, tw_218, tw_219⟩
theorem lk_L_31 : VL RL 31 yX8_fold := ⟨tw_221, tw_222, tw_223⟩
theorem lk_X8_94 : SL RX8 94 yX8_isSign := ⟨tw_225, tw_226⟩
theorem lk_X8_98 : SL RX8 98 yX8_isFoldRow := ⟨tw_229, tw_230⟩
theorem lk_X8_180 : SL RX8 180 yX8_isSignOrNone := ⟨tw_232, tw_233⟩
theorem lk_X8_102 : VL RX8 102 yX1_put := ⟨tw_235, tw_236, tw_237⟩
theorem lk_X1_28 : VL RX1 28 yX1_slotOf := ⟨tw_239, tw_240, tw_241⟩
theorem lk_X8_105 : VL RX8 105 yX1_size := ⟨tw_243, tw_244, tw_245⟩
theorem lk_L_36 : VL RL 36 yX8_pair := ⟨tw_247, tw_248, tw_249⟩
theorem lk_X8_106 : VL RX8 106 yX2_put := ⟨tw_251, tw_252, tw_253⟩
theorem lk_X2_25 : VL RX2 25 yX2_slotOf := ⟨tw_255, tw_256, tw_257⟩
theorem lk_X8_108 : VL RX8 108 yX2_size := ⟨tw_259, tw_260, tw_261⟩
theorem lk_L_41 : VL RL 41 yX8_zero := ⟨tw_263, tw_264, tw_265⟩
theorem lk_X8_110 : VL RX8 110 yX7_add := ⟨tw_268, tw_269, tw_270⟩
theorem lk_X8_113 : VL RX8 113 yX7_size := ⟨tw_272, tw_273, tw_274⟩
theorem lk_L_45 : VL RL 45 yX8_range := ⟨tw_276, tw_277, tw_278⟩
theorem lk_X8_114 : VL RX8 114 yX3_add := ⟨tw_280, tw_281, tw_282⟩
theorem lk_X8_117 : VL RX8 117 yX3_size := ⟨tw_284, tw_285, tw_286⟩
theorem lk_L_50 : VL RL 50 yX8_filter := ⟨tw_288, tw_289, tw_290⟩
theorem lk_X8_118 : SL RX8 118 yX8_isPlace := ⟨tw_292, tw_293⟩
theorem lk_X8_121 : IL RX8 121 yX0_init := ⟨tw_296, tw_297, rfl⟩
theorem lk_L_54 : VL RL 54 yX8_drop := ⟨tw_316, tw_317, tw_318⟩
theorem lk_L_58 : VL RL 58 yX8_rule := ⟨tw_320, tw_321, tw_322⟩
theorem lk_L_62 : VL RL 62 yX8_run := ⟨tw_324, tw_325, tw_326⟩
theorem lk_X8_130 : VL RX8 130 yX5_copyFrom := ⟨tw_328, tw_329, tw_330⟩
theorem lk_X5_29 : VL RX5 29 yX5_clear := ⟨tw_332, tw_138, tw_139⟩
theorem lk_X5_32 : VL RX5 32 yX5_size := ⟨tw_333, tw_159, tw_160⟩
theorem lk_X5_35 : VL RX5 35 yX5_signAt := ⟨tw_334, tw_184, tw_185⟩
theorem lk_X5_39 : VL RX5 39 yX5_beginAt := ⟨tw_335, tw_336, tw_337⟩
theorem lk_X5_42 : VL RX5 42 yX5_endAt := ⟨tw_339, tw_340, tw_341⟩
theorem lk_X5_45 : VL RX5 45 yX5_add := ⟨tw_343, tw_152, tw_153⟩
theorem lk_X8_134 : VL RX8 134 yX0_beginRun := ⟨tw_344, tw_345, tw_346⟩
theorem lk_X8_137 : VL RX8 137 yX8_passThrough := ⟨tw_348, tw_349, tw_762⟩
theorem lk_X8_204 : VL RX8 204 yX8_passFolding := ⟨tw_351, tw_352, tw_763⟩
theorem lk_X8_147 : VL RX8 147 yX5_signAt := ⟨tw_354, tw_184, tw_185⟩
theorem lk_X8_225 : VL RX8 225 yX1_slotOf := ⟨tw_355, tw_240, tw_241⟩
theorem lk_X8_154 : VL RX8 154 yX5_beginAt := ⟨tw_356, tw_336, tw_337⟩
theorem lk_X8_151 : VL RX8 151 yX5_endAt := ⟨tw_357, tw_340, tw_341⟩
theorem lk_X8_228 : VL RX8 228 yX0_meetOne := ⟨tw_358, tw_359, tw_360⟩
theorem lk_X8_231 : VL RX8 231 yX1_unitsAt := ⟨tw_362, tw_363, tw_364⟩
theorem lk_X1_36 : VL RX1 36 yX1_lengthAt := ⟨tw_366, tw_367, tw_368⟩
theorem lk_X1_32 : VL RX1 32 yX1_partAt := ⟨tw_370, tw_371, tw_372⟩
theorem lk_X8_157 : SL RX8 157 yX8_unitsOf := ⟨tw_376, tw_374⟩
theorem lk_X8_234 : VL RX8 234 yX0_growBy := ⟨tw_377, tw_378, tw_379⟩
theorem lk_X8_237 : VL RX8 237 yX1_lengthAt := ⟨tw_381, tw_367, tw_368⟩
theorem lk_X8_240 : VL RX8 240 yX1_partAt := ⟨tw_382, tw_371, tw_372⟩
theorem lk_X8_207 : VL RX8 207 yX8_passComposing := ⟨tw_383, tw_384, tw_764⟩
theorem lk_X8_243 : VL RX8 243 yX2_slotOf := ⟨tw_386, tw_256, tw_257⟩
theorem lk_X8_245 : VL RX8 245 yX2_signAt := ⟨tw_387, tw_388, tw_389⟩
theorem lk_X8_246 : VL RX8 246 yX5_changeLast := ⟨tw_391, tw_392, tw_393⟩
theorem lk_X8_210 : VL RX8 210 yX8_passDigits := ⟨tw_395, tw_396, tw_765⟩
theorem lk_X8_173 : VL RX8 173 yX7_digitOf := ⟨tw_398, tw_399, tw_400⟩
theorem lk_X8_213 : VL RX8 213 yX8_passDropping := ⟨tw_402, tw_403, tw_766⟩
theorem lk_X8_250 : VL RX8 250 yX3_holds := ⟨tw_405, tw_406, tw_407⟩
theorem lk_X8_216 : VL RX8 216 yX8_passReplacing := ⟨tw_409, tw_410, tw_767⟩
theorem lk_X8_253 : VL RX8 253 yX6_longestAt := ⟨tw_412, tw_413, tw_414⟩
theorem lk_X8_257 : VL RX8 257 yX4_length := ⟨tw_416, tw_174, tw_175⟩
theorem lk_X8_262 : VL RX8 262 yX4_writeTo := ⟨tw_417, tw_418, tw_419⟩
theorem lk_X4_30 : VL RX4 30 yX5_add := ⟨tw_421, tw_152, tw_153⟩
theorem lk_X8_219 : VL RX8 219 yX8_passHalves := ⟨tw_422, tw_423, tw_768⟩
theorem lk_X8_222 : VL RX8 222 yX8_passWidths := ⟨tw_426, tw_427, tw_769⟩
theorem lk_X8_267 : SL RX8 267 yX8_narrowed := ⟨tw_429, tw_430⟩
theorem lk_X8_141 : VL RX8 141 yX8_settleFilters := ⟨tw_435, tw_436, tw_770⟩
theorem lk_X8_201 : VL RX8 201 yX0_settleRun := ⟨tw_438, tw_439, tw_440⟩
theorem lk_L_66 : VL RL 66 yX8_sign := ⟨tw_442, tw_443, tw_444⟩
theorem lk_X8_144 : VL RX8 144 yX5_has := ⟨tw_446, tw_188, tw_189⟩
theorem lk_L_70 : VL RL 70 yX8_place := ⟨tw_447, tw_448, tw_449⟩
theorem lk_L_75 : VL RL 75 yX8_unitAt := ⟨tw_451, tw_452, tw_453⟩
theorem lk_X8_160 : SL RX8 160 yX8_unitOf := ⟨tw_455, tw_456⟩
theorem lk_L_79 : VL RL 79 yX8_units := ⟨tw_458, tw_459, tw_460⟩
theorem lk_L_83 : VL RL 83 yX8_broken := ⟨tw_462, tw_463, tw_464⟩
theorem lk_X8_164 : SL RX8 164 yX8_classOf := ⟨tw_466, tw_467⟩
theorem lk_L_87 : VL RL 87 yX8_met := ⟨tw_469, tw_470, tw_471⟩
theorem lk_L_91 : VL RL 91 yX8_grown := ⟨tw_473, tw_474, tw_475⟩
theorem lk_L_95 : VL RL 95 yX8_table := ⟨tw_477, tw_478, tw_479⟩
theorem lk_L_99 : VL RL 99 yX8_digit := ⟨tw_481, tw_482, tw_483⟩
theorem lk_L_103 : VL RL 103 yX8_count := ⟨tw_485, tw_486, tw_487⟩
theorem lk_X8_176 : VL RX8 176 yX8_filtersInChain := ⟨tw_489, tw_490, tw_771⟩
theorem lk_L_12 : IL RL 12 yX9_init := ⟨tw_494, tw_495, rfl⟩
theorem lk_L_17 : VL RL 17 yX9_unit := ⟨tw_584, tw_585, tw_586⟩
theorem lk_L_22 : VL RL 22 yX9_mark := ⟨tw_589, tw_590, tw_591⟩
theorem lk_L_26 : VL RL 26 yX9_text := ⟨tw_593, tw_594, tw_595⟩
theorem lk_X9_138 : VL RX9 138 yX9_signAt := ⟨tw_597, tw_598, tw_772⟩
theorem lk_X9_130 : VL RX9 130 yX9_isTwo := ⟨tw_600, tw_601, tw_773⟩
theorem lk_X9_123 : SL RX9 123 yX9_isHigh := ⟨tw_603, tw_604⟩
theorem lk_X9_111 : SL RX9 111 yX9_isIn := ⟨tw_608, tw_609⟩
theorem lk_X9_127 : SL RX9 127 yX9_isLow := ⟨tw_611, tw_612⟩
theorem lk_X9_142 : VL RX9 142 yX9_emptyDraft := ⟨tw_617, tw_618, tw_774⟩
theorem lk_L_30 : VL RL 30 yX9_string := ⟨tw_620, tw_621, tw_622⟩
theorem lk_X9_145 : VL RX9 145 yX9_signsOf := ⟨tw_624, tw_625, tw_775⟩
theorem lk_X9_152 : VL RX9 152 yX9_isSameRow := ⟨tw_627, tw_628, tw_776⟩
theorem lk_L_35 : VL RL 35 yX9_fold := ⟨tw_630, tw_631, tw_632⟩
theorem lk_X9_158 : SL RX9 158 yX9_isSign := ⟨tw_634, tw_635⟩
theorem lk_X9_161 : SL RX9 161 yX9_isSignOrNone := ⟨tw_638, tw_639⟩
theorem lk_X9_164 : VL RX9 164 yX9_foldAt := ⟨tw_641, tw_642, tw_777⟩
theorem lk_L_40 : VL RL 40 yX9_pair := ⟨tw_644, tw_645, tw_646⟩
theorem lk_X9_171 : VL RX9 171 yX9_pairAt := ⟨tw_648, tw_649, tw_778⟩
theorem lk_L_44 : VL RL 44 yX9_zero := ⟨tw_651, tw_652, tw_653⟩
theorem lk_L_49 : VL RL 49 yX9_range := ⟨tw_656, tw_657, tw_658⟩
theorem lk_L_53 : VL RL 53 yX9_filter := ⟨tw_660, tw_661, tw_662⟩
theorem lk_X9_181 : SL RX9 181 yX9_isPlace := ⟨tw_664, tw_665⟩
theorem lk_L_57 : VL RL 57 yX9_drop := ⟨tw_667, tw_668, tw_669⟩
theorem lk_L_61 : VL RL 61 yX9_rule := ⟨tw_671, tw_672, tw_673⟩
theorem lk_L_65 : VL RL 65 yX9_run := ⟨tw_675, tw_676, tw_677⟩
theorem lk_X9_223 : VL RX9 223 yX9_goesThrough := ⟨tw_679, tw_680, tw_779⟩
theorem lk_X9_210 : VL RX9 210 yX9_folding := ⟨tw_682, tw_683, tw_780⟩
theorem lk_X9_187 : VL RX9 187 yX9_lay := ⟨tw_685, tw_686, tw_781⟩
theorem lk_X9_191 : SL RX9 191 yX9_unitsOf := ⟨tw_688, tw_689⟩
theorem lk_X9_214 : VL RX9 214 yX9_composing := ⟨tw_691, tw_692, tw_782⟩
theorem lk_X9_217 : VL RX9 217 yX9_replacing := ⟨tw_694, tw_695, tw_783⟩
theorem lk_X9_197 : VL RX9 197 yX9_stringAt := ⟨tw_697, tw_698, tw_784⟩
theorem lk_X9_220 : VL RX9 220 yX9_changed := ⟨tw_700, tw_701, tw_785⟩
theorem lk_X9_200 : VL RX9 200 yX9_digitOf := ⟨tw_703, tw_704, tw_786⟩
theorem lk_X9_203 : VL RX9 203 yX9_isDropped := ⟨tw_706, tw_707, tw_787⟩
theorem lk_L_69 : VL RL 69 yX9_sign := ⟨tw_713, tw_714, tw_715⟩
theorem lk_X9_229 : VL RX9 229 yX9_isOut := ⟨tw_717, tw_718, tw_788⟩
theorem lk_L_74 : VL RL 74 yX9_place := ⟨tw_720, tw_721, tw_722⟩
theorem lk_L_82 : VL RL 82 yX9_units := ⟨tw_724, tw_725, tw_726⟩
theorem lk_L_78 : VL RL 78 yX9_unitAt := ⟨tw_728, tw_729, tw_730⟩
theorem lk_L_86 : VL RL 86 yX9_broken := ⟨tw_732, tw_733, tw_734⟩
theorem lk_X9_232 : SL RX9 232 yX9_classOf := ⟨tw_736, tw_737⟩
theorem lk_L_90 : VL RL 90 yX9_met := ⟨tw_739, tw_740, tw_741⟩
theorem lk_L_94 : VL RL 94 yX9_grown := ⟨tw_743, tw_744, tw_745⟩
theorem lk_L_98 : VL RL 98 yX9_table := ⟨tw_747, tw_748, tw_749⟩
theorem lk_L_102 : VL RL 102 yX9_digit := ⟨tw_751, tw_752, tw_753⟩
theorem lk_L_106 : VL RL 106 yX9_count := ⟨tw_755, tw_756, tw_757⟩
theorem nl_X8_22 : NL RX8 22 yX1_init := List.mem_of_getElem? (i := 0) rfl
theorem nl_X8_29 : NL RX8 29 yX2_init := List.mem_of_getElem? (i := 1) rfl
theorem nl_X8_36 : NL RX8 36 yX7_init := List.mem_of_getElem? (i := 2) rfl
theorem nl_X8_43 : NL RX8 43 yX3_init := List.mem_of_getElem? (i := 3) rfl
theorem nl_X8_50 : NL RX8 50 yX6_init := List.mem_of_getElem? (i := 4) rfl
theorem nl_X8_63 : NL RX8 63 yX5_init := List.mem_of_getElem? (i := 5) rfl
theorem nl_X1_39 : NL RX1 39 yX8_unitsOf := List.mem_of_getElem? (i := 6) rfl
end
section
theorem dX0_init_0 : decode cX0_init 0 = .ok (.aload_n 0, 1) := by decide +kernel
theorem dX0_init_1 : decode cX0_init 1 = .ok (.invokespecial 3, 3) := by decide +kernel
theorem dX0_init_4 : decode cX0_init 4 = .ok (.aload_n 0, 1) := by decide +kernel
theorem dX0_init_5 : decode cX0_init 5 = .ok (.iconst 0, 1) := by decide +kernel
theorem dX0_init_6 : decode cX0_init 6 = .ok (.putfield 9, 3) := by decide +kernel
theorem dX0_init_9 : decode cX0_init 9 = .ok (.aload_n 0, 1) := by decide +kernel
theorem dX0_init_10 : decode cX0_init 10 = .ok (.iconst 0, 1) := by decide +kernel
theorem dX0_init_11 : decode cX0_init 11 = .ok (.putfield 15, 3) := by decide +kernel
theorem dX0_init_14 : decode cX0_init 14 = .ok (.aload_n 0, 1) := by decide +kernel
theorem dX0_init_15 : decode cX0_init 15 = .ok (.iconst 0, 1) := by decide +kernel
theorem dX0_init_16 : decode cX0_init 16 = .ok (.putfield 18, 3) := by decide +kernel
theorem dX0_init_19 : decode cX0_init 19 = .ok (.aload_n 0, 1) := by decide +kernel
theorem dX0_init_20 : decode cX0_init 20 = .ok (.iconst 0, 1) := by decide +kernel
theorem dX0_init_21 : decode cX0_init 21 = .ok (.putfield 21, 3) := by decide +kernel
theorem dX0_init_24 : decode cX0_init 24 = .ok (.aload_n 0, 1) := by decide +kernel
theorem dX0_init_25 : decode cX0_init 25 = .ok (.iconst 0, 1) := by decide +kernel
theorem dX0_init_26 : decode cX0_init 26 = .ok (.putfield 24, 3) := by decide +kernel
theorem dX0_init_29 : decode cX0_init 29 = .ok (.aload_n 0, 1) := by decide +kernel
theorem dX0_init_30 : decode cX0_init 30 = .ok (.iload_n 1, 1) := by decide +kernel
theorem dX0_init_31 : decode cX0_init 31 = .ok (.putfield 27, 3) := by decide +kernel
theorem dX0_init_34 : decode cX0_init 34 = .ok (.return_, 1) := by decide +kernel
theorem dX0_beginRun_0 : decode cX0_beginRun 0 = .ok (.aload_n 0, 1) := by decide +kernel
theorem dX0_beginRun_1 : decode cX0_beginRun 1 = .ok (.iconst 0, 1) := by decide +kernel
theorem dX0_beginRun_2 : decode cX0_beginRun 2 = .ok (.putfield 21, 3) := by decide +kernel
theorem dX0_beginRun_5 : decode cX0_beginRun 5 = .ok (.aload_n 0, 1) := by decide +kernel
theorem dX0_beginRun_6 : decode cX0_beginRun 6 = .ok (.iconst 0, 1) := by decide +kernel
theorem dX0_beginRun_7 : decode cX0_beginRun 7 = .ok (.putfield 24, 3) := by decide +kernel
theorem dX0_beginRun_10 : decode cX0_beginRun 10 = .ok (.return_, 1) := by decide +kernel
theorem dX0_meetOne_0 : decode cX0_meetOne 0 = .ok (.aload_n 0, 1) := by decide +kernel
theorem dX0_meetOne_1 : decode cX0_meetOne 1 = .ok (.dup, 1) := by decide +kernel
theorem dX0_meetOne_2 : decode cX0_meetOne 2 = .ok (.getfield 21, 3) := by decide +kernel
theorem dX0_meetOne_5 : decode cX0_meetOne 5 = .ok (.iconst 1, 1) := by decide +kernel
theorem dX0_meetOne_6 : decode cX0_meetOne 6 = .ok (.iadd, 1) := by decide +kernel
theorem dX0_meetOne_7 : decode cX0_meetOne 7 = .ok (.putfield 21, 3) := by decide +kernel
theorem dX0_meetOne_10 : decode cX0_meetOne 10 = .ok (.return_, 1) := by decide +kernel
theorem dX0_growBy_0 : decode cX0_growBy 0 = .ok (.aload_n 0, 1) := by decide +kernel
theorem dX0_growBy_1 : decode cX0_growBy 1 = .ok (.dup, 1) := by decide +kernel
theorem dX0_growBy_2 : decode cX0_growBy 2 = .ok (.getfield 24, 3) := by decide +kernel
theorem dX0_growBy_5 : decode cX0_growBy 5 = .ok (.iload_n 1, 1) := by decide +kernel
theorem dX0_growBy_6 : decode cX0_growBy 6 = .ok (.iadd, 1) := by decide +kernel
theorem dX0_growBy_7 : decode cX0_growBy 7 = .ok (.putfield 24, 3) := by decide +kernel
theorem dX0_growBy_10 : decode cX0_growBy 10 = .ok (.return_, 1) := by decide +kernel
theorem dX0_settleRun_0 : decode cX0_settleRun 0 = .ok (.aload_n 0, 1) := by decide +kernel
theorem dX0_settleRun_1 : decode cX0_settleRun 1 = .ok (.aload_n 0, 1) := by decide +kernel
theorem dX0_settleRun_2 : decode cX0_settleRun 2 = .ok (.getfield 21, 3) := by decide +kernel
theorem dX0_settleRun_5 : decode cX0_settleRun 5 = .ok (.putfield 15, 3) := by decide +kernel
theorem dX0_settleRun_8 : decode cX0_settleRun 8 = .ok (.aload_n 0, 1) := by decide +kernel
theorem dX0_settleRun_9 : decode cX0_settleRun 9 = .ok (.aload_n 0, 1) := by decide +kernel
theorem dX0_settleRun_10 : decode cX0_settleRun 10 = .ok (.getfield 24, 3) := by decide +kernel
theorem dX0_settleRun_13 : decode cX0_settleRun 13 = .ok (.putfield 18, 3) := by decide +kernel
theorem dX0_settleRun_16 : decode cX0_settleRun 16 = .ok (.return_, 1) := by decide +kernel
theorem dX1_init_0 : decode cX1_init 0 = .ok (.aload_n 0, 1) := by decide +kernel
theorem dX1_init_1 : decode cX1_init 1 = .ok (.invokespecial 3, 3) := by decide +kernel
theorem dX1_init_4 : decode cX1_init 4 = .ok (.aload_n 0, 1) := by decide +kernel
theorem dX1_init_5 : decode cX1_init 5 = .ok (.bipush 40, 2) := by decide +kernel
theorem dX1_init_7 : decode cX1_init 7 = .ok (.newarray .int, 2) := by decide +kernel
theorem dX1_init_9 : decode cX1_init 9 = .ok (.putfield 9, 3) := by decide +kernel
theorem dX1_init_12 : decode cX1_init 12 = .ok (.aload_n 0, 1) := by decide +kernel
theorem dX1_init_13 : decode cX1_init 13 = .ok (.bipush 40, 2) := by decide +kernel
theorem dX1_init_15 : decode cX1_init 15 = .ok (.newarray .int, 2) := by decide +kernel
theorem dX1_init_17 : decode cX1_init 17 = .ok (.putfield 15, 3) := by decide +kernel
theorem dX1_init_20 : decode cX1_init 20 = .ok (.aload_n 0, 1) := by decide +kernel
theorem dX1_init_21 : decode cX1_init 21 = .ok (.bipush 40, 2) := by decide +kernel
theorem dX1_init_23 : decode cX1_init 23 = .ok (.newarray .int, 2) := by decide +kernel
theorem dX1_init_25 : decode cX1_init 25 = .ok (.putfield 18, 3) := by decide +kernel
theorem dX1_init_28 : decode cX1_init 28 = .ok (.aload_n 0, 1) := by decide +kernel
theorem dX1_init_29 : decode cX1_init 29 = .ok (.bipush 40, 2) := by decide +kernel
theorem dX1_init_31 : decode cX1_init 31 = .ok (.newarray .int, 2) := by decide +kernel
theorem dX1_init_33 : decode cX1_init 33 = .ok (.putfield 21, 3) := by decide +kernel
theorem dX1_init_36 : decode cX1_init 36 = .ok (.aload_n 0, 1) := by decide +kernel
theorem dX1_init_37 : decode cX1_init 37 = .ok (.iconst 0, 1) := by decide +kernel
theorem dX1_init_38 : decode cX1_init 38 = .ok (.putfield 24, 3) := by decide +kernel
theorem dX1_init_41 : decode cX1_init 41 = .ok (.return_, 1) := by decide +kernel
theorem dX1_size_0 : decode cX1_size 0 = .ok (.aload_n 0, 1) := by decide +kernel
theorem dX1_size_1 : decode cX1_size 1 = .ok (.getfield 24, 3) := by decide +kernel
theorem dX1_size_4 : decode cX1_size 4 = .ok (.ireturn, 1) := by decide +kernel
theorem dX1_slotOf_0 : decode cX1_slotOf 0 = .ok (.iconst 0, 1) := by decide +kernel
theorem dX1_slotOf_1 : decode cX1_slotOf 1 = .ok (.istore_n 2, 1) := by decide +kernel
theorem dX1_slotOf_2 : decode cX1_slotOf 2 = .ok (.iload_n 2, 1) := by decide +kernel
theorem dX1_slotOf_3 : decode cX1_slotOf 3 = .ok (.aload_n 0, 1) := by decide +kernel
theorem dX1_slotOf_4 : decode cX1_slotOf 4 = .ok (.getfield 24, 3) := by decide +kernel
theorem dX1_slotOf_7 : decode cX1_slotOf 7 = .ok (.if_icmp .ge 21, 3) := by decide +kernel
theorem dX1_slotOf_10 : decode cX1_slotOf 10 = .ok (.aload_n 0, 1) := by decide +kernel
theorem dX1_slotOf_11 : decode cX1_slotOf 11 = .ok (.getfield 9, 3) := by decide +kernel
theorem dX1_slotOf_14 : decode cX1_slotOf 14 = .ok (.iload_n 2, 1) := by decide +kernel
theorem dX1_slotOf_15 : decode cX1_slotOf 15 = .ok (.iaload, 1) := by decide +kernel
theorem dX1_slotOf_16 : decode cX1_slotOf 16 = .ok (.iload_n 1, 1) := by decide +kernel
theorem dX1_slotOf_17 : decode cX1_slotOf 17 = .ok (.if_icmp .ne 5, 3) := by decide +kernel
theorem dX1_slotOf_20 : decode cX1_slotOf 20 = .ok (.iload_n 2, 1) := by decide +kernel
theorem dX1_slotOf_21 : decode cX1_slotOf 21 = .ok (.ireturn, 1) := by decide +kernel
theorem dX1_slotOf_22 : decode cX1_slotOf 22 = .ok (.iinc 2 1, 3) := by decide +kernel
theorem dX1_slotOf_25 : decode cX1_slotOf 25 = .ok (.goto (-23), 3) := by decide +kernel
theorem dX1_slotOf_28 : decode cX1_slotOf 28 = .ok (.iconst (-1), 1) := by decide +kernel
theorem dX1_slotOf_29 : decode cX1_slotOf 29 = .ok (.ireturn, 1) := by decide +kernel
theorem dX1_put_0 : decode cX1_put 0 = .ok (.aload_n 0, 1) := by decide +kernel
theorem dX1_put_1 : decode cX1_put 1 = .ok (.iload_n 1, 1) := by decide +kernel
theorem dX1_put_2 : decode cX1_put 2 = .ok (.invokevirtual 28, 3) := by decide +kernel
theorem dX1_put_5 : decode cX1_put 5 = .ok (.istore 5, 2) := by decide +kernel
theorem dX1_put_7 : decode cX1_put 7 = .ok (.iload 5, 2) := by decide +kernel
theorem dX1_put_9 : decode cX1_put 9 = .ok (.iconst (-1), 1) := by decide +kernel
theorem dX1_put_10 : decode cX1_put 10 = .ok (.if_icmp .ne 30, 3) := by decide +kernel
theorem dX1_put_13 : decode cX1_put 13 = .ok (.aload_n 0, 1) := by decide +kernel
theorem dX1_put_14 : decode cX1_put 14 = .ok (.getfield 24, 3) := by decide +kernel
theorem dX1_put_17 : decode cX1_put 17 = .ok (.bipush 40, 2) := by decide +kernel
theorem dX1_put_19 : decode cX1_put 19 = .ok (.if_icmp .lt 5, 3) := by decide +kernel
theorem dX1_put_22 : decode cX1_put 22 = .ok (.iconst 0, 1) := by decide +kernel
theorem dX1_put_23 : decode cX1_put 23 = .ok (.ireturn, 1) := by decide +kernel
theorem dX1_put_24 : decode cX1_put 24 = .ok (.aload_n 0, 1) := by decide +kernel
theorem dX1_put_25 : decode cX1_put 25 = .ok (.getfield 24, 3) := by decide +kernel
theorem dX1_put_28 : decode cX1_put 28 = .ok (.istore 5, 2) := by decide +kernel
theorem dX1_put_30 : decode cX1_put 30 = .ok (.aload_n 0, 1) := by decide +kernel
theorem dX1_put_31 : decode cX1_put 31 = .ok (.dup, 1) := by decide +kernel
theorem dX1_put_32 : decode cX1_put 32 = .ok (.getfield 24, 3) := by decide +kernel
theorem dX1_put_35 : decode cX1_put 35 = .ok (.iconst 1, 1) := by decide +kernel
theorem dX1_put_36 : decode cX1_put 36 = .ok (.iadd, 1) := by decide +kernel
theorem dX1_put_37 : decode cX1_put 37 = .ok (.putfield 24, 3) := by decide +kernel
theorem dX1_put_40 : decode cX1_put 40 = .ok (.aload_n 0, 1) := by decide +kernel
theorem dX1_put_41 : decode cX1_put 41 = .ok (.getfield 9, 3) := by decide +kernel
theorem dX1_put_44 : decode cX1_put 44 = .ok (.iload 5, 2) := by decide +kernel
theorem dX1_put_46 : decode cX1_put 46 = .ok (.iload_n 1, 1) := by decide +kernel
theorem dX1_put_47 : decode cX1_put 47 = .ok (.iastore, 1) := by decide +kernel
theorem dX1_put_48 : decode cX1_put 48 = .ok (.aload_n 0, 1) := by decide +kernel
theorem dX1_put_49 : decode cX1_put 49 = .ok (.getfield 15, 3) := by decide +kernel
theorem dX1_put_52 : decode cX1_put 52 = .ok (.iload 5, 2) := by decide +kernel
theorem dX1_put_54 : decode cX1_put 54 = .ok (.iload_n 2, 1) := by decide +kernel
theorem dX1_put_55 : decode cX1_put 55 = .ok (.iastore, 1) := by decide +kernel
theorem dX1_put_56 : decode cX1_put 56 = .ok (.aload_n 0, 1) := by decide +kernel
theorem dX1_put_57 : decode cX1_put 57 = .ok (.getfield 18, 3) := by decide +kernel
theorem dX1_put_60 : decode cX1_put 60 = .ok (.iload 5, 2) := by decide +kernel
theorem dX1_put_62 : decode cX1_put 62 = .ok (.iload_n 3, 1) := by decide +kernel
theorem dX1_put_63 : decode cX1_put 63 = .ok (.iastore, 1) := by decide +kernel
theorem dX1_put_64 : decode cX1_put 64 = .ok (.aload_n 0, 1) := by decide +kernel
theorem dX1_put_65 : decode cX1_put 65 = .ok (.getfield 21, 3) := by decide +kernel
theorem dX1_put_68 : decode cX1_put 68 = .ok (.iload 5, 2) := by decide +kernel
theorem dX1_put_70 : decode cX1_put 70 = .ok (.iload 4, 2) := by decide +kernel
theorem dX1_put_72 : decode cX1_put 72 = .ok (.iastore, 1) := by decide +kernel
theorem dX1_put_73 : decode cX1_put 73 = .ok (.iconst 1, 1) := by decide +kernel
theorem dX1_put_74 : decode cX1_put 74 = .ok (.ireturn, 1) := by decide +kernel
theorem dX1_partAt_0 : decode cX1_partAt 0 = .ok (.iload_n 1, 1) := by decide +kernel
theorem dX1_partAt_1 : decode cX1_partAt 1 = .ok (.ifCond .lt 11, 3) := by decide +kernel
theorem dX1_partAt_4 : decode cX1_partAt 4 = .ok (.iload_n 1, 1) := by decide +kernel
theorem dX1_partAt_5 : decode cX1_partAt 5 = .ok (.aload_n 0, 1) := by decide +kernel
theorem dX1_partAt_6 : decode cX1_partAt 6 = .ok (.getfield 24, 3) := by decide +kernel
theorem dX1_partAt_9 : decode cX1_partAt 9 = .ok (.if_icmp .lt 5, 3) := by decide +kernel
theorem dX1_partAt_12 : decode cX1_partAt 12 = .ok (.iconst (-1), 1) := by decide +kernel
theorem dX1_partAt_13 : decode cX1_partAt 13 = .ok (.ireturn, 1) := by decide +kernel
theorem dX1_partAt_14 : decode cX1_partAt 14 = .ok (.iload_n 2, 1) := by decide +kernel
theorem dX1_partAt_15 : decode cX1_partAt 15 = .ok (.tableswitch 46 0 2 #[25, 32, 39], 25) := by decide +kernel
theorem dX1_partAt_40 : decode cX1_partAt 40 = .ok (.aload_n 0, 1) := by decide +kernel
theorem dX1_partAt_41 : decode cX1_partAt 41 = .ok (.getfield 15, 3) := by decide +kernel
theorem dX1_partAt_44 : decode cX1_partAt 44 = .ok (.iload_n 1, 1) := by decide +kernel
theorem dX1_partAt_45 : decode cX1_partAt 45 = .ok (.iaload, 1) := by decide +kernel
theorem dX1_partAt_46 : decode cX1_partAt 46 = .ok (.ireturn, 1) := by decide +kernel
theorem dX1_partAt_47 : decode cX1_partAt 47 = .ok (.aload_n 0, 1) := by decide +kernel
theorem dX1_partAt_48 : decode cX1_partAt 48 = .ok (.getfield 18, 3) := by decide +kernel
theorem dX1_partAt_51 : decode cX1_partAt 51 = .ok (.iload_n 1, 1) := by decide +kernel
theorem dX1_partAt_52 : decode cX1_partAt 52 = .ok (.iaload, 1) := by decide +kernel
theorem dX1_partAt_53 : decode cX1_partAt 53 = .ok (.ireturn, 1) := by decide +kernel
theorem dX1_partAt_54 : decode cX1_partAt 54 = .ok (.aload_n 0, 1) := by decide +kernel
theorem dX1_partAt_55 : decode cX1_partAt 55 = .ok (.getfield 21, 3) := by decide +kernel
theorem dX1_partAt_58 : decode cX1_partAt 58 = .ok (.iload_n 1, 1) := by decide +kernel
theorem dX1_partAt_59 : decode cX1_partAt 59 = .ok (.iaload, 1) := by decide +kernel
theorem dX1_partAt_60 : decode cX1_partAt 60 = .ok (.ireturn, 1) := by decide +kernel
theorem dX1_partAt_61 : decode cX1_partAt 61 = .ok (.iconst (-1), 1) := by decide +kernel
theorem dX1_partAt_62 : decode cX1_partAt 62 = .ok (.ireturn, 1) := by decide +kernel
theorem dX1_lengthAt_0 : decode cX1_lengthAt 0 = .ok (.iconst 0, 1) := by decide +kernel
theorem dX1_lengthAt_1 : decode cX1_lengthAt 1 = .ok (.istore_n 2, 1) := by decide +kernel
theorem dX1_lengthAt_2 : decode cX1_lengthAt 2 = .ok (.iload_n 2, 1) := by decide +kernel
theorem dX1_lengthAt_3 : decode cX1_lengthAt 3 = .ok (.iconst 3, 1) := by decide +kernel
theorem dX1_lengthAt_4 : decode cX1_lengthAt 4 = .ok (.if_icmp .ge 19, 3) := by decide +kernel
theorem dX1_lengthAt_7 : decode cX1_lengthAt 7 = .ok (.aload_n 0, 1) := by decide +kernel
theorem dX1_lengthAt_8 : decode cX1_lengthAt 8 = .ok (.iload_n 1, 1) := by decide +kernel
theorem dX1_lengthAt_9 : decode cX1_lengthAt 9 = .ok (.iload_n 2, 1) := by decide +kernel
theorem dX1_lengthAt_10 : decode cX1_lengthAt 10 = .ok (.invokevirtual 32, 3) := by decide +kernel
theorem dX1_lengthAt_13 : decode cX1_lengthAt 13 = .ok (.iconst (-1), 1) := by decide +kernel
theorem dX1_lengthAt_14 : decode cX1_lengthAt 14 = .ok (.if_icmp .eq 9, 3) := by decide +kernel
theorem dX1_lengthAt_17 : decode cX1_lengthAt 17 = .ok (.iinc 2 1, 3) := by decide +kernel
theorem dX1_lengthAt_20 : decode cX1_lengthAt 20 = .ok (.goto (-18), 3) := by decide +kernel
theorem dX1_lengthAt_23 : decode cX1_lengthAt 23 = .ok (.iload_n 2, 1) := by decide +kernel
theorem dX1_lengthAt_24 : decode cX1_lengthAt 24 = .ok (.ireturn, 1) := by decide +kernel
theorem dX1_unitsAt_0 : decode cX1_unitsAt 0 = .ok (.iconst 0, 1) := by decide +kernel
theorem dX1_unitsAt_1 : decode cX1_unitsAt 1 = .ok (.istore_n 2, 1) := by decide +kernel
theorem dX1_unitsAt_2 : decode cX1_unitsAt 2 = .ok (.iconst 0, 1) := by decide +kernel
theorem dX1_unitsAt_3 : decode cX1_unitsAt 3 = .ok (.istore_n 3, 1) := by decide +kernel
theorem dX1_unitsAt_4 : decode cX1_unitsAt 4 = .ok (.iload_n 3, 1) := by decide +kernel
theorem dX1_unitsAt_5 : decode cX1_unitsAt 5 = .ok (.aload_n 0, 1) := by decide +kernel
theorem dX1_unitsAt_6 : decode cX1_unitsAt 6 = .ok (.iload_n 1, 1) := by decide +kernel
theorem dX1_unitsAt_7 : decode cX1_unitsAt 7 = .ok (.invokevirtual 36, 3) := by decide +kernel
theorem dX1_unitsAt_10 : decode cX1_unitsAt 10 = .ok (.if_icmp .ge 21, 3) := by decide +kernel
theorem dX1_unitsAt_13 : decode cX1_unitsAt 13 = .ok (.iload_n 2, 1) := by decide +kernel
theorem dX1_unitsAt_14 : decode cX1_unitsAt 14 = .ok (.aload_n 0, 1) := by decide +kernel
theorem dX1_unitsAt_15 : decode cX1_unitsAt 15 = .ok (.iload_n 1, 1) := by decide +kernel
theorem dX1_unitsAt_16 : decode cX1_unitsAt 16 = .ok (.iload_n 3, 1) := by decide +kernel
theorem dX1_unitsAt_17 : decode cX1_unitsAt 17 = .ok (.invokevirtual 32, 3) := by decide +kernel
theorem dX1_unitsAt_20 : decode cX1_unitsAt 20 = .ok (.invokestatic 39, 3) := by decide +kernel
theorem dX1_unitsAt_23 : decode cX1_unitsAt 23 = .ok (.iadd, 1) := by decide +kernel
theorem dX1_unitsAt_24 : decode cX1_unitsAt 24 = .ok (.istore_n 2, 1) := by decide +kernel
theorem dX1_unitsAt_25 : decode cX1_unitsAt 25 = .ok (.iinc 3 1, 3) := by decide +kernel
theorem dX1_unitsAt_28 : decode cX1_unitsAt 28 = .ok (.goto (-24), 3) := by decide +kernel
theorem dX1_unitsAt_31 : decode cX1_unitsAt 31 = .ok (.iload_n 2, 1) := by decide +kernel
theorem dX1_unitsAt_32 : decode cX1_unitsAt 32 = .ok (.ireturn, 1) := by decide +kernel
theorem dX2_init_0 : decode cX2_init 0 = .ok (.aload_n 0, 1) := by decide +kernel
theorem dX2_init_1 : decode cX2_init 1 = .ok (.invokespecial 3, 3) := by decide +kernel
theorem dX2_init_4 : decode cX2_init 4 = .ok (.aload_n 0, 1) := by decide +kernel
theorem dX2_init_5 : decode cX2_init 5 = .ok (.bipush 20, 2) := by decide +kernel
theorem dX2_init_7 : decode cX2_init 7 = .ok (.newarray .int, 2) := by decide +kernel
theorem dX2_init_9 : decode cX2_init 9 = .ok (.putfield 9, 3) := by decide +kernel
theorem dX2_init_12 : decode cX2_init 12 = .ok (.aload_n 0, 1) := by decide +kernel
theorem dX2_init_13 : decode cX2_init 13 = .ok (.bipush 20, 2) := by decide +kernel
theorem dX2_init_15 : decode cX2_init 15 = .ok (.newarray .int, 2) := by decide +kernel
theorem dX2_init_17 : decode cX2_init 17 = .ok (.putfield 15, 3) := by decide +kernel
theorem dX2_init_20 : decode cX2_init 20 = .ok (.aload_n 0, 1) := by decide +kernel
theorem dX2_init_21 : decode cX2_init 21 = .ok (.bipush 20, 2) := by decide +kernel
theorem dX2_init_23 : decode cX2_init 23 = .ok (.newarray .int, 2) := by decide +kernel
theorem dX2_init_25 : decode cX2_init 25 = .ok (.putfield 18, 3) := by decide +kernel
theorem dX2_init_28 : decode cX2_init 28 = .ok (.aload_n 0, 1) := by decide +kernel
theorem dX2_init_29 : decode cX2_init 29 = .ok (.iconst 0, 1) := by decide +kernel
theorem dX2_init_30 : decode cX2_init 30 = .ok (.putfield 21, 3) := by decide +kernel
theorem dX2_init_33 : decode cX2_init 33 = .ok (.return_, 1) := by decide +kernel
theorem dX2_size_0 : decode cX2_size 0 = .ok (.aload_n 0, 1) := by decide +kernel
theorem dX2_size_1 : decode cX2_size 1 = .ok (.getfield 21, 3) := by decide +kernel
theorem dX2_size_4 : decode cX2_size 4 = .ok (.ireturn, 1) := by decide +kernel
theorem dX2_slotOf_0 : decode cX2_slotOf 0 = .ok (.iconst 0, 1) := by decide +kernel
theorem dX2_slotOf_1 : decode cX2_slotOf 1 = .ok (.istore_n 3, 1) := by decide +kernel
theorem dX2_slotOf_2 : decode cX2_slotOf 2 = .ok (.iload_n 3, 1) := by decide +kernel
theorem dX2_slotOf_3 : decode cX2_slotOf 3 = .ok (.aload_n 0, 1) := by decide +kernel
theorem dX2_slotOf_4 : decode cX2_slotOf 4 = .ok (.getfield 21, 3) := by decide +kernel
theorem dX2_slotOf_7 : decode cX2_slotOf 7 = .ok (.if_icmp .ge 31, 3) := by decide +kernel
theorem dX2_slotOf_10 : decode cX2_slotOf 10 = .ok (.aload_n 0, 1) := by decide +kernel
theorem dX2_slotOf_11 : decode cX2_slotOf 11 = .ok (.getfield 9, 3) := by decide +kernel
theorem dX2_slotOf_14 : decode cX2_slotOf 14 = .ok (.iload_n 3, 1) := by decide +kernel
theorem dX2_slotOf_15 : decode cX2_slotOf 15 = .ok (.iaload, 1) := by decide +kernel
theorem dX2_slotOf_16 : decode cX2_slotOf 16 = .ok (.iload_n 1, 1) := by decide +kernel
theorem dX2_slotOf_17 : decode cX2_slotOf 17 = .ok (.if_icmp .ne 15, 3) := by decide +kernel
theorem dX2_slotOf_20 : decode cX2_slotOf 20 = .ok (.aload_n 0, 1) := by decide +kernel
theorem dX2_slotOf_21 : decode cX2_slotOf 21 = .ok (.getfield 15, 3) := by decide +kernel
theorem dX2_slotOf_24 : decode cX2_slotOf 24 = .ok (.iload_n 3, 1) := by decide +kernel
theorem dX2_slotOf_25 : decode cX2_slotOf 25 = .ok (.iaload, 1) := by decide +kernel
theorem dX2_slotOf_26 : decode cX2_slotOf 26 = .ok (.iload_n 2, 1) := by decide +kernel
theorem dX2_slotOf_27 : decode cX2_slotOf 27 = .ok (.if_icmp .ne 5, 3) := by decide +kernel
theorem dX2_slotOf_30 : decode cX2_slotOf 30 = .ok (.iload_n 3, 1) := by decide +kernel
theorem dX2_slotOf_31 : decode cX2_slotOf 31 = .ok (.ireturn, 1) := by decide +kernel
theorem dX2_slotOf_32 : decode cX2_slotOf 32 = .ok (.iinc 3 1, 3) := by decide +kernel
theorem dX2_slotOf_35 : decode cX2_slotOf 35 = .ok (.goto (-33), 3) := by decide +kernel
theorem dX2_slotOf_38 : decode cX2_slotOf 38 = .ok (.iconst (-1), 1) := by decide +kernel
theorem dX2_slotOf_39 : decode cX2_slotOf 39 = .ok (.ireturn, 1) := by decide +kernel
theorem dX2_signAt_0 : decode cX2_signAt 0 = .ok (.iload_n 1, 1) := by decide +kernel
theorem dX2_signAt_1 : decode cX2_signAt 1 = .ok (.ifCond .lt 20, 3) := by decide +kernel
theorem dX2_signAt_4 : decode cX2_signAt 4 = .ok (.iload_n 1, 1) := by decide +kernel
theorem dX2_signAt_5 : decode cX2_signAt 5 = .ok (.aload_n 0, 1) := by decide +kernel
theorem dX2_signAt_6 : decode cX2_signAt 6 = .ok (.getfield 21, 3) := by decide +kernel
theorem dX2_signAt_9 : decode cX2_signAt 9 = .ok (.if_icmp .ge 12, 3) := by decide +kernel
theorem dX2_signAt_12 : decode cX2_signAt 12 = .ok (.aload_n 0, 1) := by decide +kernel
theorem dX2_signAt_13 : decode cX2_signAt 13 = .ok (.getfield 18, 3) := by decide +kernel
theorem dX2_signAt_16 : decode cX2_signAt 16 = .ok (.iload_n 1, 1) := by decide +kernel
theorem dX2_signAt_17 : decode cX2_signAt 17 = .ok (.iaload, 1) := by decide +kernel
theorem dX2_signAt_18 : decode cX2_signAt 18 = .ok (.goto 4, 3) := by decide +kernel
theorem dX2_signAt_21 : decode cX2_signAt 21 = .ok (.iconst (-1), 1) := by decide +kernel
theorem dX2_signAt_22 : decode cX2_signAt 22 = .ok (.ireturn, 1) := by decide +kernel
theorem dX2_put_0 : decode cX2_put 0 = .ok (.aload_n 0, 1) := by decide +kernel
theorem dX2_put_1 : decode cX2_put 1 = .ok (.iload_n 1, 1) := by decide +kernel
theorem dX2_put_2 : decode cX2_put 2 = .ok (.iload_n 2, 1) := by decide +kernel
theorem dX2_put_3 : decode cX2_put 3 = .ok (.invokevirtual 25, 3) := by decide +kernel
theorem dX2_put_6 : decode cX2_put 6 = .ok (.istore 4, 2) := by decide +kernel
theorem dX2_put_8 : decode cX2_put 8 = .ok (.iload 4, 2) := by decide +kernel
theorem dX2_put_10 : decode cX2_put 10 = .ok (.iconst (-1), 1) := by decide +kernel
theorem dX2_put_11 : decode cX2_put 11 = .ok (.if_icmp .ne 30, 3) := by decide +kernel
theorem dX2_put_14 : decode cX2_put 14 = .ok (.aload_n 0, 1) := by decide +kernel
theorem dX2_put_15 : decode cX2_put 15 = .ok (.getfield 21, 3) := by decide +kernel
theorem dX2_put_18 : decode cX2_put 18 = .ok (.bipush 20, 2) := by decide +kernel
theorem dX2_put_20 : decode cX2_put 20 = .ok (.if_icmp .lt 5, 3) := by decide +kernel
theorem dX2_put_23 : decode cX2_put 23 = .ok (.iconst 0, 1) := by decide +kernel
theorem dX2_put_24 : decode cX2_put 24 = .ok (.ireturn, 1) := by decide +kernel
theorem dX2_put_25 : decode cX2_put 25 = .ok (.aload_n 0, 1) := by decide +kernel
theorem dX2_put_26 : decode cX2_put 26 = .ok (.getfield 21, 3) := by decide +kernel
theorem dX2_put_29 : decode cX2_put 29 = .ok (.istore 4, 2) := by decide +kernel
theorem dX2_put_31 : decode cX2_put 31 = .ok (.aload_n 0, 1) := by decide +kernel
theorem dX2_put_32 : decode cX2_put 32 = .ok (.dup, 1) := by decide +kernel
theorem dX2_put_33 : decode cX2_put 33 = .ok (.getfield 21, 3) := by decide +kernel
theorem dX2_put_36 : decode cX2_put 36 = .ok (.iconst 1, 1) := by decide +kernel
theorem dX2_put_37 : decode cX2_put 37 = .ok (.iadd, 1) := by decide +kernel
theorem dX2_put_38 : decode cX2_put 38 = .ok (.putfield 21, 3) := by decide +kernel
theorem dX2_put_41 : decode cX2_put 41 = .ok (.aload_n 0, 1) := by decide +kernel
theorem dX2_put_42 : decode cX2_put 42 = .ok (.getfield 9, 3) := by decide +kernel
theorem dX2_put_45 : decode cX2_put 45 = .ok (.iload 4, 2) := by decide +kernel
theorem dX2_put_47 : decode cX2_put 47 = .ok (.iload_n 1, 1) := by decide +kernel
theorem dX2_put_48 : decode cX2_put 48 = .ok (.iastore, 1) := by decide +kernel
theorem dX2_put_49 : decode cX2_put 49 = .ok (.aload_n 0, 1) := by decide +kernel
theorem dX2_put_50 : decode cX2_put 50 = .ok (.getfield 15, 3) := by decide +kernel
theorem dX2_put_53 : decode cX2_put 53 = .ok (.iload 4, 2) := by decide +kernel
theorem dX2_put_55 : decode cX2_put 55 = .ok (.iload_n 2, 1) := by decide +kernel
theorem dX2_put_56 : decode cX2_put 56 = .ok (.iastore, 1) := by decide +kernel
theorem dX2_put_57 : decode cX2_put 57 = .ok (.aload_n 0, 1) := by decide +kernel
theorem dX2_put_58 : decode cX2_put 58 = .ok (.getfield 18, 3) := by decide +kernel
theorem dX2_put_61 : decode cX2_put 61 = .ok (.iload 4, 2) := by decide +kernel
theorem dX2_put_63 : decode cX2_put 63 = .ok (.iload_n 3, 1) := by decide +kernel
theorem dX2_put_64 : decode cX2_put 64 = .ok (.iastore, 1) := by decide +kernel
theorem dX2_put_65 : decode cX2_put 65 = .ok (.iconst 1, 1) := by decide +kernel
theorem dX2_put_66 : decode cX2_put 66 = .ok (.ireturn, 1) := by decide +kernel
theorem dX3_init_0 : decode cX3_init 0 = .ok (.aload_n 0, 1) := by decide +kernel
theorem dX3_init_1 : decode cX3_init 1 = .ok (.invokespecial 3, 3) := by decide +kernel
theorem dX3_init_4 : decode cX3_init 4 = .ok (.aload_n 0, 1) := by decide +kernel
theorem dX3_init_5 : decode cX3_init 5 = .ok (.bipush 8, 2) := by decide +kernel
theorem dX3_init_7 : decode cX3_init 7 = .ok (.newarray .int, 2) := by decide +kernel
theorem dX3_init_9 : decode cX3_init 9 = .ok (.putfield 9, 3) := by decide +kernel
theorem dX3_init_12 : decode cX3_init 12 = .ok (.aload_n 0, 1) := by decide +kernel
theorem dX3_init_13 : decode cX3_init 13 = .ok (.bipush 8, 2) := by decide +kernel
theorem dX3_init_15 : decode cX3_init 15 = .ok (.newarray .int, 2) := by decide +kernel
theorem dX3_init_17 : decode cX3_init 17 = .ok (.putfield 15, 3) := by decide +kernel
theorem dX3_init_20 : decode cX3_init 20 = .ok (.aload_n 0, 1) := by decide +kernel
theorem dX3_init_21 : decode cX3_init 21 = .ok (.iconst 0, 1) := by decide +kernel
theorem dX3_init_22 : decode cX3_init 22 = .ok (.putfield 18, 3) := by decide +kernel
theorem dX3_init_25 : decode cX3_init 25 = .ok (.return_, 1) := by decide +kernel
theorem dX3_size_0 : decode cX3_size 0 = .ok (.aload_n 0, 1) := by decide +kernel
theorem dX3_size_1 : decode cX3_size 1 = .ok (.getfield 18, 3) := by decide +kernel
theorem dX3_size_4 : decode cX3_size 4 = .ok (.ireturn, 1) := by decide +kernel
theorem dX3_add_0 : decode cX3_add 0 = .ok (.aload_n 0, 1) := by decide +kernel
theorem dX3_add_1 : decode cX3_add 1 = .ok (.getfield 18, 3) := by decide +kernel
theorem dX3_add_4 : decode cX3_add 4 = .ok (.bipush 8, 2) := by decide +kernel
theorem dX3_add_6 : decode cX3_add 6 = .ok (.if_icmp .lt 5, 3) := by decide +kernel
theorem dX3_add_9 : decode cX3_add 9 = .ok (.iconst 0, 1) := by decide +kernel
theorem dX3_add_10 : decode cX3_add 10 = .ok (.ireturn, 1) := by decide +kernel
theorem dX3_add_11 : decode cX3_add 11 = .ok (.aload_n 0, 1) := by decide +kernel
theorem dX3_add_12 : decode cX3_add 12 = .ok (.getfield 9, 3) := by decide +kernel
theorem dX3_add_15 : decode cX3_add 15 = .ok (.aload_n 0, 1) := by decide +kernel
theorem dX3_add_16 : decode cX3_add 16 = .ok (.getfield 18, 3) := by decide +kernel
theorem dX3_add_19 : decode cX3_add 19 = .ok (.iload_n 1, 1) := by decide +kernel
theorem dX3_add_20 : decode cX3_add 20 = .ok (.iastore, 1) := by decide +kernel
theorem dX3_add_21 : decode cX3_add 21 = .ok (.aload_n 0, 1) := by decide +kernel
theorem dX3_add_22 : decode cX3_add 22 = .ok (.getfield 15, 3) := by decide +kernel
theorem dX3_add_25 : decode cX3_add 25 = .ok (.aload_n 0, 1) := by decide +kernel
theorem dX3_add_26 : decode cX3_add 26 = .ok (.getfield 18, 3) := by decide +kernel
theorem dX3_add_29 : decode cX3_add 29 = .ok (.iload_n 2, 1) := by decide +kernel
theorem dX3_add_30 : decode cX3_add 30 = .ok (.iastore, 1) := by decide +kernel
theorem dX3_add_31 : decode cX3_add 31 = .ok (.aload_n 0, 1) := by decide +kernel
theorem dX3_add_32 : decode cX3_add 32 = .ok (.dup, 1) := by decide +kernel
theorem dX3_add_33 : decode cX3_add 33 = .ok (.getfield 18, 3) := by decide +kernel
theorem dX3_add_36 : decode cX3_add 36 = .ok (.iconst 1, 1) := by decide +kernel
theorem dX3_add_37 : decode cX3_add 37 = .ok (.iadd, 1) := by decide +kernel
theorem dX3_add_38 : decode cX3_add 38 = .ok (.putfield 18, 3) := by decide +kernel
theorem dX3_add_41 : decode cX3_add 41 = .ok (.iconst 1, 1) := by decide +kernel
theorem dX3_add_42 : decode cX3_add 42 = .ok (.ireturn, 1) := by decide +kernel
theorem dX3_holds_0 : decode cX3_holds 0 = .ok (.iconst 0, 1) := by decide +kernel
theorem dX3_holds_1 : decode cX3_holds 1 = .ok (.istore_n 2, 1) := by decide +kernel
theorem dX3_holds_2 : decode cX3_holds 2 = .ok (.iload_n 2, 1) := by decide +kernel
theorem dX3_holds_3 : decode cX3_holds 3 = .ok (.aload_n 0, 1) := by decide +kernel
theorem dX3_holds_4 : decode cX3_holds 4 = .ok (.getfield 18, 3) := by decide +kernel
theorem dX3_holds_7 : decode cX3_holds 7 = .ok (.if_icmp .ge 31, 3) := by decide +kernel
theorem dX3_holds_10 : decode cX3_holds 10 = .ok (.iload_n 1, 1) := by decide +kernel
theorem dX3_holds_11 : decode cX3_holds 11 = .ok (.aload_n 0, 1) := by decide +kernel
theorem dX3_holds_12 : decode cX3_holds 12 = .ok (.getfield 9, 3) := by decide +kernel
theorem dX3_holds_15 : decode cX3_holds 15 = .ok (.iload_n 2, 1) := by decide +kernel
theorem dX3_holds_16 : decode cX3_holds 16 = .ok (.iaload, 1) := by decide +kernel
theorem dX3_holds_17 : decode cX3_holds 17 = .ok (.if_icmp .lt 15, 3) := by decide +kernel
theorem dX3_holds_20 : decode cX3_holds 20 = .ok (.iload_n 1, 1) := by decide +kernel
theorem dX3_holds_21 : decode cX3_holds 21 = .ok (.aload_n 0, 1) := by decide +kernel
theorem dX3_holds_22 : decode cX3_holds 22 = .ok (.getfield 15, 3) := by decide +kernel
theorem dX3_holds_25 : decode cX3_holds 25 = .ok (.iload_n 2, 1) := by decide +kernel
theorem dX3_holds_26 : decode cX3_holds 26 = .ok (.iaload, 1) := by decide +kernel
theorem dX3_holds_27 : decode cX3_holds 27 = .ok (.if_icmp .gt 5, 3) := by decide +kernel
theorem dX3_holds_30 : decode cX3_holds 30 = .ok (.iconst 1, 1) := by decide +kernel
theorem dX3_holds_31 : decode cX3_holds 31 = .ok (.ireturn, 1) := by decide +kernel
theorem dX3_holds_32 : decode cX3_holds 32 = .ok (.iinc 2 1, 3) := by decide +kernel
theorem dX3_holds_35 : decode cX3_holds 35 = .ok (.goto (-33), 3) := by decide +kernel
theorem dX3_holds_38 : decode cX3_holds 38 = .ok (.iconst 0, 1) := by decide +kernel
theorem dX3_holds_39 : decode cX3_holds 39 = .ok (.ireturn, 1) := by decide +kernel
theorem dX4_init_0 : decode cX4_init 0 = .ok (.aload_n 0, 1) := by decide +kernel
theorem dX4_init_1 : decode cX4_init 1 = .ok (.invokespecial 1, 3) := by decide +kernel
theorem dX4_init_4 : decode cX4_init 4 = .ok (.aload_n 0, 1) := by decide +kernel
theorem dX4_init_5 : decode cX4_init 5 = .ok (.aload_n 1, 1) := by decide +kernel
theorem dX4_init_6 : decode cX4_init 6 = .ok (.invokevirtual 7, 3) := by decide +kernel
theorem dX4_init_9 : decode cX4_init 9 = .ok (.putfield 13, 3) := by decide +kernel
theorem dX4_init_12 : decode cX4_init 12 = .ok (.aload_n 0, 1) := by decide +kernel
theorem dX4_init_13 : decode cX4_init 13 = .ok (.aload_n 2, 1) := by decide +kernel
theorem dX4_init_14 : decode cX4_init 14 = .ok (.invokevirtual 7, 3) := by decide +kernel
theorem dX4_init_17 : decode cX4_init 17 = .ok (.putfield 19, 3) := by decide +kernel
theorem dX4_init_20 : decode cX4_init 20 = .ok (.return_, 1) := by decide +kernel
theorem dX4_length_0 : decode cX4_length 0 = .ok (.aload_n 0, 1) := by decide +kernel
theorem dX4_length_1 : decode cX4_length 1 = .ok (.getfield 13, 3) := by decide +kernel
theorem dX4_length_4 : decode cX4_length 4 = .ok (.arraylength, 1) := by decide +kernel
theorem dX4_length_5 : decode cX4_length 5 = .ok (.ireturn, 1) := by decide +kernel
theorem dX4_standsAt_0 : decode cX4_standsAt 0 = .ok (.aload_n 0, 1) := by decide +kernel
theorem dX4_standsAt_1 : decode cX4_standsAt 1 = .ok (.getfield 13, 3) := by decide +kernel
theorem dX4_standsAt_4 : decode cX4_standsAt 4 = .ok (.arraylength, 1) := by decide +kernel
theorem dX4_standsAt_5 : decode cX4_standsAt 5 = .ok (.aload_n 1, 1) := by decide +kernel
theorem dX4_standsAt_6 : decode cX4_standsAt 6 = .ok (.invokevirtual 22, 3) := by decide +kernel
theorem dX4_standsAt_9 : decode cX4_standsAt 9 = .ok (.iload_n 2, 1) := by decide +kernel
theorem dX4_standsAt_10 : decode cX4_standsAt 10 = .ok (.isub, 1) := by decide +kernel
theorem dX4_standsAt_11 : decode cX4_standsAt 11 = .ok (.if_icmp .le 5, 3) := by decide +kernel
theorem dX4_standsAt_14 : decode cX4_standsAt 14 = .ok (.iconst 0, 1) := by decide +kernel
theorem dX4_standsAt_15 : decode cX4_standsAt 15 = .ok (.ireturn, 1) := by decide +kernel
theorem dX4_standsAt_16 : decode cX4_standsAt 16 = .ok (.iconst 0, 1) := by decide +kernel
theorem dX4_standsAt_17 : decode cX4_standsAt 17 = .ok (.istore_n 3, 1) := by decide +kernel
theorem dX4_standsAt_18 : decode cX4_standsAt 18 = .ok (.iload_n 3, 1) := by decide +kernel
theorem dX4_standsAt_19 : decode cX4_standsAt 19 = .ok (.aload_n 0, 1) := by decide +kernel
theorem dX4_standsAt_20 : decode cX4_standsAt 20 = .ok (.getfield 13, 3) := by decide +kernel
theorem dX4_standsAt_23 : decode cX4_standsAt 23 = .ok (.arraylength, 1) := by decide +kernel
theorem dX4_standsAt_24 : decode cX4_standsAt 24 = .ok (.if_icmp .ge 27, 3) := by decide +kernel
theorem dX4_standsAt_27 : decode cX4_standsAt 27 = .ok (.aload_n 1, 1) := by decide +kernel
theorem dX4_standsAt_28 : decode cX4_standsAt 28 = .ok (.iload_n 2, 1) := by decide +kernel
theorem dX4_standsAt_29 : decode cX4_standsAt 29 = .ok (.iload_n 3, 1) := by decide +kernel
theorem dX4_standsAt_30 : decode cX4_standsAt 30 = .ok (.iadd, 1) := by decide +kernel
theorem dX4_standsAt_31 : decode cX4_standsAt 31 = .ok (.invokevirtual 26, 3) := by decide +kernel
theorem dX4_standsAt_34 : decode cX4_standsAt 34 = .ok (.aload_n 0, 1) := by decide +kernel
theorem dX4_standsAt_35 : decode cX4_standsAt 35 = .ok (.getfield 13, 3) := by decide +kernel
theorem dX4_standsAt_38 : decode cX4_standsAt 38 = .ok (.iload_n 3, 1) := by decide +kernel
theorem dX4_standsAt_39 : decode cX4_standsAt 39 = .ok (.iaload, 1) := by decide +kernel
theorem dX4_standsAt_40 : decode cX4_standsAt 40 = .ok (.if_icmp .eq 5, 3) := by decide +kernel
theorem dX4_standsAt_43 : decode cX4_standsAt 43 = .ok (.iconst 0, 1) := by decide +kernel
theorem dX4_standsAt_44 : decode cX4_standsAt 44 = .ok (.ireturn, 1) := by decide +kernel
theorem dX4_standsAt_45 : decode cX4_standsAt 45 = .ok (.iinc 3 1, 3) := by decide +kernel
theorem dX4_standsAt_48 : decode cX4_standsAt 48 = .ok (.goto (-30), 3) := by decide +kernel
theorem dX4_standsAt_51 : decode cX4_standsAt 51 = .ok (.iconst 1, 1) := by decide +kernel
theorem dX4_standsAt_52 : decode cX4_standsAt 52 = .ok (.ireturn, 1) := by decide +kernel
theorem dX4_writeTo_0 : decode cX4_writeTo 0 = .ok (.iconst 1, 1) := by decide +kernel
theorem dX4_writeTo_1 : decode cX4_writeTo 1 = .ok (.istore 4, 2) := by decide +kernel
theorem dX4_writeTo_3 : decode cX4_writeTo 3 = .ok (.iconst 0, 1) := by decide +kernel
theorem dX4_writeTo_4 : decode cX4_writeTo 4 = .ok (.istore 5, 2) := by decide +kernel
theorem dX4_writeTo_6 : decode cX4_writeTo 6 = .ok (.iload 5, 2) := by decide +kernel
theorem dX4_writeTo_8 : decode cX4_writeTo 8 = .ok (.aload_n 0, 1) := by decide +kernel
theorem dX4_writeTo_9 : decode cX4_writeTo 9 = .ok (.getfield 19, 3) := by decide +kernel
theorem dX4_writeTo_12 : decode cX4_writeTo 12 = .ok (.arraylength, 1) := by decide +kernel
theorem dX4_writeTo_13 : decode cX4_writeTo 13 = .ok (.if_icmp .ge 29, 3) := by decide +kernel
theorem dX4_writeTo_16 : decode cX4_writeTo 16 = .ok (.iload 4, 2) := by decide +kernel
theorem dX4_writeTo_18 : decode cX4_writeTo 18 = .ok (.ifCond .eq 24, 3) := by decide +kernel
theorem dX4_writeTo_21 : decode cX4_writeTo 21 = .ok (.aload_n 1, 1) := by decide +kernel
theorem dX4_writeTo_22 : decode cX4_writeTo 22 = .ok (.aload_n 0, 1) := by decide +kernel
theorem dX4_writeTo_23 : decode cX4_writeTo 23 = .ok (.getfield 19, 3) := by decide +kernel
theorem dX4_writeTo_26 : decode cX4_writeTo 26 = .ok (.iload 5, 2) := by decide +kernel
theorem dX4_writeTo_28 : decode cX4_writeTo 28 = .ok (.iaload, 1) := by decide +kernel
theorem dX4_writeTo_29 : decode cX4_writeTo 29 = .ok (.iload_n 2, 1) := by decide +kernel
theorem dX4_writeTo_30 : decode cX4_writeTo 30 = .ok (.iload_n 3, 1) := by decide +kernel
theorem dX4_writeTo_31 : decode cX4_writeTo 31 = .ok (.invokevirtual 30, 3) := by decide +kernel
theorem dX4_writeTo_34 : decode cX4_writeTo 34 = .ok (.istore 4, 2) := by decide +kernel
theorem dX4_writeTo_36 : decode cX4_writeTo 36 = .ok (.iinc 5 1, 3) := by decide +kernel
theorem dX4_writeTo_39 : decode cX4_writeTo 39 = .ok (.goto (-33), 3) := by decide +kernel
theorem dX4_writeTo_42 : decode cX4_writeTo 42 = .ok (.iload 4, 2) := by decide +kernel
theorem dX4_writeTo_44 : decode cX4_writeTo 44 = .ok (.ireturn, 1) := by decide +kernel
theorem dX5_init_0 : decode cX5_init 0 = .ok (.aload_n 0, 1) := by decide +kernel
theorem dX5_init_1 : decode cX5_init 1 = .ok (.invokespecial 3, 3) := by decide +kernel
theorem dX5_init_4 : decode cX5_init 4 = .ok (.aload_n 0, 1) := by decide +kernel
theorem dX5_init_5 : decode cX5_init 5 = .ok (.sipush 300, 3) := by decide +kernel
theorem dX5_init_8 : decode cX5_init 8 = .ok (.newarray .int, 2) := by decide +kernel
theorem dX5_init_10 : decode cX5_init 10 = .ok (.putfield 9, 3) := by decide +kernel
theorem dX5_init_13 : decode cX5_init 13 = .ok (.aload_n 0, 1) := by decide +kernel
theorem dX5_init_14 : decode cX5_init 14 = .ok (.sipush 300, 3) := by decide +kernel
theorem dX5_init_17 : decode cX5_init 17 = .ok (.newarray .int, 2) := by decide +kernel
theorem dX5_init_19 : decode cX5_init 19 = .ok (.putfield 15, 3) := by decide +kernel
theorem dX5_init_22 : decode cX5_init 22 = .ok (.aload_n 0, 1) := by decide +kernel
theorem dX5_init_23 : decode cX5_init 23 = .ok (.sipush 300, 3) := by decide +kernel
theorem dX5_init_26 : decode cX5_init 26 = .ok (.newarray .int, 2) := by decide +kernel
theorem dX5_init_28 : decode cX5_init 28 = .ok (.putfield 18, 3) := by decide +kernel
theorem dX5_init_31 : decode cX5_init 31 = .ok (.aload_n 0, 1) := by decide +kernel
theorem dX5_init_32 : decode cX5_init 32 = .ok (.iconst 0, 1) := by decide +kernel
theorem dX5_init_33 : decode cX5_init 33 = .ok (.putfield 21, 3) := by decide +kernel
theorem dX5_init_36 : decode cX5_init 36 = .ok (.return_, 1) := by decide +kernel
theorem dX5_size_0 : decode cX5_size 0 = .ok (.aload_n 0, 1) := by decide +kernel
theorem dX5_size_1 : decode cX5_size 1 = .ok (.getfield 21, 3) := by decide +kernel
theorem dX5_size_4 : decode cX5_size 4 = .ok (.ireturn, 1) := by decide +kernel
theorem dX5_has_0 : decode cX5_has 0 = .ok (.iload_n 1, 1) := by decide +kernel
theorem dX5_has_1 : decode cX5_has 1 = .ok (.ifCond .lt 15, 3) := by decide +kernel
theorem dX5_has_4 : decode cX5_has 4 = .ok (.iload_n 1, 1) := by decide +kernel
theorem dX5_has_5 : decode cX5_has 5 = .ok (.aload_n 0, 1) := by decide +kernel
theorem dX5_has_6 : decode cX5_has 6 = .ok (.getfield 21, 3) := by decide +kernel
theorem dX5_has_9 : decode cX5_has 9 = .ok (.if_icmp .ge 7, 3) := by decide +kernel
theorem dX5_has_12 : decode cX5_has 12 = .ok (.iconst 1, 1) := by decide +kernel
theorem dX5_has_13 : decode cX5_has 13 = .ok (.goto 4, 3) := by decide +kernel
theorem dX5_has_16 : decode cX5_has 16 = .ok (.iconst 0, 1) := by decide +kernel
theorem dX5_has_17 : decode cX5_has 17 = .ok (.ireturn, 1) := by decide +kernel
theorem dX5_signAt_0 : decode cX5_signAt 0 = .ok (.aload_n 0, 1) := by decide +kernel
theorem dX5_signAt_1 : decode cX5_signAt 1 = .ok (.iload_n 1, 1) := by decide +kernel
theorem dX5_signAt_2 : decode cX5_signAt 2 = .ok (.invokevirtual 25, 3) := by decide +kernel
theorem dX5_signAt_5 : decode cX5_signAt 5 = .ok (.ifCond .eq 12, 3) := by decide +kernel
theorem dX5_signAt_8 : decode cX5_signAt 8 = .ok (.aload_n 0, 1) := by decide +kernel
theorem dX5_signAt_9 : decode cX5_signAt 9 = .ok (.getfield 9, 3) := by decide +kernel
theorem dX5_signAt_12 : decode cX5_signAt 12 = .ok (.iload_n 1, 1) := by decide +kernel
theorem dX5_signAt_13 : decode cX5_signAt 13 = .ok (.iaload, 1) := by decide +kernel
theorem dX5_signAt_14 : decode cX5_signAt 14 = .ok (.goto 4, 3) := by decide +kernel
theorem dX5_signAt_17 : decode cX5_signAt 17 = .ok (.iconst (-1), 1) := by decide +kernel
theorem dX5_signAt_18 : decode cX5_signAt 18 = .ok (.ireturn, 1) := by decide +kernel
theorem dX5_beginAt_0 : decode cX5_beginAt 0 = .ok (.aload_n 0, 1) := by decide +kernel
theorem dX5_beginAt_1 : decode cX5_beginAt 1 = .ok (.iload_n 1, 1) := by decide +kernel
theorem dX5_beginAt_2 : decode cX5_beginAt 2 = .ok (.invokevirtual 25, 3) := by decide +kernel
theorem dX5_beginAt_5 : decode cX5_beginAt 5 = .ok (.ifCond .eq 12, 3) := by decide +kernel
theorem dX5_beginAt_8 : decode cX5_beginAt 8 = .ok (.aload_n 0, 1) := by decide +kernel
theorem dX5_beginAt_9 : decode cX5_beginAt 9 = .ok (.getfield 15, 3) := by decide +kernel
theorem dX5_beginAt_12 : decode cX5_beginAt 12 = .ok (.iload_n 1, 1) := by decide +kernel
theorem dX5_beginAt_13 : decode cX5_beginAt 13 = .ok (.iaload, 1) := by decide +kernel
theorem dX5_beginAt_14 : decode cX5_beginAt 14 = .ok (.goto 4, 3) := by decide +kernel
theorem dX5_beginAt_17 : decode cX5_beginAt 17 = .ok (.iconst 0, 1) := by decide +kernel
theorem dX5_beginAt_18 : decode cX5_beginAt 18 = .ok (.ireturn, 1) := by decide +kernel
theorem dX5_endAt_0 : decode cX5_endAt 0 = .ok (.aload_n 0, 1) := by decide +kernel
theorem dX5_endAt_1 : decode cX5_endAt 1 = .ok (.iload_n 1, 1) := by decide +kernel
theorem dX5_endAt_2 : decode cX5_endAt 2 = .ok (.invokevirtual 25, 3) := by decide +kernel
theorem dX5_endAt_5 : decode cX5_endAt 5 = .ok (.ifCond .eq 12, 3) := by decide +kernel
theorem dX5_endAt_8 : decode cX5_endAt 8 = .ok (.aload_n 0, 1) := by decide +kernel
theorem dX5_endAt_9 : decode cX5_endAt 9 = .ok (.getfield 18, 3) := by decide +kernel
theorem dX5_endAt_12 : decode cX5_endAt 12 = .ok (.iload_n 1, 1) := by decide +kernel
theorem dX5_endAt_13 : decode cX5_endAt 13 = .ok (.iaload, 1) := by decide +kernel
theorem dX5_endAt_14 : decode cX5_endAt 14 = .ok (.goto 4, 3) := by decide +kernel
theorem dX5_endAt_17 : decode cX5_endAt 17 = .ok (.iconst 0, 1) := by decide +kernel
theorem dX5_endAt_18 : decode cX5_endAt 18 = .ok (.ireturn, 1) := by decide +kernel
theorem dX5_clear_0 : decode cX5_clear 0 = .ok (.aload_n 0, 1) := by decide +kernel
theorem dX5_clear_1 : decode cX5_clear 1 = .ok (.iconst 0, 1) := by decide +kernel
theorem dX5_clear_2 : decode cX5_clear 2 = .ok (.putfield 21, 3) := by decide +kernel
theorem dX5_clear_5 : decode cX5_clear 5 = .ok (.return_, 1) := by decide +kernel
theorem dX5_add_0 : decode cX5_add 0 = .ok (.aload_n 0, 1) := by decide +kernel
theorem dX5_add_1 : decode cX5_add 1 = .ok (.getfield 21, 3) := by decide +kernel
theorem dX5_add_4 : decode cX5_add 4 = .ok (.sipush 300, 3) := by decide +kernel
theorem dX5_add_7 : decode cX5_add 7 = .ok (.if_icmp .lt 5, 3) := by decide +kernel
theorem dX5_add_10 : decode cX5_add 10 = .ok (.iconst 0, 1) := by decide +kernel
theorem dX5_add_11 : decode cX5_add 11 = .ok (.ireturn, 1) := by decide +kernel
theorem dX5_add_12 : decode cX5_add 12 = .ok (.aload_n 0, 1) := by decide +kernel
theorem dX5_add_13 : decode cX5_add 13 = .ok (.getfield 9, 3) := by decide +kernel
theorem dX5_add_16 : decode cX5_add 16 = .ok (.aload_n 0, 1) := by decide +kernel
theorem dX5_add_17 : decode cX5_add 17 = .ok (.getfield 21, 3) := by decide +kernel
theorem dX5_add_20 : decode cX5_add 20 = .ok (.iload_n 1, 1) := by decide +kernel
theorem dX5_add_21 : decode cX5_add 21 = .ok (.iastore, 1) := by decide +kernel
theorem dX5_add_22 : decode cX5_add 22 = .ok (.aload_n 0, 1) := by decide +kernel
theorem dX5_add_23 : decode cX5_add 23 = .ok (.getfield 15, 3) := by decide +kernel
theorem dX5_add_26 : decode cX5_add 26 = .ok (.aload_n 0, 1) := by decide +kernel
theorem dX5_add_27 : decode cX5_add 27 = .ok (.getfield 21, 3) := by decide +kernel
theorem dX5_add_30 : decode cX5_add 30 = .ok (.iload_n 2, 1) := by decide +kernel
theorem dX5_add_31 : decode cX5_add 31 = .ok (.iastore, 1) := by decide +kernel
theorem dX5_add_32 : decode cX5_add 32 = .ok (.aload_n 0, 1) := by decide +kernel
theorem dX5_add_33 : decode cX5_add 33 = .ok (.getfield 18, 3) := by decide +kernel
theorem dX5_add_36 : decode cX5_add 36 = .ok (.aload_n 0, 1) := by decide +kernel
theorem dX5_add_37 : decode cX5_add 37 = .ok (.getfield 21, 3) := by decide +kernel
theorem dX5_add_40 : decode cX5_add 40 = .ok (.iload_n 3, 1) := by decide +kernel
theorem dX5_add_41 : decode cX5_add 41 = .ok (.iastore, 1) := by decide +kernel
theorem dX5_add_42 : decode cX5_add 42 = .ok (.aload_n 0, 1) := by decide +kernel
theorem dX5_add_43 : decode cX5_add 43 = .ok (.dup, 1) := by decide +kernel
theorem dX5_add_44 : decode cX5_add 44 = .ok (.getfield 21, 3) := by decide +kernel
theorem dX5_add_47 : decode cX5_add 47 = .ok (.iconst 1, 1) := by decide +kernel
theorem dX5_add_48 : decode cX5_add 48 = .ok (.iadd, 1) := by decide +kernel
theorem dX5_add_49 : decode cX5_add 49 = .ok (.putfield 21, 3) := by decide +kernel
theorem dX5_add_52 : decode cX5_add 52 = .ok (.iconst 1, 1) := by decide +kernel
theorem dX5_add_53 : decode cX5_add 53 = .ok (.ireturn, 1) := by decide +kernel
theorem dX5_changeLast_0 : decode cX5_changeLast 0 = .ok (.aload_n 0, 1) := by decide +kernel
theorem dX5_changeLast_1 : decode cX5_changeLast 1 = .ok (.getfield 21, 3) := by decide +kernel
theorem dX5_changeLast_4 : decode cX5_changeLast 4 = .ok (.ifCond .le 27, 3) := by decide +kernel
theorem dX5_changeLast_7 : decode cX5_changeLast 7 = .ok (.aload_n 0, 1) := by decide +kernel
theorem dX5_changeLast_8 : decode cX5_changeLast 8 = .ok (.getfield 9, 3) := by decide +kernel
theorem dX5_changeLast_11 : decode cX5_changeLast 11 = .ok (.aload_n 0, 1) := by decide +kernel
theorem dX5_changeLast_12 : decode cX5_changeLast 12 = .ok (.getfield 21, 3) := by decide +kernel
theorem dX5_changeLast_15 : decode cX5_changeLast 15 = .ok (.iconst 1, 1) := by decide +kernel
theorem dX5_changeLast_16 : decode cX5_changeLast 16 = .ok (.isub, 1) := by decide +kernel
theorem dX5_changeLast_17 : decode cX5_changeLast 17 = .ok (.iload_n 1, 1) := by decide +kernel
theorem dX5_changeLast_18 : decode cX5_changeLast 18 = .ok (.iastore, 1) := by decide +kernel
theorem dX5_changeLast_19 : decode cX5_changeLast 19 = .ok (.aload_n 0, 1) := by decide +kernel
theorem dX5_changeLast_20 : decode cX5_changeLast 20 = .ok (.getfield 18, 3) := by decide +kernel
theorem dX5_changeLast_23 : decode cX5_changeLast 23 = .ok (.aload_n 0, 1) := by decide +kernel
theorem dX5_changeLast_24 : decode cX5_changeLast 24 = .ok (.getfield 21, 3) := by decide +kernel
theorem dX5_changeLast_27 : decode cX5_changeLast 27 = .ok (.iconst 1, 1) := by decide +kernel
theorem dX5_changeLast_28 : decode cX5_changeLast 28 = .ok (.isub, 1) := by decide +kernel
theorem dX5_changeLast_29 : decode cX5_changeLast 29 = .ok (.iload_n 2, 1) := by decide +kernel
theorem dX5_changeLast_30 : decode cX5_changeLast 30 = .ok (.iastore, 1) := by decide +kernel
theorem dX5_changeLast_31 : decode cX5_changeLast 31 = .ok (.return_, 1) := by decide +kernel
theorem dX5_copyFrom_0 : decode cX5_copyFrom 0 = .ok (.aload_n 0, 1) := by decide +kernel
theorem dX5_copyFrom_1 : decode cX5_copyFrom 1 = .ok (.invokevirtual 29, 3) := by decide +kernel
theorem dX5_copyFrom_4 : decode cX5_copyFrom 4 = .ok (.iconst 0, 1) := by decide +kernel
theorem dX5_copyFrom_5 : decode cX5_copyFrom 5 = .ok (.istore_n 2, 1) := by decide +kernel
theorem dX5_copyFrom_6 : decode cX5_copyFrom 6 = .ok (.iload_n 2, 1) := by decide +kernel
theorem dX5_copyFrom_7 : decode cX5_copyFrom 7 = .ok (.aload_n 1, 1) := by decide +kernel
theorem dX5_copyFrom_8 : decode cX5_copyFrom 8 = .ok (.invokevirtual 32, 3) := by decide +kernel
theorem dX5_copyFrom_11 : decode cX5_copyFrom 11 = .ok (.if_icmp .ge 29, 3) := by decide +kernel
theorem dX5_copyFrom_14 : decode cX5_copyFrom 14 = .ok (.aload_n 0, 1) := by decide +kernel
theorem dX5_copyFrom_15 : decode cX5_copyFrom 15 = .ok (.aload_n 1, 1) := by decide +kernel
theorem dX5_copyFrom_16 : decode cX5_copyFrom 16 = .ok (.iload_n 2, 1) := by decide +kernel
theorem dX5_copyFrom_17 : decode cX5_copyFrom 17 = .ok (.invokevirtual 35, 3) := by decide +kernel
theorem dX5_copyFrom_20 : decode cX5_copyFrom 20 = .ok (.aload_n 1, 1) := by decide +kernel
theorem dX5_copyFrom_21 : decode cX5_copyFrom 21 = .ok (.iload_n 2, 1) := by decide +kernel
theorem dX5_copyFrom_22 : decode cX5_copyFrom 22 = .ok (.invokevirtual 39, 3) := by decide +kernel
theorem dX5_copyFrom_25 : decode cX5_copyFrom 25 = .ok (.aload_n 1, 1) := by decide +kernel
theorem dX5_copyFrom_26 : decode cX5_copyFrom 26 = .ok (.iload_n 2, 1) := by decide +kernel
theorem dX5_copyFrom_27 : decode cX5_copyFrom 27 = .ok (.invokevirtual 42, 3) := by decide +kernel
theorem dX5_copyFrom_30 : decode cX5_copyFrom 30 = .ok (.invokevirtual 45, 3) := by decide +kernel
theorem dX5_copyFrom_33 : decode cX5_copyFrom 33 = .ok (.pop, 1) := by decide +kernel
theorem dX5_copyFrom_34 : decode cX5_copyFrom 34 = .ok (.iinc 2 1, 3) := by decide +kernel
theorem dX5_copyFrom_37 : decode cX5_copyFrom 37 = .ok (.goto (-31), 3) := by decide +kernel
theorem dX5_copyFrom_40 : decode cX5_copyFrom 40 = .ok (.return_, 1) := by decide +kernel
theorem dX5_signsAlone_0 : decode cX5_signsAlone 0 = .ok (.aload_n 0, 1) := by decide +kernel
theorem dX5_signsAlone_1 : decode cX5_signsAlone 1 = .ok (.getfield 9, 3) := by decide +kernel
theorem dX5_signsAlone_4 : decode cX5_signsAlone 4 = .ok (.aload_n 0, 1) := by decide +kernel
theorem dX5_signsAlone_5 : decode cX5_signsAlone 5 = .ok (.getfield 21, 3) := by decide +kernel
theorem dX5_signsAlone_8 : decode cX5_signsAlone 8 = .ok (.invokestatic 49, 3) := by decide +kernel
theorem dX5_signsAlone_11 : decode cX5_signsAlone 11 = .ok (.areturn, 1) := by decide +kernel
theorem dX6_init_0 : decode cX6_init 0 = .ok (.aload_n 0, 1) := by decide +kernel
theorem dX6_init_1 : decode cX6_init 1 = .ok (.invokespecial 3, 3) := by decide +kernel
theorem dX6_init_4 : decode cX6_init 4 = .ok (.aload_n 0, 1) := by decide +kernel
theorem dX6_init_5 : decode cX6_init 5 = .ok (.bipush 20, 2) := by decide +kernel
theorem dX6_init_7 : decode cX6_init 7 = .ok (.anewarray 9, 3) := by decide +kernel
theorem dX6_init_10 : decode cX6_init 10 = .ok (.putfield 11, 3) := by decide +kernel
theorem dX6_init_13 : decode cX6_init 13 = .ok (.aload_n 0, 1) := by decide +kernel
theorem dX6_init_14 : decode cX6_init 14 = .ok (.iconst 0, 1) := by decide +kernel
theorem dX6_init_15 : decode cX6_init 15 = .ok (.putfield 17, 3) := by decide +kernel
theorem dX6_init_18 : decode cX6_init 18 = .ok (.return_, 1) := by decide +kernel
theorem dX6_size_0 : decode cX6_size 0 = .ok (.aload_n 0, 1) := by decide +kernel
theorem dX6_size_1 : decode cX6_size 1 = .ok (.getfield 17, 3) := by decide +kernel
theorem dX6_size_4 : decode cX6_size 4 = .ok (.ireturn, 1) := by decide +kernel
theorem dX6_put_0 : decode cX6_put 0 = .ok (.aload_n 0, 1) := by decide +kernel
theorem dX6_put_1 : decode cX6_put 1 = .ok (.aload_n 1, 1) := by decide +kernel
theorem dX6_put_2 : decode cX6_put 2 = .ok (.invokevirtual 21, 3) := by decide +kernel
theorem dX6_put_5 : decode cX6_put 5 = .ok (.istore_n 3, 1) := by decide +kernel
theorem dX6_put_6 : decode cX6_put 6 = .ok (.iload_n 3, 1) := by decide +kernel
theorem dX6_put_7 : decode cX6_put 7 = .ok (.iconst (-1), 1) := by decide +kernel
theorem dX6_put_8 : decode cX6_put 8 = .ok (.if_icmp .ne 29, 3) := by decide +kernel
theorem dX6_put_11 : decode cX6_put 11 = .ok (.aload_n 0, 1) := by decide +kernel
theorem dX6_put_12 : decode cX6_put 12 = .ok (.getfield 17, 3) := by decide +kernel
theorem dX6_put_15 : decode cX6_put 15 = .ok (.bipush 20, 2) := by decide +kernel
theorem dX6_put_17 : decode cX6_put 17 = .ok (.if_icmp .lt 5, 3) := by decide +kernel
theorem dX6_put_20 : decode cX6_put 20 = .ok (.iconst 0, 1) := by decide +kernel
theorem dX6_put_21 : decode cX6_put 21 = .ok (.ireturn, 1) := by decide +kernel
theorem dX6_put_22 : decode cX6_put 22 = .ok (.aload_n 0, 1) := by decide +kernel
theorem dX6_put_23 : decode cX6_put 23 = .ok (.getfield 17, 3) := by decide +kernel
theorem dX6_put_26 : decode cX6_put 26 = .ok (.istore_n 3, 1) := by decide +kernel
theorem dX6_put_27 : decode cX6_put 27 = .ok (.aload_n 0, 1) := by decide +kernel
theorem dX6_put_28 : decode cX6_put 28 = .ok (.dup, 1) := by decide +kernel
theorem dX6_put_29 : decode cX6_put 29 = .ok (.getfield 17, 3) := by decide +kernel
theorem dX6_put_32 : decode cX6_put 32 = .ok (.iconst 1, 1) := by decide +kernel
theorem dX6_put_33 : decode cX6_put 33 = .ok (.iadd, 1) := by decide +kernel
theorem dX6_put_34 : decode cX6_put 34 = .ok (.putfield 17, 3) := by decide +kernel
theorem dX6_put_37 : decode cX6_put 37 = .ok (.aload_n 0, 1) := by decide +kernel
theorem dX6_put_38 : decode cX6_put 38 = .ok (.getfield 11, 3) := by decide +kernel
theorem dX6_put_41 : decode cX6_put 41 = .ok (.iload_n 3, 1) := by decide +kernel
theorem dX6_put_42 : decode cX6_put 42 = .ok (.new 9, 3) := by decide +kernel
theorem dX6_put_45 : decode cX6_put 45 = .ok (.dup, 1) := by decide +kernel
theorem dX6_put_46 : decode cX6_put 46 = .ok (.aload_n 1, 1) := by decide +kernel
theorem dX6_put_47 : decode cX6_put 47 = .ok (.aload_n 2, 1) := by decide +kernel
theorem dX6_put_48 : decode cX6_put 48 = .ok (.invokespecial 25, 3) := by decide +kernel
theorem dX6_put_51 : decode cX6_put 51 = .ok (.aastore, 1) := by decide +kernel
theorem dX6_put_52 : decode cX6_put 52 = .ok (.iconst 1, 1) := by decide +kernel
theorem dX6_put_53 : decode cX6_put 53 = .ok (.ireturn, 1) := by decide +kernel
theorem dX6_slotOf_0 : decode cX6_slotOf 0 = .ok (.iconst 0, 1) := by decide +kernel
theorem dX6_slotOf_1 : decode cX6_slotOf 1 = .ok (.istore_n 2, 1) := by decide +kernel
theorem dX6_slotOf_2 : decode cX6_slotOf 2 = .ok (.iload_n 2, 1) := by decide +kernel
theorem dX6_slotOf_3 : decode cX6_slotOf 3 = .ok (.aload_n 0, 1) := by decide +kernel
theorem dX6_slotOf_4 : decode cX6_slotOf 4 = .ok (.getfield 17, 3) := by decide +kernel
theorem dX6_slotOf_7 : decode cX6_slotOf 7 = .ok (.if_icmp .ge 42, 3) := by decide +kernel
theorem dX6_slotOf_10 : decode cX6_slotOf 10 = .ok (.aload_n 0, 1) := by decide +kernel
theorem dX6_slotOf_11 : decode cX6_slotOf 11 = .ok (.getfield 11, 3) := by decide +kernel
theorem dX6_slotOf_14 : decode cX6_slotOf 14 = .ok (.iload_n 2, 1) := by decide +kernel
theorem dX6_slotOf_15 : decode cX6_slotOf 15 = .ok (.aaload, 1) := by decide +kernel
theorem dX6_slotOf_16 : decode cX6_slotOf 16 = .ok (.astore_n 3, 1) := by decide +kernel
theorem dX6_slotOf_17 : decode cX6_slotOf 17 = .ok (.aload_n 3, 1) := by decide +kernel
theorem dX6_slotOf_18 : decode cX6_slotOf 18 = .ok (.ifnull 25, 3) := by decide +kernel
theorem dX6_slotOf_21 : decode cX6_slotOf 21 = .ok (.aload_n 3, 1) := by decide +kernel
theorem dX6_slotOf_22 : decode cX6_slotOf 22 = .ok (.invokevirtual 28, 3) := by decide +kernel
theorem dX6_slotOf_25 : decode cX6_slotOf 25 = .ok (.aload_n 1, 1) := by decide +kernel
theorem dX6_slotOf_26 : decode cX6_slotOf 26 = .ok (.invokevirtual 32, 3) := by decide +kernel
theorem dX6_slotOf_29 : decode cX6_slotOf 29 = .ok (.if_icmp .ne 14, 3) := by decide +kernel
theorem dX6_slotOf_32 : decode cX6_slotOf 32 = .ok (.aload_n 3, 1) := by decide +kernel
theorem dX6_slotOf_33 : decode cX6_slotOf 33 = .ok (.aload_n 1, 1) := by decide +kernel
theorem dX6_slotOf_34 : decode cX6_slotOf 34 = .ok (.iconst 0, 1) := by decide +kernel
theorem dX6_slotOf_35 : decode cX6_slotOf 35 = .ok (.invokevirtual 36, 3) := by decide +kernel
theorem dX6_slotOf_38 : decode cX6_slotOf 38 = .ok (.ifCond .eq 5, 3) := by decide +kernel
theorem dX6_slotOf_41 : decode cX6_slotOf 41 = .ok (.iload_n 2, 1) := by decide +kernel
theorem dX6_slotOf_42 : decode cX6_slotOf 42 = .ok (.ireturn, 1) := by decide +kernel
theorem dX6_slotOf_43 : decode cX6_slotOf 43 = .ok (.iinc 2 1, 3) := by decide +kernel
theorem dX6_slotOf_46 : decode cX6_slotOf 46 = .ok (.goto (-44), 3) := by decide +kernel
theorem dX6_slotOf_49 : decode cX6_slotOf 49 = .ok (.iconst (-1), 1) := by decide +kernel
theorem dX6_slotOf_50 : decode cX6_slotOf 50 = .ok (.ireturn, 1) := by decide +kernel
theorem dX6_longestAt_0 : decode cX6_longestAt 0 = .ok (.aconst_null, 1) := by decide +kernel
theorem dX6_longestAt_1 : decode cX6_longestAt 1 = .ok (.astore_n 3, 1) := by decide +kernel
theorem dX6_longestAt_2 : decode cX6_longestAt 2 = .ok (.iconst 0, 1) := by decide +kernel
theorem dX6_longestAt_3 : decode cX6_longestAt 3 = .ok (.istore 4, 2) := by decide +kernel
theorem dX6_longestAt_5 : decode cX6_longestAt 5 = .ok (.iload 4, 2) := by decide +kernel
theorem dX6_longestAt_7 : decode cX6_longestAt 7 = .ok (.aload_n 0, 1) := by decide +kernel
theorem dX6_longestAt_8 : decode cX6_longestAt 8 = .ok (.getfield 17, 3) := by decide +kernel
theorem dX6_longestAt_11 : decode cX6_longestAt 11 = .ok (.if_icmp .ge 52, 3) := by decide +kernel
theorem dX6_longestAt_14 : decode cX6_longestAt 14 = .ok (.aload_n 0, 1) := by decide +kernel
theorem dX6_longestAt_15 : decode cX6_longestAt 15 = .ok (.getfield 11, 3) := by decide +kernel
theorem dX6_longestAt_18 : decode cX6_longestAt 18 = .ok (.iload 4, 2) := by decide +kernel
theorem dX6_longestAt_20 : decode cX6_longestAt 20 = .ok (.aaload, 1) := by decide +kernel
theorem dX6_longestAt_21 : decode cX6_longestAt 21 = .ok (.astore 5, 2) := by decide +kernel
theorem dX6_longestAt_23 : decode cX6_longestAt 23 = .ok (.aload 5, 2) := by decide +kernel
theorem dX6_longestAt_25 : decode cX6_longestAt 25 = .ok (.ifnull 32, 3) := by decide +kernel
theorem dX6_longestAt_28 : decode cX6_longestAt 28 = .ok (.aload 5, 2) := by decide +kernel
theorem dX6_longestAt_30 : decode cX6_longestAt 30 = .ok (.aload_n 1, 1) := by decide +kernel
theorem dX6_longestAt_31 : decode cX6_longestAt 31 = .ok (.iload_n 2, 1) := by decide +kernel
theorem dX6_longestAt_32 : decode cX6_longestAt 32 = .ok (.invokevirtual 36, 3) := by decide +kernel
theorem dX6_longestAt_35 : decode cX6_longestAt 35 = .ok (.ifCond .eq 22, 3) := by decide +kernel
theorem dX6_longestAt_38 : decode cX6_longestAt 38 = .ok (.aload_n 3, 1) := by decide +kernel
theorem dX6_longestAt_39 : decode cX6_longestAt 39 = .ok (.ifnull 15, 3) := by decide +kernel
theorem dX6_longestAt_42 : decode cX6_longestAt 42 = .ok (.aload 5, 2) := by decide +kernel
theorem dX6_longestAt_44 : decode cX6_longestAt 44 = .ok (.invokevirtual 28, 3) := by decide +kernel
theorem dX6_longestAt_47 : decode cX6_longestAt 47 = .ok (.aload_n 3, 1) := by decide +kernel
theorem dX6_longestAt_48 : decode cX6_longestAt 48 = .ok (.invokevirtual 28, 3) := by decide +kernel
theorem dX6_longestAt_51 : decode cX6_longestAt 51 = .ok (.if_icmp .le 6, 3) := by decide +kernel
theorem dX6_longestAt_54 : decode cX6_longestAt 54 = .ok (.aload 5, 2) := by decide +kernel
theorem dX6_longestAt_56 : decode cX6_longestAt 56 = .ok (.astore_n 3, 1) := by decide +kernel
theorem dX6_longestAt_57 : decode cX6_longestAt 57 = .ok (.iinc 4 1, 3) := by decide +kernel
theorem dX6_longestAt_60 : decode cX6_longestAt 60 = .ok (.goto (-55), 3) := by decide +kernel
theorem dX6_longestAt_63 : decode cX6_longestAt 63 = .ok (.aload_n 3, 1) := by decide +kernel
theorem dX6_longestAt_64 : decode cX6_longestAt 64 = .ok (.areturn, 1) := by decide +kernel
theorem dX7_init_0 : decode cX7_init 0 = .ok (.aload_n 0, 1) := by decide +kernel
theorem dX7_init_1 : decode cX7_init 1 = .ok (.invokespecial 3, 3) := by decide +kernel
theorem dX7_init_4 : decode cX7_init 4 = .ok (.aload_n 0, 1) := by decide +kernel
theorem dX7_init_5 : decode cX7_init 5 = .ok (.bipush 10, 2) := by decide +kernel
theorem dX7_init_7 : decode cX7_init 7 = .ok (.newarray .int, 2) := by decide +kernel
theorem dX7_init_9 : decode cX7_init 9 = .ok (.putfield 9, 3) := by decide +kernel
theorem dX7_init_12 : decode cX7_init 12 = .ok (.aload_n 0, 1) := by decide +kernel
theorem dX7_init_13 : decode cX7_init 13 = .ok (.iconst 0, 1) := by decide +kernel
theorem dX7_init_14 : decode cX7_init 14 = .ok (.putfield 15, 3) := by decide +kernel
theorem dX7_init_17 : decode cX7_init 17 = .ok (.return_, 1) := by decide +kernel
theorem dX7_size_0 : decode cX7_size 0 = .ok (.aload_n 0, 1) := by decide +kernel
theorem dX7_size_1 : decode cX7_size 1 = .ok (.getfield 15, 3) := by decide +kernel
theorem dX7_size_4 : decode cX7_size 4 = .ok (.ireturn, 1) := by decide +kernel
theorem dX7_add_0 : decode cX7_add 0 = .ok (.aload_n 0, 1) := by decide +kernel
theorem dX7_add_1 : decode cX7_add 1 = .ok (.getfield 15, 3) := by decide +kernel
theorem dX7_add_4 : decode cX7_add 4 = .ok (.bipush 10, 2) := by decide +kernel
theorem dX7_add_6 : decode cX7_add 6 = .ok (.if_icmp .lt 5, 3) := by decide +kernel
theorem dX7_add_9 : decode cX7_add 9 = .ok (.iconst 0, 1) := by decide +kernel
theorem dX7_add_10 : decode cX7_add 10 = .ok (.ireturn, 1) := by decide +kernel
theorem dX7_add_11 : decode cX7_add 11 = .ok (.aload_n 0, 1) := by decide +kernel
theorem dX7_add_12 : decode cX7_add 12 = .ok (.getfield 9, 3) := by decide +kernel
theorem dX7_add_15 : decode cX7_add 15 = .ok (.aload_n 0, 1) := by decide +kernel
theorem dX7_add_16 : decode cX7_add 16 = .ok (.getfield 15, 3) := by decide +kernel
theorem dX7_add_19 : decode cX7_add 19 = .ok (.iload_n 1, 1) := by decide +kernel
theorem dX7_add_20 : decode cX7_add 20 = .ok (.iastore, 1) := by decide +kernel
theorem dX7_add_21 : decode cX7_add 21 = .ok (.aload_n 0, 1) := by decide +kernel
theorem dX7_add_22 : decode cX7_add 22 = .ok (.dup, 1) := by decide +kernel
theorem dX7_add_23 : decode cX7_add 23 = .ok (.getfield 15, 3) := by decide +kernel
theorem dX7_add_26 : decode cX7_add 26 = .ok (.iconst 1, 1) := by decide +kernel
theorem dX7_add_27 : decode cX7_add 27 = .ok (.iadd, 1) := by decide +kernel
theorem dX7_add_28 : decode cX7_add 28 = .ok (.putfield 15, 3) := by decide +kernel
theorem dX7_add_31 : decode cX7_add 31 = .ok (.iconst 1, 1) := by decide +kernel
theorem dX7_add_32 : decode cX7_add 32 = .ok (.ireturn, 1) := by decide +kernel
theorem dX7_digitOf_0 : decode cX7_digitOf 0 = .ok (.iconst 0, 1) := by decide +kernel
theorem dX7_digitOf_1 : decode cX7_digitOf 1 = .ok (.istore_n 2, 1) := by decide +kernel
theorem dX7_digitOf_2 : decode cX7_digitOf 2 = .ok (.iload_n 2, 1) := by decide +kernel
theorem dX7_digitOf_3 : decode cX7_digitOf 3 = .ok (.aload_n 0, 1) := by decide +kernel
theorem dX7_digitOf_4 : decode cX7_digitOf 4 = .ok (.getfield 15, 3) := by decide +kernel
theorem dX7_digitOf_7 : decode cX7_digitOf 7 = .ok (.if_icmp .ge 41, 3) := by decide +kernel
theorem dX7_digitOf_10 : decode cX7_digitOf 10 = .ok (.iload_n 1, 1) := by decide +kernel
theorem dX7_digitOf_11 : decode cX7_digitOf 11 = .ok (.aload_n 0, 1) := by decide +kernel
theorem dX7_digitOf_12 : decode cX7_digitOf 12 = .ok (.getfield 9, 3) := by decide +kernel
theorem dX7_digitOf_15 : decode cX7_digitOf 15 = .ok (.iload_n 2, 1) := by decide +kernel
theorem dX7_digitOf_16 : decode cX7_digitOf 16 = .ok (.iaload, 1) := by decide +kernel
theorem dX7_digitOf_17 : decode cX7_digitOf 17 = .ok (.if_icmp .lt 25, 3) := by decide +kernel
theorem dX7_digitOf_20 : decode cX7_digitOf 20 = .ok (.iload_n 1, 1) := by decide +kernel
theorem dX7_digitOf_21 : decode cX7_digitOf 21 = .ok (.aload_n 0, 1) := by decide +kernel
theorem dX7_digitOf_22 : decode cX7_digitOf 22 = .ok (.getfield 9, 3) := by decide +kernel
theorem dX7_digitOf_25 : decode cX7_digitOf 25 = .ok (.iload_n 2, 1) := by decide +kernel
theorem dX7_digitOf_26 : decode cX7_digitOf 26 = .ok (.iaload, 1) := by decide +kernel
theorem dX7_digitOf_27 : decode cX7_digitOf 27 = .ok (.bipush 9, 2) := by decide +kernel
theorem dX7_digitOf_29 : decode cX7_digitOf 29 = .ok (.iadd, 1) := by decide +kernel
theorem dX7_digitOf_30 : decode cX7_digitOf 30 = .ok (.if_icmp .gt 12, 3) := by decide +kernel
theorem dX7_digitOf_33 : decode cX7_digitOf 33 = .ok (.iload_n 1, 1) := by decide +kernel
theorem dX7_digitOf_34 : decode cX7_digitOf 34 = .ok (.aload_n 0, 1) := by decide +kernel
theorem dX7_digitOf_35 : decode cX7_digitOf 35 = .ok (.getfield 9, 3) := by decide +kernel
theorem dX7_digitOf_38 : decode cX7_digitOf 38 = .ok (.iload_n 2, 1) := by decide +kernel
theorem dX7_digitOf_39 : decode cX7_digitOf 39 = .ok (.iaload, 1) := by decide +kernel
theorem dX7_digitOf_40 : decode cX7_digitOf 40 = .ok (.isub, 1) := by decide +kernel
theorem dX7_digitOf_41 : decode cX7_digitOf 41 = .ok (.ireturn, 1) := by decide +kernel
theorem dX7_digitOf_42 : decode cX7_digitOf 42 = .ok (.iinc 2 1, 3) := by decide +kernel
theorem dX7_digitOf_45 : decode cX7_digitOf 45 = .ok (.goto (-43), 3) := by decide +kernel
theorem dX7_digitOf_48 : decode cX7_digitOf 48 = .ok (.bipush (-9), 2) := by decide +kernel
theorem dX7_digitOf_50 : decode cX7_digitOf 50 = .ok (.ireturn, 1) := by decide +kernel
theorem dJ9_min_7cf53_0 : decode cJ9_min_7cf53 0 = .ok (.iload_n 0, 1) := by decide +kernel
theorem dJ9_min_7cf53_1 : decode cJ9_min_7cf53 1 = .ok (.iload_n 1, 1) := by decide +kernel
theorem dJ9_min_7cf53_2 : decode cJ9_min_7cf53 2 = .ok (.if_icmp .gt 7, 3) := by decide +kernel
theorem dJ9_min_7cf53_5 : decode cJ9_min_7cf53 5 = .ok (.iload_n 0, 1) := by decide +kernel
theorem dJ9_min_7cf53_6 : decode cJ9_min_7cf53 6 = .ok (.goto 4, 3) := by decide +kernel
theorem dJ9_min_7cf53_9 : decode cJ9_min_7cf53 9 = .ok (.iload_n 1, 1) := by decide +kernel
theorem dJ9_min_7cf53_10 : decode cJ9_min_7cf53 10 = .ok (.ireturn, 1) := by decide +kernel
theorem dJ7_copyOf_59c91_0 : decode cJ7_copyOf_59c91 0 = .ok (.iload_n 1, 1) := by decide +kernel
theorem dJ7_copyOf_59c91_1 : decode cJ7_copyOf_59c91 1 = .ok (.aload_n 0, 1) := by decide +kernel
theorem dJ7_copyOf_59c91_2 : decode cJ7_copyOf_59c91 2 = .ok (.arraylength, 1) := by decide +kernel
theorem dJ7_copyOf_59c91_3 : decode cJ7_copyOf_59c91 3 = .ok (.if_icmp .ne 11, 3) := by decide +kernel
theorem dJ7_copyOf_59c91_6 : decode cJ7_copyOf_59c91 6 = .ok (.aload_n 0, 1) := by decide +kernel
theorem dJ7_copyOf_59c91_7 : decode cJ7_copyOf_59c91 7 = .ok (.invokevirtual 316, 3) := by decide +kernel
theorem dJ7_copyOf_59c91_10 : decode cJ7_copyOf_59c91 10 = .ok (.checkcast 317, 3) := by decide +kernel
theorem dJ7_copyOf_59c91_13 : decode cJ7_copyOf_59c91 13 = .ok (.areturn, 1) := by decide +kernel
theorem dJ7_copyOf_59c91_14 : decode cJ7_copyOf_59c91 14 = .ok (.iload_n 1, 1) := by decide +kernel
theorem dJ7_copyOf_59c91_15 : decode cJ7_copyOf_59c91 15 = .ok (.newarray .int, 2) := by decide +kernel
theorem dJ7_copyOf_59c91_17 : decode cJ7_copyOf_59c91 17 = .ok (.astore_n 2, 1) := by decide +kernel
theorem dJ7_copyOf_59c91_18 : decode cJ7_copyOf_59c91 18 = .ok (.aload_n 0, 1) := by decide +kernel
theorem dJ7_copyOf_59c91_19 : decode cJ7_copyOf_59c91 19 = .ok (.iconst 0, 1) := by decide +kernel
theorem dJ7_copyOf_59c91_20 : decode cJ7_copyOf_59c91 20 = .ok (.aload_n 2, 1) := by decide +kernel
theorem dJ7_copyOf_59c91_21 : decode cJ7_copyOf_59c91 21 = .ok (.iconst 0, 1) := by decide +kernel
theorem dJ7_copyOf_59c91_22 : decode cJ7_copyOf_59c91 22 = .ok (.aload_n 0, 1) := by decide +kernel
theorem dJ7_copyOf_59c91_23 : decode cJ7_copyOf_59c91 23 = .ok (.arraylength, 1) := by decide +kernel
theorem dJ7_copyOf_59c91_24 : decode cJ7_copyOf_59c91 24 = .ok (.iload_n 1, 1) := by decide +kernel
theorem dJ7_copyOf_59c91_25 : decode cJ7_copyOf_59c91 25 = .ok (.invokestatic 304, 3) := by decide +kernel
theorem dJ7_copyOf_59c91_28 : decode cJ7_copyOf_59c91 28 = .ok (.invokestatic 150, 3) := by decide +kernel
theorem dJ7_copyOf_59c91_31 : decode cJ7_copyOf_59c91 31 = .ok (.aload_n 2, 1) := by decide +kernel
theorem dJ7_copyOf_59c91_32 : decode cJ7_copyOf_59c91 32 = .ok (.areturn, 1) := by decide +kernel
end
section
theorem dX8_init_0 : decode cX8_init 0 = .ok (.aload_n 0, 1) := by decide +kernel
theorem dX8_init_1 : decode cX8_init 1 = .ok (.invokespecial 1, 3) := by decide +kernel
theorem dX8_init_4 : decode cX8_init 4 = .ok (.aload_n 0, 1) := by decide +kernel
theorem dX8_init_5 : decode cX8_init 5 = .ok (.bipush 100, 2) := by decide +kernel
theorem dX8_init_7 : decode cX8_init 7 = .ok (.newarray .int, 2) := by decide +kernel
theorem dX8_init_9 : decode cX8_init 9 = .ok (.putfield 9, 3) := by decide +kernel
theorem dX8_init_12 : decode cX8_init 12 = .ok (.aload_n 0, 1) := by decide +kernel
theorem dX8_init_13 : decode cX8_init 13 = .ok (.iconst 0, 1) := by decide +kernel
theorem dX8_init_14 : decode cX8_init 14 = .ok (.putfield 13, 3) := by decide +kernel
theorem dX8_init_17 : decode cX8_init 17 = .ok (.aload_n 0, 1) := by decide +kernel
theorem dX8_init_18 : decode cX8_init 18 = .ok (.iconst 0, 1) := by decide +kernel
theorem dX8_init_19 : decode cX8_init 19 = .ok (.putfield 17, 3) := by decide +kernel
theorem dX8_init_22 : decode cX8_init 22 = .ok (.aload_n 0, 1) := by decide +kernel
theorem dX8_init_23 : decode cX8_init 23 = .ok (.new 20, 3) := by decide +kernel
theorem dX8_init_26 : decode cX8_init 26 = .ok (.dup, 1) := by decide +kernel
theorem dX8_init_27 : decode cX8_init 27 = .ok (.invokespecial 22, 3) := by decide +kernel
theorem dX8_init_30 : decode cX8_init 30 = .ok (.putfield 23, 3) := by decide +kernel
theorem dX8_init_33 : decode cX8_init 33 = .ok (.aload_n 0, 1) := by decide +kernel
theorem dX8_init_34 : decode cX8_init 34 = .ok (.new 27, 3) := by decide +kernel
theorem dX8_init_37 : decode cX8_init 37 = .ok (.dup, 1) := by decide +kernel
theorem dX8_init_38 : decode cX8_init 38 = .ok (.invokespecial 29, 3) := by decide +kernel
theorem dX8_init_41 : decode cX8_init 41 = .ok (.putfield 30, 3) := by decide +kernel
theorem dX8_init_44 : decode cX8_init 44 = .ok (.aload_n 0, 1) := by decide +kernel
theorem dX8_init_45 : decode cX8_init 45 = .ok (.new 34, 3) := by decide +kernel
theorem dX8_init_48 : decode cX8_init 48 = .ok (.dup, 1) := by decide +kernel
theorem dX8_init_49 : decode cX8_init 49 = .ok (.invokespecial 36, 3) := by decide +kernel
theorem dX8_init_52 : decode cX8_init 52 = .ok (.putfield 37, 3) := by decide +kernel
theorem dX8_init_55 : decode cX8_init 55 = .ok (.aload_n 0, 1) := by decide +kernel
theorem dX8_init_56 : decode cX8_init 56 = .ok (.new 41, 3) := by decide +kernel
theorem dX8_init_59 : decode cX8_init 59 = .ok (.dup, 1) := by decide +kernel
theorem dX8_init_60 : decode cX8_init 60 = .ok (.invokespecial 43, 3) := by decide +kernel
theorem dX8_init_63 : decode cX8_init 63 = .ok (.putfield 44, 3) := by decide +kernel
theorem dX8_init_66 : decode cX8_init 66 = .ok (.aload_n 0, 1) := by decide +kernel
theorem dX8_init_67 : decode cX8_init 67 = .ok (.new 48, 3) := by decide +kernel
theorem dX8_init_70 : decode cX8_init 70 = .ok (.dup, 1) := by decide +kernel
theorem dX8_init_71 : decode cX8_init 71 = .ok (.invokespecial 50, 3) := by decide +kernel
theorem dX8_init_74 : decode cX8_init 74 = .ok (.putfield 51, 3) := by decide +kernel
theorem dX8_init_77 : decode cX8_init 77 = .ok (.aload_n 0, 1) := by decide +kernel
theorem dX8_init_78 : decode cX8_init 78 = .ok (.bipush 8, 2) := by decide +kernel
theorem dX8_init_80 : decode cX8_init 80 = .ok (.anewarray 55, 3) := by decide +kernel
theorem dX8_init_83 : decode cX8_init 83 = .ok (.putfield 57, 3) := by decide +kernel
theorem dX8_init_86 : decode cX8_init 86 = .ok (.aload_n 0, 1) := by decide +kernel
theorem dX8_init_87 : decode cX8_init 87 = .ok (.new 61, 3) := by decide +kernel
theorem dX8_init_90 : decode cX8_init 90 = .ok (.dup, 1) := by decide +kernel
theorem dX8_init_91 : decode cX8_init 91 = .ok (.invokespecial 63, 3) := by decide +kernel
theorem dX8_init_94 : decode cX8_init 94 = .ok (.putfield 64, 3) := by decide +kernel
theorem dX8_init_97 : decode cX8_init 97 = .ok (.aload_n 0, 1) := by decide +kernel
theorem dX8_init_98 : decode cX8_init 98 = .ok (.new 61, 3) := by decide +kernel
theorem dX8_init_101 : decode cX8_init 101 = .ok (.dup, 1) := by decide +kernel
theorem dX8_init_102 : decode cX8_init 102 = .ok (.invokespecial 63, 3) := by decide +kernel
theorem dX8_init_105 : decode cX8_init 105 = .ok (.putfield 68, 3) := by decide +kernel
theorem dX8_init_108 : decode cX8_init 108 = .ok (.aload_n 0, 1) := by decide +kernel
theorem dX8_init_109 : decode cX8_init 109 = .ok (.new 61, 3) := by decide +kernel
theorem dX8_init_112 : decode cX8_init 112 = .ok (.dup, 1) := by decide +kernel
theorem dX8_init_113 : decode cX8_init 113 = .ok (.invokespecial 63, 3) := by decide +kernel
theorem dX8_init_116 : decode cX8_init 116 = .ok (.putfield 71, 3) := by decide +kernel
theorem dX8_init_119 : decode cX8_init 119 = .ok (.aload_n 0, 1) := by decide +kernel
theorem dX8_init_120 : decode cX8_init 120 = .ok (.new 61, 3) := by decide +kernel
theorem dX8_init_123 : decode cX8_init 123 = .ok (.dup, 1) := by decide +kernel
theorem dX8_init_124 : decode cX8_init 124 = .ok (.invokespecial 63, 3) := by decide +kernel
theorem dX8_init_127 : decode cX8_init 127 = .ok (.putfield 74, 3) := by decide +kernel
theorem dX8_init_130 : decode cX8_init 130 = .ok (.return_, 1) := by decide +kernel
theorem dX8_unit_0 : decode cX8_unit 0 = .ok (.aload_n 0, 1) := by decide +kernel
theorem dX8_unit_1 : decode cX8_unit 1 = .ok (.getfield 13, 3) := by decide +kernel
theorem dX8_unit_4 : decode cX8_unit 4 = .ok (.bipush 100, 2) := by decide +kernel
theorem dX8_unit_6 : decode cX8_unit 6 = .ok (.if_icmp .lt 6, 3) := by decide +kernel
theorem dX8_unit_9 : decode cX8_unit 9 = .ok (.bipush (-2), 2) := by decide +kernel
theorem dX8_unit_11 : decode cX8_unit 11 = .ok (.ireturn, 1) := by decide +kernel
theorem dX8_unit_12 : decode cX8_unit 12 = .ok (.aload_n 0, 1) := by decide +kernel
theorem dX8_unit_13 : decode cX8_unit 13 = .ok (.getfield 9, 3) := by decide +kernel
theorem dX8_unit_16 : decode cX8_unit 16 = .ok (.aload_n 0, 1) := by decide +kernel
theorem dX8_unit_17 : decode cX8_unit 17 = .ok (.getfield 13, 3) := by decide +kernel
theorem dX8_unit_20 : decode cX8_unit 20 = .ok (.iload_n 1, 1) := by decide +kernel
theorem dX8_unit_21 : decode cX8_unit 21 = .ok (.ldc 77, 2) := by decide +kernel
theorem dX8_unit_23 : decode cX8_unit 23 = .ok (.iand, 1) := by decide +kernel
theorem dX8_unit_24 : decode cX8_unit 24 = .ok (.iastore, 1) := by decide +kernel
theorem dX8_unit_25 : decode cX8_unit 25 = .ok (.aload_n 0, 1) := by decide +kernel
theorem dX8_unit_26 : decode cX8_unit 26 = .ok (.dup, 1) := by decide +kernel
theorem dX8_unit_27 : decode cX8_unit 27 = .ok (.getfield 13, 3) := by decide +kernel
theorem dX8_unit_30 : decode cX8_unit 30 = .ok (.iconst 1, 1) := by decide +kernel
theorem dX8_unit_31 : decode cX8_unit 31 = .ok (.iadd, 1) := by decide +kernel
theorem dX8_unit_32 : decode cX8_unit 32 = .ok (.putfield 13, 3) := by decide +kernel
theorem dX8_unit_35 : decode cX8_unit 35 = .ok (.aload_n 0, 1) := by decide +kernel
theorem dX8_unit_36 : decode cX8_unit 36 = .ok (.getfield 13, 3) := by decide +kernel
theorem dX8_unit_39 : decode cX8_unit 39 = .ok (.ireturn, 1) := by decide +kernel
theorem dX8_mark_0 : decode cX8_mark 0 = .ok (.aload_n 0, 1) := by decide +kernel
theorem dX8_mark_1 : decode cX8_mark 1 = .ok (.aload_n 0, 1) := by decide +kernel
theorem dX8_mark_2 : decode cX8_mark 2 = .ok (.getfield 13, 3) := by decide +kernel
theorem dX8_mark_5 : decode cX8_mark 5 = .ok (.putfield 17, 3) := by decide +kernel
theorem dX8_mark_8 : decode cX8_mark 8 = .ok (.aload_n 0, 1) := by decide +kernel
theorem dX8_mark_9 : decode cX8_mark 9 = .ok (.getfield 17, 3) := by decide +kernel
theorem dX8_mark_12 : decode cX8_mark 12 = .ok (.ireturn, 1) := by decide +kernel
theorem dX8_text_0 : decode cX8_text 0 = .ok (.aload_n 0, 1) := by decide +kernel
theorem dX8_text_1 : decode cX8_text 1 = .ok (.iconst 0, 1) := by decide +kernel
theorem dX8_text_2 : decode cX8_text 2 = .ok (.aload_n 0, 1) := by decide +kernel
theorem dX8_text_3 : decode cX8_text 3 = .ok (.getfield 13, 3) := by decide +kernel
theorem dX8_text_6 : decode cX8_text 6 = .ok (.aload_n 0, 1) := by decide +kernel
theorem dX8_text_7 : decode cX8_text 7 = .ok (.getfield 64, 3) := by decide +kernel
theorem dX8_text_10 : decode cX8_text 10 = .ok (.invokevirtual 78, 3) := by decide +kernel
theorem dX8_text_13 : decode cX8_text 13 = .ok (.aload_n 0, 1) := by decide +kernel
theorem dX8_text_14 : decode cX8_text 14 = .ok (.invokevirtual 82, 3) := by decide +kernel
theorem dX8_text_17 : decode cX8_text 17 = .ok (.aload_n 0, 1) := by decide +kernel
theorem dX8_text_18 : decode cX8_text 18 = .ok (.getfield 64, 3) := by decide +kernel
theorem dX8_text_21 : decode cX8_text 21 = .ok (.invokevirtual 85, 3) := by decide +kernel
theorem dX8_text_24 : decode cX8_text 24 = .ok (.ireturn, 1) := by decide +kernel
theorem dX8_string_0 : decode cX8_string 0 = .ok (.aload_n 0, 1) := by decide +kernel
theorem dX8_string_1 : decode cX8_string 1 = .ok (.getfield 17, 3) := by decide +kernel
theorem dX8_string_4 : decode cX8_string 4 = .ok (.ifCond .gt 5, 3) := by decide +kernel
theorem dX8_string_7 : decode cX8_string 7 = .ok (.iconst (-1), 1) := by decide +kernel
theorem dX8_string_8 : decode cX8_string 8 = .ok (.ireturn, 1) := by decide +kernel
theorem dX8_string_9 : decode cX8_string 9 = .ok (.aload_n 0, 1) := by decide +kernel
theorem dX8_string_10 : decode cX8_string 10 = .ok (.iconst 0, 1) := by decide +kernel
theorem dX8_string_11 : decode cX8_string 11 = .ok (.aload_n 0, 1) := by decide +kernel
theorem dX8_string_12 : decode cX8_string 12 = .ok (.getfield 17, 3) := by decide +kernel
theorem dX8_string_15 : decode cX8_string 15 = .ok (.aload_n 0, 1) := by decide +kernel
theorem dX8_string_16 : decode cX8_string 16 = .ok (.getfield 71, 3) := by decide +kernel
theorem dX8_string_19 : decode cX8_string 19 = .ok (.invokevirtual 78, 3) := by decide +kernel
theorem dX8_string_22 : decode cX8_string 22 = .ok (.aload_n 0, 1) := by decide +kernel
theorem dX8_string_23 : decode cX8_string 23 = .ok (.aload_n 0, 1) := by decide +kernel
theorem dX8_string_24 : decode cX8_string 24 = .ok (.getfield 17, 3) := by decide +kernel
theorem dX8_string_27 : decode cX8_string 27 = .ok (.aload_n 0, 1) := by decide +kernel
theorem dX8_string_28 : decode cX8_string 28 = .ok (.getfield 13, 3) := by decide +kernel
theorem dX8_string_31 : decode cX8_string 31 = .ok (.aload_n 0, 1) := by decide +kernel
theorem dX8_string_32 : decode cX8_string 32 = .ok (.getfield 74, 3) := by decide +kernel
theorem dX8_string_35 : decode cX8_string 35 = .ok (.invokevirtual 78, 3) := by decide +kernel
theorem dX8_string_38 : decode cX8_string 38 = .ok (.aload_n 0, 1) := by decide +kernel
theorem dX8_string_39 : decode cX8_string 39 = .ok (.getfield 51, 3) := by decide +kernel
theorem dX8_string_42 : decode cX8_string 42 = .ok (.aload_n 0, 1) := by decide +kernel
theorem dX8_string_43 : decode cX8_string 43 = .ok (.getfield 71, 3) := by decide +kernel
theorem dX8_string_46 : decode cX8_string 46 = .ok (.aload_n 0, 1) := by decide +kernel
theorem dX8_string_47 : decode cX8_string 47 = .ok (.getfield 74, 3) := by decide +kernel
theorem dX8_string_50 : decode cX8_string 50 = .ok (.invokevirtual 89, 3) := by decide +kernel
theorem dX8_string_53 : decode cX8_string 53 = .ok (.ifCond .ne 6, 3) := by decide +kernel
theorem dX8_string_56 : decode cX8_string 56 = .ok (.bipush (-2), 2) := by decide +kernel
theorem dX8_string_58 : decode cX8_string 58 = .ok (.ireturn, 1) := by decide +kernel
theorem dX8_string_59 : decode cX8_string 59 = .ok (.aload_n 0, 1) := by decide +kernel
theorem dX8_string_60 : decode cX8_string 60 = .ok (.invokevirtual 82, 3) := by decide +kernel
theorem dX8_string_63 : decode cX8_string 63 = .ok (.aload_n 0, 1) := by decide +kernel
theorem dX8_string_64 : decode cX8_string 64 = .ok (.getfield 51, 3) := by decide +kernel
theorem dX8_string_67 : decode cX8_string 67 = .ok (.invokevirtual 93, 3) := by decide +kernel
theorem dX8_string_70 : decode cX8_string 70 = .ok (.ireturn, 1) := by decide +kernel
theorem dX8_fold_0 : decode cX8_fold 0 = .ok (.iload_n 1, 1) := by decide +kernel
theorem dX8_fold_1 : decode cX8_fold 1 = .ok (.invokestatic 94, 3) := by decide +kernel
theorem dX8_fold_4 : decode cX8_fold 4 = .ok (.ifCond .eq 13, 3) := by decide +kernel
theorem dX8_fold_7 : decode cX8_fold 7 = .ok (.iload_n 2, 1) := by decide +kernel
theorem dX8_fold_8 : decode cX8_fold 8 = .ok (.iload_n 3, 1) := by decide +kernel
theorem dX8_fold_9 : decode cX8_fold 9 = .ok (.iload 4, 2) := by decide +kernel
theorem dX8_fold_11 : decode cX8_fold 11 = .ok (.invokestatic 98, 3) := by decide +kernel
theorem dX8_fold_14 : decode cX8_fold 14 = .ok (.ifCond .ne 5, 3) := by decide +kernel
theorem dX8_fold_17 : decode cX8_fold 17 = .ok (.iconst (-1), 1) := by decide +kernel
theorem dX8_fold_18 : decode cX8_fold 18 = .ok (.ireturn, 1) := by decide +kernel
theorem dX8_fold_19 : decode cX8_fold 19 = .ok (.aload_n 0, 1) := by decide +kernel
theorem dX8_fold_20 : decode cX8_fold 20 = .ok (.getfield 23, 3) := by decide +kernel
theorem dX8_fold_23 : decode cX8_fold 23 = .ok (.iload_n 1, 1) := by decide +kernel
theorem dX8_fold_24 : decode cX8_fold 24 = .ok (.iload_n 2, 1) := by decide +kernel
theorem dX8_fold_25 : decode cX8_fold 25 = .ok (.iload_n 3, 1) := by decide +kernel
theorem dX8_fold_26 : decode cX8_fold 26 = .ok (.iload 4, 2) := by decide +kernel
theorem dX8_fold_28 : decode cX8_fold 28 = .ok (.invokevirtual 102, 3) := by decide +kernel
theorem dX8_fold_31 : decode cX8_fold 31 = .ok (.ifCond .eq 13, 3) := by decide +kernel
theorem dX8_fold_34 : decode cX8_fold 34 = .ok (.aload_n 0, 1) := by decide +kernel
theorem dX8_fold_35 : decode cX8_fold 35 = .ok (.getfield 23, 3) := by decide +kernel
theorem dX8_fold_38 : decode cX8_fold 38 = .ok (.invokevirtual 105, 3) := by decide +kernel
theorem dX8_fold_41 : decode cX8_fold 41 = .ok (.goto 5, 3) := by decide +kernel
theorem dX8_fold_44 : decode cX8_fold 44 = .ok (.bipush (-2), 2) := by decide +kernel
theorem dX8_fold_46 : decode cX8_fold 46 = .ok (.ireturn, 1) := by decide +kernel
theorem dX8_pair_0 : decode cX8_pair 0 = .ok (.iload_n 1, 1) := by decide +kernel
theorem dX8_pair_1 : decode cX8_pair 1 = .ok (.invokestatic 94, 3) := by decide +kernel
theorem dX8_pair_4 : decode cX8_pair 4 = .ok (.ifCond .eq 17, 3) := by decide +kernel
theorem dX8_pair_7 : decode cX8_pair 7 = .ok (.iload_n 2, 1) := by decide +kernel
theorem dX8_pair_8 : decode cX8_pair 8 = .ok (.invokestatic 94, 3) := by decide +kernel
theorem dX8_pair_11 : decode cX8_pair 11 = .ok (.ifCond .eq 10, 3) := by decide +kernel
theorem dX8_pair_14 : decode cX8_pair 14 = .ok (.iload_n 3, 1) := by decide +kernel
theorem dX8_pair_15 : decode cX8_pair 15 = .ok (.invokestatic 94, 3) := by decide +kernel
theorem dX8_pair_18 : decode cX8_pair 18 = .ok (.ifCond .ne 5, 3) := by decide +kernel
theorem dX8_pair_21 : decode cX8_pair 21 = .ok (.iconst (-1), 1) := by decide +kernel
theorem dX8_pair_22 : decode cX8_pair 22 = .ok (.ireturn, 1) := by decide +kernel
theorem dX8_pair_23 : decode cX8_pair 23 = .ok (.aload_n 0, 1) := by decide +kernel
theorem dX8_pair_24 : decode cX8_pair 24 = .ok (.getfield 30, 3) := by decide +kernel
theorem dX8_pair_27 : decode cX8_pair 27 = .ok (.iload_n 1, 1) := by decide +kernel
theorem dX8_pair_28 : decode cX8_pair 28 = .ok (.iload_n 2, 1) := by decide +kernel
theorem dX8_pair_29 : decode cX8_pair 29 = .ok (.iload_n 3, 1) := by decide +kernel
theorem dX8_pair_30 : decode cX8_pair 30 = .ok (.invokevirtual 106, 3) := by decide +kernel
theorem dX8_pair_33 : decode cX8_pair 33 = .ok (.ifCond .eq 13, 3) := by decide +kernel
theorem dX8_pair_36 : decode cX8_pair 36 = .ok (.aload_n 0, 1) := by decide +kernel
theorem dX8_pair_37 : decode cX8_pair 37 = .ok (.getfield 30, 3) := by decide +kernel
theorem dX8_pair_40 : decode cX8_pair 40 = .ok (.invokevirtual 108, 3) := by decide +kernel
theorem dX8_pair_43 : decode cX8_pair 43 = .ok (.goto 5, 3) := by decide +kernel
theorem dX8_pair_46 : decode cX8_pair 46 = .ok (.bipush (-2), 2) := by decide +kernel
theorem dX8_pair_48 : decode cX8_pair 48 = .ok (.ireturn, 1) := by decide +kernel
theorem dX8_zero_0 : decode cX8_zero 0 = .ok (.iload_n 1, 1) := by decide +kernel
theorem dX8_zero_1 : decode cX8_zero 1 = .ok (.invokestatic 94, 3) := by decide +kernel
theorem dX8_zero_4 : decode cX8_zero 4 = .ok (.ifCond .eq 9, 3) := by decide +kernel
theorem dX8_zero_7 : decode cX8_zero 7 = .ok (.iload_n 1, 1) := by decide +kernel
theorem dX8_zero_8 : decode cX8_zero 8 = .ok (.ldc 109, 2) := by decide +kernel
theorem dX8_zero_10 : decode cX8_zero 10 = .ok (.if_icmp .le 5, 3) := by decide +kernel
theorem dX8_zero_13 : decode cX8_zero 13 = .ok (.iconst (-1), 1) := by decide +kernel
theorem dX8_zero_14 : decode cX8_zero 14 = .ok (.ireturn, 1) := by decide +kernel
theorem dX8_zero_15 : decode cX8_zero 15 = .ok (.aload_n 0, 1) := by decide +kernel
theorem dX8_zero_16 : decode cX8_zero 16 = .ok (.getfield 37, 3) := by decide +kernel
theorem dX8_zero_19 : decode cX8_zero 19 = .ok (.iload_n 1, 1) := by decide +kernel
theorem dX8_zero_20 : decode cX8_zero 20 = .ok (.invokevirtual 110, 3) := by decide +kernel
theorem dX8_zero_23 : decode cX8_zero 23 = .ok (.ifCond .eq 13, 3) := by decide +kernel
theorem dX8_zero_26 : decode cX8_zero 26 = .ok (.aload_n 0, 1) := by decide +kernel
theorem dX8_zero_27 : decode cX8_zero 27 = .ok (.getfield 37, 3) := by decide +kernel
theorem dX8_zero_30 : decode cX8_zero 30 = .ok (.invokevirtual 113, 3) := by decide +kernel
theorem dX8_zero_33 : decode cX8_zero 33 = .ok (.goto 5, 3) := by decide +kernel
theorem dX8_zero_36 : decode cX8_zero 36 = .ok (.bipush (-2), 2) := by decide +kernel
theorem dX8_zero_38 : decode cX8_zero 38 = .ok (.ireturn, 1) := by decide +kernel
theorem dX8_range_0 : decode cX8_range 0 = .ok (.iload_n 1, 1) := by decide +kernel
theorem dX8_range_1 : decode cX8_range 1 = .ok (.invokestatic 94, 3) := by decide +kernel
theorem dX8_range_4 : decode cX8_range 4 = .ok (.ifCond .eq 15, 3) := by decide +kernel
theorem dX8_range_7 : decode cX8_range 7 = .ok (.iload_n 2, 1) := by decide +kernel
theorem dX8_range_8 : decode cX8_range 8 = .ok (.invokestatic 94, 3) := by decide +kernel
theorem dX8_range_11 : decode cX8_range 11 = .ok (.ifCond .eq 8, 3) := by decide +kernel
theorem dX8_range_14 : decode cX8_range 14 = .ok (.iload_n 2, 1) := by decide +kernel
theorem dX8_range_15 : decode cX8_range 15 = .ok (.iload_n 1, 1) := by decide +kernel
theorem dX8_range_16 : decode cX8_range 16 = .ok (.if_icmp .ge 5, 3) := by decide +kernel
theorem dX8_range_19 : decode cX8_range 19 = .ok (.iconst (-1), 1) := by decide +kernel
theorem dX8_range_20 : decode cX8_range 20 = .ok (.ireturn, 1) := by decide +kernel
theorem dX8_range_21 : decode cX8_range 21 = .ok (.aload_n 0, 1) := by decide +kernel
theorem dX8_range_22 : decode cX8_range 22 = .ok (.getfield 44, 3) := by decide +kernel
theorem dX8_range_25 : decode cX8_range 25 = .ok (.iload_n 1, 1) := by decide +kernel
theorem dX8_range_26 : decode cX8_range 26 = .ok (.iload_n 2, 1) := by decide +kernel
theorem dX8_range_27 : decode cX8_range 27 = .ok (.invokevirtual 114, 3) := by decide +kernel
theorem dX8_range_30 : decode cX8_range 30 = .ok (.ifCond .eq 13, 3) := by decide +kernel
theorem dX8_range_33 : decode cX8_range 33 = .ok (.aload_n 0, 1) := by decide +kernel
theorem dX8_range_34 : decode cX8_range 34 = .ok (.getfield 44, 3) := by decide +kernel
theorem dX8_range_37 : decode cX8_range 37 = .ok (.invokevirtual 117, 3) := by decide +kernel
theorem dX8_range_40 : decode cX8_range 40 = .ok (.goto 5, 3) := by decide +kernel
theorem dX8_range_43 : decode cX8_range 43 = .ok (.bipush (-2), 2) := by decide +kernel
theorem dX8_range_45 : decode cX8_range 45 = .ok (.ireturn, 1) := by decide +kernel
theorem dX8_filter_0 : decode cX8_filter 0 = .ok (.iload_n 2, 1) := by decide +kernel
theorem dX8_filter_1 : decode cX8_filter 1 = .ok (.ifCond .lt 9, 3) := by decide +kernel
theorem dX8_filter_4 : decode cX8_filter 4 = .ok (.iload_n 2, 1) := by decide +kernel
theorem dX8_filter_5 : decode cX8_filter 5 = .ok (.bipush 6, 2) := by decide +kernel
theorem dX8_filter_7 : decode cX8_filter 7 = .ok (.if_icmp .le 5, 3) := by decide +kernel
theorem dX8_filter_10 : decode cX8_filter 10 = .ok (.iconst (-1), 1) := by decide +kernel
theorem dX8_filter_11 : decode cX8_filter 11 = .ok (.ireturn, 1) := by decide +kernel
theorem dX8_filter_12 : decode cX8_filter 12 = .ok (.iload_n 1, 1) := by decide +kernel
theorem dX8_filter_13 : decode cX8_filter 13 = .ok (.invokestatic 118, 3) := by decide +kernel
theorem dX8_filter_16 : decode cX8_filter 16 = .ok (.ifCond .ne 6, 3) := by decide +kernel
theorem dX8_filter_19 : decode cX8_filter 19 = .ok (.bipush (-13), 2) := by decide +kernel
theorem dX8_filter_21 : decode cX8_filter 21 = .ok (.ireturn, 1) := by decide +kernel
theorem dX8_filter_22 : decode cX8_filter 22 = .ok (.aload_n 0, 1) := by decide +kernel
theorem dX8_filter_23 : decode cX8_filter 23 = .ok (.getfield 57, 3) := by decide +kernel
theorem dX8_filter_26 : decode cX8_filter 26 = .ok (.iload_n 1, 1) := by decide +kernel
theorem dX8_filter_27 : decode cX8_filter 27 = .ok (.new 55, 3) := by decide +kernel
theorem dX8_filter_30 : decode cX8_filter 30 = .ok (.dup, 1) := by decide +kernel
theorem dX8_filter_31 : decode cX8_filter 31 = .ok (.iload_n 2, 1) := by decide +kernel
theorem dX8_filter_32 : decode cX8_filter 32 = .ok (.invokespecial 121, 3) := by decide +kernel
theorem dX8_filter_35 : decode cX8_filter 35 = .ok (.aastore, 1) := by decide +kernel
theorem dX8_filter_36 : decode cX8_filter 36 = .ok (.iconst 0, 1) := by decide +kernel
theorem dX8_filter_37 : decode cX8_filter 37 = .ok (.ireturn, 1) := by decide +kernel
theorem dX8_drop_0 : decode cX8_drop 0 = .ok (.iload_n 1, 1) := by decide +kernel
theorem dX8_drop_1 : decode cX8_drop 1 = .ok (.invokestatic 118, 3) := by decide +kernel
theorem dX8_drop_4 : decode cX8_drop 4 = .ok (.ifCond .ne 6, 3) := by decide +kernel
theorem dX8_drop_7 : decode cX8_drop 7 = .ok (.bipush (-13), 2) := by decide +kernel
theorem dX8_drop_9 : decode cX8_drop 9 = .ok (.ireturn, 1) := by decide +kernel
theorem dX8_drop_10 : decode cX8_drop 10 = .ok (.aload_n 0, 1) := by decide +kernel
theorem dX8_drop_11 : decode cX8_drop 11 = .ok (.getfield 57, 3) := by decide +kernel
theorem dX8_drop_14 : decode cX8_drop 14 = .ok (.iload_n 1, 1) := by decide +kernel
theorem dX8_drop_15 : decode cX8_drop 15 = .ok (.aaload, 1) := by decide +kernel
theorem dX8_drop_16 : decode cX8_drop 16 = .ok (.ifnull 7, 3) := by decide +kernel
theorem dX8_drop_19 : decode cX8_drop 19 = .ok (.iconst 1, 1) := by decide +kernel
theorem dX8_drop_20 : decode cX8_drop 20 = .ok (.goto 4, 3) := by decide +kernel
theorem dX8_drop_23 : decode cX8_drop 23 = .ok (.iconst 0, 1) := by decide +kernel
theorem dX8_drop_24 : decode cX8_drop 24 = .ok (.istore_n 2, 1) := by decide +kernel
theorem dX8_drop_25 : decode cX8_drop 25 = .ok (.aload_n 0, 1) := by decide +kernel
theorem dX8_drop_26 : decode cX8_drop 26 = .ok (.getfield 57, 3) := by decide +kernel
theorem dX8_drop_29 : decode cX8_drop 29 = .ok (.iload_n 1, 1) := by decide +kernel
theorem dX8_drop_30 : decode cX8_drop 30 = .ok (.aconst_null, 1) := by decide +kernel
theorem dX8_drop_31 : decode cX8_drop 31 = .ok (.aastore, 1) := by decide +kernel
theorem dX8_drop_32 : decode cX8_drop 32 = .ok (.iload_n 2, 1) := by decide +kernel
theorem dX8_drop_33 : decode cX8_drop 33 = .ok (.ireturn, 1) := by decide +kernel
theorem dX8_rule_0 : decode cX8_rule 0 = .ok (.iload_n 2, 1) := by decide +kernel
theorem dX8_rule_1 : decode cX8_rule 1 = .ok (.ifCond .lt 8, 3) := by decide +kernel
theorem dX8_rule_4 : decode cX8_rule 4 = .ok (.iload_n 2, 1) := by decide +kernel
theorem dX8_rule_5 : decode cX8_rule 5 = .ok (.iconst 2, 1) := by decide +kernel
theorem dX8_rule_6 : decode cX8_rule 6 = .ok (.if_icmp .le 5, 3) := by decide +kernel
theorem dX8_rule_9 : decode cX8_rule 9 = .ok (.iconst (-1), 1) := by decide +kernel
theorem dX8_rule_10 : decode cX8_rule 10 = .ok (.ireturn, 1) := by decide +kernel
theorem dX8_rule_11 : decode cX8_rule 11 = .ok (.iload_n 1, 1) := by decide +kernel
theorem dX8_rule_12 : decode cX8_rule 12 = .ok (.invokestatic 118, 3) := by decide +kernel
theorem dX8_rule_15 : decode cX8_rule 15 = .ok (.ifCond .ne 6, 3) := by decide +kernel
theorem dX8_rule_18 : decode cX8_rule 18 = .ok (.bipush (-13), 2) := by decide +kernel
theorem dX8_rule_20 : decode cX8_rule 20 = .ok (.ireturn, 1) := by decide +kernel
theorem dX8_rule_21 : decode cX8_rule 21 = .ok (.aload_n 0, 1) := by decide +kernel
theorem dX8_rule_22 : decode cX8_rule 22 = .ok (.getfield 57, 3) := by decide +kernel
theorem dX8_rule_25 : decode cX8_rule 25 = .ok (.iload_n 1, 1) := by decide +kernel
theorem dX8_rule_26 : decode cX8_rule 26 = .ok (.aaload, 1) := by decide +kernel
theorem dX8_rule_27 : decode cX8_rule 27 = .ok (.astore_n 3, 1) := by decide +kernel
theorem dX8_rule_28 : decode cX8_rule 28 = .ok (.aload_n 3, 1) := by decide +kernel
theorem dX8_rule_29 : decode cX8_rule 29 = .ok (.ifnonnull 6, 3) := by decide +kernel
theorem dX8_rule_32 : decode cX8_rule 32 = .ok (.bipush (-11), 2) := by decide +kernel
theorem dX8_rule_34 : decode cX8_rule 34 = .ok (.ireturn, 1) := by decide +kernel
theorem dX8_rule_35 : decode cX8_rule 35 = .ok (.aload_n 3, 1) := by decide +kernel
theorem dX8_rule_36 : decode cX8_rule 36 = .ok (.getfield 124, 3) := by decide +kernel
theorem dX8_rule_39 : decode cX8_rule 39 = .ok (.iconst 5, 1) := by decide +kernel
theorem dX8_rule_40 : decode cX8_rule 40 = .ok (.if_icmp .eq 6, 3) := by decide +kernel
theorem dX8_rule_43 : decode cX8_rule 43 = .ok (.bipush (-12), 2) := by decide +kernel
theorem dX8_rule_45 : decode cX8_rule 45 = .ok (.ireturn, 1) := by decide +kernel
theorem dX8_rule_46 : decode cX8_rule 46 = .ok (.aload_n 3, 1) := by decide +kernel
theorem dX8_rule_47 : decode cX8_rule 47 = .ok (.getfield 127, 3) := by decide +kernel
theorem dX8_rule_50 : decode cX8_rule 50 = .ok (.istore 4, 2) := by decide +kernel
theorem dX8_rule_52 : decode cX8_rule 52 = .ok (.aload_n 3, 1) := by decide +kernel
theorem dX8_rule_53 : decode cX8_rule 53 = .ok (.iload_n 2, 1) := by decide +kernel
theorem dX8_rule_54 : decode cX8_rule 54 = .ok (.putfield 127, 3) := by decide +kernel
theorem dX8_rule_57 : decode cX8_rule 57 = .ok (.iload 4, 2) := by decide +kernel
theorem dX8_rule_59 : decode cX8_rule 59 = .ok (.ireturn, 1) := by decide +kernel
theorem dX8_run_0 : decode cX8_run 0 = .ok (.aload_n 0, 1) := by decide +kernel
theorem dX8_run_1 : decode cX8_run 1 = .ok (.getfield 71, 3) := by decide +kernel
theorem dX8_run_4 : decode cX8_run 4 = .ok (.astore_n 1, 1) := by decide +kernel
theorem dX8_run_5 : decode cX8_run 5 = .ok (.aload_n 0, 1) := by decide +kernel
theorem dX8_run_6 : decode cX8_run 6 = .ok (.getfield 74, 3) := by decide +kernel
theorem dX8_run_9 : decode cX8_run 9 = .ok (.astore_n 2, 1) := by decide +kernel
theorem dX8_run_10 : decode cX8_run 10 = .ok (.aload_n 1, 1) := by decide +kernel
theorem dX8_run_11 : decode cX8_run 11 = .ok (.aload_n 0, 1) := by decide +kernel
theorem dX8_run_12 : decode cX8_run 12 = .ok (.getfield 64, 3) := by decide +kernel
theorem dX8_run_15 : decode cX8_run 15 = .ok (.invokevirtual 130, 3) := by decide +kernel
theorem dX8_run_18 : decode cX8_run 18 = .ok (.iconst 0, 1) := by decide +kernel
theorem dX8_run_19 : decode cX8_run 19 = .ok (.istore_n 3, 1) := by decide +kernel
theorem dX8_run_20 : decode cX8_run 20 = .ok (.iload_n 3, 1) := by decide +kernel
theorem dX8_run_21 : decode cX8_run 21 = .ok (.bipush 8, 2) := by decide +kernel
theorem dX8_run_23 : decode cX8_run 23 = .ok (.if_icmp .ge 49, 3) := by decide +kernel
theorem dX8_run_26 : decode cX8_run 26 = .ok (.aload_n 0, 1) := by decide +kernel
theorem dX8_run_27 : decode cX8_run 27 = .ok (.getfield 57, 3) := by decide +kernel
theorem dX8_run_30 : decode cX8_run 30 = .ok (.iload_n 3, 1) := by decide +kernel
theorem dX8_run_31 : decode cX8_run 31 = .ok (.aaload, 1) := by decide +kernel
theorem dX8_run_32 : decode cX8_run 32 = .ok (.astore 4, 2) := by decide +kernel
theorem dX8_run_34 : decode cX8_run 34 = .ok (.aload 4, 2) := by decide +kernel
theorem dX8_run_36 : decode cX8_run 36 = .ok (.ifnull 30, 3) := by decide +kernel
theorem dX8_run_39 : decode cX8_run 39 = .ok (.aload 4, 2) := by decide +kernel
theorem dX8_run_41 : decode cX8_run 41 = .ok (.invokevirtual 134, 3) := by decide +kernel
theorem dX8_run_44 : decode cX8_run 44 = .ok (.aload_n 0, 1) := by decide +kernel
theorem dX8_run_45 : decode cX8_run 45 = .ok (.aload 4, 2) := by decide +kernel
theorem dX8_run_47 : decode cX8_run 47 = .ok (.aload_n 1, 1) := by decide +kernel
theorem dX8_run_48 : decode cX8_run 48 = .ok (.aload_n 2, 1) := by decide +kernel
theorem dX8_run_49 : decode cX8_run 49 = .ok (.invokevirtual 137, 3) := by decide +kernel
theorem dX8_run_52 : decode cX8_run 52 = .ok (.ifCond .ne 6, 3) := by decide +kernel
theorem dX8_run_55 : decode cX8_run 55 = .ok (.bipush (-3), 2) := by decide +kernel
theorem dX8_run_57 : decode cX8_run 57 = .ok (.ireturn, 1) := by decide +kernel
theorem dX8_run_58 : decode cX8_run 58 = .ok (.aload_n 2, 1) := by decide +kernel
theorem dX8_run_59 : decode cX8_run 59 = .ok (.astore 5, 2) := by decide +kernel
theorem dX8_run_61 : decode cX8_run 61 = .ok (.aload_n 1, 1) := by decide +kernel
theorem dX8_run_62 : decode cX8_run 62 = .ok (.astore_n 2, 1) := by decide +kernel
theorem dX8_run_63 : decode cX8_run 63 = .ok (.aload 5, 2) := by decide +kernel
theorem dX8_run_65 : decode cX8_run 65 = .ok (.astore_n 1, 1) := by decide +kernel
theorem dX8_run_66 : decode cX8_run 66 = .ok (.iinc 3 1, 3) := by decide +kernel
theorem dX8_run_69 : decode cX8_run 69 = .ok (.goto (-49), 3) := by decide +kernel
theorem dX8_run_72 : decode cX8_run 72 = .ok (.aload_n 0, 1) := by decide +kernel
theorem dX8_run_73 : decode cX8_run 73 = .ok (.aload_n 0, 1) := by decide +kernel
theorem dX8_run_74 : decode cX8_run 74 = .ok (.getfield 68, 3) := by decide +kernel
theorem dX8_run_77 : decode cX8_run 77 = .ok (.putfield 71, 3) := by decide +kernel
theorem dX8_run_80 : decode cX8_run 80 = .ok (.aload_n 0, 1) := by decide +kernel
theorem dX8_run_81 : decode cX8_run 81 = .ok (.aload_n 2, 1) := by decide +kernel
theorem dX8_run_82 : decode cX8_run 82 = .ok (.putfield 74, 3) := by decide +kernel
theorem dX8_run_85 : decode cX8_run 85 = .ok (.aload_n 0, 1) := by decide +kernel
theorem dX8_run_86 : decode cX8_run 86 = .ok (.aload_n 1, 1) := by decide +kernel
theorem dX8_run_87 : decode cX8_run 87 = .ok (.putfield 68, 3) := by decide +kernel
theorem dX8_run_90 : decode cX8_run 90 = .ok (.aload_n 0, 1) := by decide +kernel
theorem dX8_run_91 : decode cX8_run 91 = .ok (.invokevirtual 141, 3) := by decide +kernel
theorem dX8_run_94 : decode cX8_run 94 = .ok (.aload_n 0, 1) := by decide +kernel
theorem dX8_run_95 : decode cX8_run 95 = .ok (.getfield 68, 3) := by decide +kernel
theorem dX8_run_98 : decode cX8_run 98 = .ok (.invokevirtual 85, 3) := by decide +kernel
theorem dX8_run_101 : decode cX8_run 101 = .ok (.ireturn, 1) := by decide +kernel
theorem dX8_sign_0 : decode cX8_sign 0 = .ok (.aload_n 0, 1) := by decide +kernel
theorem dX8_sign_1 : decode cX8_sign 1 = .ok (.getfield 68, 3) := by decide +kernel
theorem dX8_sign_4 : decode cX8_sign 4 = .ok (.iload_n 1, 1) := by decide +kernel
theorem dX8_sign_5 : decode cX8_sign 5 = .ok (.invokevirtual 144, 3) := by decide +kernel
theorem dX8_sign_8 : decode cX8_sign 8 = .ok (.ifCond .eq 14, 3) := by decide +kernel
theorem dX8_sign_11 : decode cX8_sign 11 = .ok (.aload_n 0, 1) := by decide +kernel
theorem dX8_sign_12 : decode cX8_sign 12 = .ok (.getfield 68, 3) := by decide +kernel
theorem dX8_sign_15 : decode cX8_sign 15 = .ok (.iload_n 1, 1) := by decide +kernel
theorem dX8_sign_16 : decode cX8_sign 16 = .ok (.invokevirtual 147, 3) := by decide +kernel
theorem dX8_sign_19 : decode cX8_sign 19 = .ok (.goto 5, 3) := by decide +kernel
theorem dX8_sign_22 : decode cX8_sign 22 = .ok (.bipush (-13), 2) := by decide +kernel
theorem dX8_sign_24 : decode cX8_sign 24 = .ok (.ireturn, 1) := by decide +kernel
theorem dX8_place_0 : decode cX8_place 0 = .ok (.aload_n 0, 1) := by decide +kernel
theorem dX8_place_1 : decode cX8_place 1 = .ok (.getfield 68, 3) := by decide +kernel
theorem dX8_place_4 : decode cX8_place 4 = .ok (.iload_n 1, 1) := by decide +kernel
theorem dX8_place_5 : decode cX8_place 5 = .ok (.invokevirtual 144, 3) := by decide +kernel
theorem dX8_place_8 : decode cX8_place 8 = .ok (.ifCond .ne 6, 3) := by decide +kernel
theorem dX8_place_11 : decode cX8_place 11 = .ok (.bipush (-13), 2) := by decide +kernel
theorem dX8_place_13 : decode cX8_place 13 = .ok (.ireturn, 1) := by decide +kernel
theorem dX8_place_14 : decode cX8_place 14 = .ok (.iload_n 2, 1) := by decide +kernel
theorem dX8_place_15 : decode cX8_place 15 = .ok (.ifCond .eq 14, 3) := by decide +kernel
theorem dX8_place_18 : decode cX8_place 18 = .ok (.aload_n 0, 1) := by decide +kernel
theorem dX8_place_19 : decode cX8_place 19 = .ok (.getfield 68, 3) := by decide +kernel
theorem dX8_place_22 : decode cX8_place 22 = .ok (.iload_n 1, 1) := by decide +kernel
theorem dX8_place_23 : decode cX8_place 23 = .ok (.invokevirtual 151, 3) := by decide +kernel
theorem dX8_place_26 : decode cX8_place 26 = .ok (.goto 11, 3) := by decide +kernel
theorem dX8_place_29 : decode cX8_place 29 = .ok (.aload_n 0, 1) := by decide +kernel
theorem dX8_place_30 : decode cX8_place 30 = .ok (.getfield 68, 3) := by decide +kernel
theorem dX8_place_33 : decode cX8_place 33 = .ok (.iload_n 1, 1) := by decide +kernel
theorem dX8_place_34 : decode cX8_place 34 = .ok (.invokevirtual 154, 3) := by decide +kernel
theorem dX8_place_37 : decode cX8_place 37 = .ok (.ireturn, 1) := by decide +kernel
theorem dX8_unitAt_0 : decode cX8_unitAt 0 = .ok (.iload_n 1, 1) := by decide +kernel
theorem dX8_unitAt_1 : decode cX8_unitAt 1 = .ok (.ifCond .ge 6, 3) := by decide +kernel
theorem dX8_unitAt_4 : decode cX8_unitAt 4 = .ok (.bipush (-13), 2) := by decide +kernel
theorem dX8_unitAt_6 : decode cX8_unitAt 6 = .ok (.ireturn, 1) := by decide +kernel
theorem dX8_unitAt_7 : decode cX8_unitAt 7 = .ok (.iconst 0, 1) := by decide +kernel
theorem dX8_unitAt_8 : decode cX8_unitAt 8 = .ok (.istore_n 2, 1) := by decide +kernel
theorem dX8_unitAt_9 : decode cX8_unitAt 9 = .ok (.iconst 0, 1) := by decide +kernel
theorem dX8_unitAt_10 : decode cX8_unitAt 10 = .ok (.istore_n 3, 1) := by decide +kernel
theorem dX8_unitAt_11 : decode cX8_unitAt 11 = .ok (.iload_n 3, 1) := by decide +kernel
theorem dX8_unitAt_12 : decode cX8_unitAt 12 = .ok (.aload_n 0, 1) := by decide +kernel
theorem dX8_unitAt_13 : decode cX8_unitAt 13 = .ok (.getfield 68, 3) := by decide +kernel
theorem dX8_unitAt_16 : decode cX8_unitAt 16 = .ok (.invokevirtual 85, 3) := by decide +kernel
theorem dX8_unitAt_19 : decode cX8_unitAt 19 = .ok (.if_icmp .ge 48, 3) := by decide +kernel
theorem dX8_unitAt_22 : decode cX8_unitAt 22 = .ok (.aload_n 0, 1) := by decide +kernel
theorem dX8_unitAt_23 : decode cX8_unitAt 23 = .ok (.getfield 68, 3) := by decide +kernel
theorem dX8_unitAt_26 : decode cX8_unitAt 26 = .ok (.iload_n 3, 1) := by decide +kernel
theorem dX8_unitAt_27 : decode cX8_unitAt 27 = .ok (.invokevirtual 147, 3) := by decide +kernel
theorem dX8_unitAt_30 : decode cX8_unitAt 30 = .ok (.istore 4, 2) := by decide +kernel
theorem dX8_unitAt_32 : decode cX8_unitAt 32 = .ok (.iload 4, 2) := by decide +kernel
theorem dX8_unitAt_34 : decode cX8_unitAt 34 = .ok (.invokestatic 157, 3) := by decide +kernel
theorem dX8_unitAt_37 : decode cX8_unitAt 37 = .ok (.istore 5, 2) := by decide +kernel
theorem dX8_unitAt_39 : decode cX8_unitAt 39 = .ok (.iload_n 1, 1) := by decide +kernel
theorem dX8_unitAt_40 : decode cX8_unitAt 40 = .ok (.iload_n 2, 1) := by decide +kernel
theorem dX8_unitAt_41 : decode cX8_unitAt 41 = .ok (.iload 5, 2) := by decide +kernel
theorem dX8_unitAt_43 : decode cX8_unitAt 43 = .ok (.iadd, 1) := by decide +kernel
theorem dX8_unitAt_44 : decode cX8_unitAt 44 = .ok (.if_icmp .ge 12, 3) := by decide +kernel
theorem dX8_unitAt_47 : decode cX8_unitAt 47 = .ok (.iload 4, 2) := by decide +kernel
theorem dX8_unitAt_49 : decode cX8_unitAt 49 = .ok (.iload_n 1, 1) := by decide +kernel
theorem dX8_unitAt_50 : decode cX8_unitAt 50 = .ok (.iload_n 2, 1) := by decide +kernel
theorem dX8_unitAt_51 : decode cX8_unitAt 51 = .ok (.isub, 1) := by decide +kernel
theorem dX8_unitAt_52 : decode cX8_unitAt 52 = .ok (.invokestatic 160, 3) := by decide +kernel
theorem dX8_unitAt_55 : decode cX8_unitAt 55 = .ok (.ireturn, 1) := by decide +kernel
theorem dX8_unitAt_56 : decode cX8_unitAt 56 = .ok (.iload_n 2, 1) := by decide +kernel
theorem dX8_unitAt_57 : decode cX8_unitAt 57 = .ok (.iload 5, 2) := by decide +kernel
theorem dX8_unitAt_59 : decode cX8_unitAt 59 = .ok (.iadd, 1) := by decide +kernel
theorem dX8_unitAt_60 : decode cX8_unitAt 60 = .ok (.istore_n 2, 1) := by decide +kernel
theorem dX8_unitAt_61 : decode cX8_unitAt 61 = .ok (.iinc 3 1, 3) := by decide +kernel
theorem dX8_unitAt_64 : decode cX8_unitAt 64 = .ok (.goto (-53), 3) := by decide +kernel
theorem dX8_unitAt_67 : decode cX8_unitAt 67 = .ok (.bipush (-13), 2) := by decide +kernel
theorem dX8_unitAt_69 : decode cX8_unitAt 69 = .ok (.ireturn, 1) := by decide +kernel
theorem dX8_units_0 : decode cX8_units 0 = .ok (.iconst 0, 1) := by decide +kernel
theorem dX8_units_1 : decode cX8_units 1 = .ok (.istore_n 1, 1) := by decide +kernel
theorem dX8_units_2 : decode cX8_units 2 = .ok (.iconst 0, 1) := by decide +kernel
theorem dX8_units_3 : decode cX8_units 3 = .ok (.istore_n 2, 1) := by decide +kernel
theorem dX8_units_4 : decode cX8_units 4 = .ok (.iload_n 2, 1) := by decide +kernel
theorem dX8_units_5 : decode cX8_units 5 = .ok (.aload_n 0, 1) := by decide +kernel
theorem dX8_units_6 : decode cX8_units 6 = .ok (.getfield 68, 3) := by decide +kernel
theorem dX8_units_9 : decode cX8_units 9 = .ok (.invokevirtual 85, 3) := by decide +kernel
theorem dX8_units_12 : decode cX8_units 12 = .ok (.if_icmp .ge 23, 3) := by decide +kernel
theorem dX8_units_15 : decode cX8_units 15 = .ok (.iload_n 1, 1) := by decide +kernel
theorem dX8_units_16 : decode cX8_units 16 = .ok (.aload_n 0, 1) := by decide +kernel
theorem dX8_units_17 : decode cX8_units 17 = .ok (.getfield 68, 3) := by decide +kernel
theorem dX8_units_20 : decode cX8_units 20 = .ok (.iload_n 2, 1) := by decide +kernel
theorem dX8_units_21 : decode cX8_units 21 = .ok (.invokevirtual 147, 3) := by decide +kernel
theorem dX8_units_24 : decode cX8_units 24 = .ok (.invokestatic 157, 3) := by decide +kernel
theorem dX8_units_27 : decode cX8_units 27 = .ok (.iadd, 1) := by decide +kernel
theorem dX8_units_28 : decode cX8_units 28 = .ok (.istore_n 1, 1) := by decide +kernel
theorem dX8_units_29 : decode cX8_units 29 = .ok (.iinc 2 1, 3) := by decide +kernel
theorem dX8_units_32 : decode cX8_units 32 = .ok (.goto (-28), 3) := by decide +kernel
theorem dX8_units_35 : decode cX8_units 35 = .ok (.iload_n 1, 1) := by decide +kernel
theorem dX8_units_36 : decode cX8_units 36 = .ok (.ireturn, 1) := by decide +kernel
theorem dX8_broken_0 : decode cX8_broken 0 = .ok (.aload_n 0, 1) := by decide +kernel
theorem dX8_broken_1 : decode cX8_broken 1 = .ok (.getfield 68, 3) := by decide +kernel
theorem dX8_broken_4 : decode cX8_broken 4 = .ok (.invokevirtual 85, 3) := by decide +kernel
theorem dX8_broken_7 : decode cX8_broken 7 = .ok (.istore_n 2, 1) := by decide +kernel
theorem dX8_broken_8 : decode cX8_broken 8 = .ok (.iload_n 1, 1) := by decide +kernel
theorem dX8_broken_9 : decode cX8_broken 9 = .ok (.ifCond .lt 8, 3) := by decide +kernel
theorem dX8_broken_12 : decode cX8_broken 12 = .ok (.iload_n 1, 1) := by decide +kernel
theorem dX8_broken_13 : decode cX8_broken 13 = .ok (.iload_n 2, 1) := by decide +kernel
theorem dX8_broken_14 : decode cX8_broken 14 = .ok (.if_icmp .le 6, 3) := by decide +kernel
theorem dX8_broken_17 : decode cX8_broken 17 = .ok (.bipush (-13), 2) := by decide +kernel
theorem dX8_broken_19 : decode cX8_broken 19 = .ok (.ireturn, 1) := by decide +kernel
theorem dX8_broken_20 : decode cX8_broken 20 = .ok (.iload_n 1, 1) := by decide +kernel
theorem dX8_broken_21 : decode cX8_broken 21 = .ok (.ifCond .eq 8, 3) := by decide +kernel
theorem dX8_broken_24 : decode cX8_broken 24 = .ok (.iload_n 1, 1) := by decide +kernel
theorem dX8_broken_25 : decode cX8_broken 25 = .ok (.iload_n 2, 1) := by decide +kernel
theorem dX8_broken_26 : decode cX8_broken 26 = .ok (.if_icmp .ne 5, 3) := by decide +kernel
theorem dX8_broken_29 : decode cX8_broken 29 = .ok (.iconst 1, 1) := by decide +kernel
theorem dX8_broken_30 : decode cX8_broken 30 = .ok (.ireturn, 1) := by decide +kernel
theorem dX8_broken_31 : decode cX8_broken 31 = .ok (.aload_n 0, 1) := by decide +kernel
theorem dX8_broken_32 : decode cX8_broken 32 = .ok (.getfield 68, 3) := by decide +kernel
theorem dX8_broken_35 : decode cX8_broken 35 = .ok (.iload_n 1, 1) := by decide +kernel
theorem dX8_broken_36 : decode cX8_broken 36 = .ok (.iconst 1, 1) := by decide +kernel
theorem dX8_broken_37 : decode cX8_broken 37 = .ok (.isub, 1) := by decide +kernel
theorem dX8_broken_38 : decode cX8_broken 38 = .ok (.invokevirtual 147, 3) := by decide +kernel
theorem dX8_broken_41 : decode cX8_broken 41 = .ok (.invokestatic 164, 3) := by decide +kernel
theorem dX8_broken_44 : decode cX8_broken 44 = .ok (.istore_n 3, 1) := by decide +kernel
theorem dX8_broken_45 : decode cX8_broken 45 = .ok (.aload_n 0, 1) := by decide +kernel
theorem dX8_broken_46 : decode cX8_broken 46 = .ok (.getfield 68, 3) := by decide +kernel
theorem dX8_broken_49 : decode cX8_broken 49 = .ok (.iload_n 1, 1) := by decide +kernel
theorem dX8_broken_50 : decode cX8_broken 50 = .ok (.invokevirtual 147, 3) := by decide +kernel
theorem dX8_broken_53 : decode cX8_broken 53 = .ok (.invokestatic 164, 3) := by decide +kernel
theorem dX8_broken_56 : decode cX8_broken 56 = .ok (.istore 4, 2) := by decide +kernel
theorem dX8_broken_58 : decode cX8_broken 58 = .ok (.iload_n 3, 1) := by decide +kernel
theorem dX8_broken_59 : decode cX8_broken 59 = .ok (.iload 4, 2) := by decide +kernel
theorem dX8_broken_61 : decode cX8_broken 61 = .ok (.if_icmp .ne 12, 3) := by decide +kernel
theorem dX8_broken_64 : decode cX8_broken 64 = .ok (.iload_n 3, 1) := by decide +kernel
theorem dX8_broken_65 : decode cX8_broken 65 = .ok (.ifCond .eq 8, 3) := by decide +kernel
theorem dX8_broken_68 : decode cX8_broken 68 = .ok (.iload_n 3, 1) := by decide +kernel
theorem dX8_broken_69 : decode cX8_broken 69 = .ok (.iconst 4, 1) := by decide +kernel
theorem dX8_broken_70 : decode cX8_broken 70 = .ok (.if_icmp .ne 7, 3) := by decide +kernel
theorem dX8_broken_73 : decode cX8_broken 73 = .ok (.iconst 1, 1) := by decide +kernel
theorem dX8_broken_74 : decode cX8_broken 74 = .ok (.goto 4, 3) := by decide +kernel
theorem dX8_broken_77 : decode cX8_broken 77 = .ok (.iconst 0, 1) := by decide +kernel
theorem dX8_broken_78 : decode cX8_broken 78 = .ok (.ireturn, 1) := by decide +kernel
theorem dX8_met_0 : decode cX8_met 0 = .ok (.iload_n 1, 1) := by decide +kernel
theorem dX8_met_1 : decode cX8_met 1 = .ok (.invokestatic 118, 3) := by decide +kernel
theorem dX8_met_4 : decode cX8_met 4 = .ok (.ifCond .ne 6, 3) := by decide +kernel
theorem dX8_met_7 : decode cX8_met 7 = .ok (.bipush (-13), 2) := by decide +kernel
theorem dX8_met_9 : decode cX8_met 9 = .ok (.ireturn, 1) := by decide +kernel
theorem dX8_met_10 : decode cX8_met 10 = .ok (.aload_n 0, 1) := by decide +kernel
theorem dX8_met_11 : decode cX8_met 11 = .ok (.getfield 57, 3) := by decide +kernel
theorem dX8_met_14 : decode cX8_met 14 = .ok (.iload_n 1, 1) := by decide +kernel
theorem dX8_met_15 : decode cX8_met 15 = .ok (.aaload, 1) := by decide +kernel
theorem dX8_met_16 : decode cX8_met 16 = .ok (.astore_n 2, 1) := by decide +kernel
theorem dX8_met_17 : decode cX8_met 17 = .ok (.aload_n 2, 1) := by decide +kernel
theorem dX8_met_18 : decode cX8_met 18 = .ok (.ifnull 10, 3) := by decide +kernel
theorem dX8_met_21 : decode cX8_met 21 = .ok (.aload_n 2, 1) := by decide +kernel
theorem dX8_met_22 : decode cX8_met 22 = .ok (.getfield 167, 3) := by decide +kernel
theorem dX8_met_25 : decode cX8_met 25 = .ok (.goto 5, 3) := by decide +kernel
theorem dX8_met_28 : decode cX8_met 28 = .ok (.bipush (-11), 2) := by decide +kernel
theorem dX8_met_30 : decode cX8_met 30 = .ok (.ireturn, 1) := by decide +kernel
theorem dX8_grown_0 : decode cX8_grown 0 = .ok (.iload_n 1, 1) := by decide +kernel
theorem dX8_grown_1 : decode cX8_grown 1 = .ok (.invokestatic 118, 3) := by decide +kernel
theorem dX8_grown_4 : decode cX8_grown 4 = .ok (.ifCond .ne 6, 3) := by decide +kernel
theorem dX8_grown_7 : decode cX8_grown 7 = .ok (.bipush (-13), 2) := by decide +kernel
theorem dX8_grown_9 : decode cX8_grown 9 = .ok (.ireturn, 1) := by decide +kernel
theorem dX8_grown_10 : decode cX8_grown 10 = .ok (.aload_n 0, 1) := by decide +kernel
theorem dX8_grown_11 : decode cX8_grown 11 = .ok (.getfield 57, 3) := by decide +kernel
theorem dX8_grown_14 : decode cX8_grown 14 = .ok (.iload_n 1, 1) := by decide +kernel
theorem dX8_grown_15 : decode cX8_grown 15 = .ok (.aaload, 1) := by decide +kernel
theorem dX8_grown_16 : decode cX8_grown 16 = .ok (.astore_n 2, 1) := by decide +kernel
theorem dX8_grown_17 : decode cX8_grown 17 = .ok (.aload_n 2, 1) := by decide +kernel
theorem dX8_grown_18 : decode cX8_grown 18 = .ok (.ifnonnull 6, 3) := by decide +kernel
theorem dX8_grown_21 : decode cX8_grown 21 = .ok (.bipush (-11), 2) := by decide +kernel
theorem dX8_grown_23 : decode cX8_grown 23 = .ok (.ireturn, 1) := by decide +kernel
theorem dX8_grown_24 : decode cX8_grown 24 = .ok (.aload_n 2, 1) := by decide +kernel
theorem dX8_grown_25 : decode cX8_grown 25 = .ok (.getfield 124, 3) := by decide +kernel
theorem dX8_grown_28 : decode cX8_grown 28 = .ok (.ifCond .ne 10, 3) := by decide +kernel
theorem dX8_grown_31 : decode cX8_grown 31 = .ok (.aload_n 2, 1) := by decide +kernel
theorem dX8_grown_32 : decode cX8_grown 32 = .ok (.getfield 170, 3) := by decide +kernel
theorem dX8_grown_35 : decode cX8_grown 35 = .ok (.goto 5, 3) := by decide +kernel
theorem dX8_grown_38 : decode cX8_grown 38 = .ok (.bipush (-12), 2) := by decide +kernel
theorem dX8_grown_40 : decode cX8_grown 40 = .ok (.ireturn, 1) := by decide +kernel
theorem dX8_table_0 : decode cX8_table 0 = .ok (.iload_n 1, 1) := by decide +kernel
theorem dX8_table_1 : decode cX8_table 1 = .ok (.ifCond .lt 16, 3) := by decide +kernel
theorem dX8_table_4 : decode cX8_table 4 = .ok (.iload_n 1, 1) := by decide +kernel
theorem dX8_table_5 : decode cX8_table 5 = .ok (.bipush 127, 2) := by decide +kernel
theorem dX8_table_7 : decode cX8_table 7 = .ok (.if_icmp .gt 10, 3) := by decide +kernel
theorem dX8_table_10 : decode cX8_table 10 = .ok (.iload_n 1, 1) := by decide +kernel
theorem dX8_table_11 : decode cX8_table 11 = .ok (.invokestatic 164, 3) := by decide +kernel
theorem dX8_table_14 : decode cX8_table 14 = .ok (.goto 5, 3) := by decide +kernel
theorem dX8_table_17 : decode cX8_table 17 = .ok (.bipush (-13), 2) := by decide +kernel
theorem dX8_table_19 : decode cX8_table 19 = .ok (.ireturn, 1) := by decide +kernel
theorem dX8_digit_0 : decode cX8_digit 0 = .ok (.aload_n 0, 1) := by decide +kernel
theorem dX8_digit_1 : decode cX8_digit 1 = .ok (.getfield 37, 3) := by decide +kernel
theorem dX8_digit_4 : decode cX8_digit 4 = .ok (.iload_n 1, 1) := by decide +kernel
theorem dX8_digit_5 : decode cX8_digit 5 = .ok (.invokevirtual 173, 3) := by decide +kernel
theorem dX8_digit_8 : decode cX8_digit 8 = .ok (.ireturn, 1) := by decide +kernel
theorem dX8_count_0 : decode cX8_count 0 = .ok (.iload_n 1, 1) := by decide +kernel
theorem dX8_count_1 : decode cX8_count 1 = .ok (.tableswitch 117 0 8 #[51, 56, 64, 72, 80, 88, 96, 104, 109], 51) := by decide +kernel
theorem dX8_count_52 : decode cX8_count 52 = .ok (.aload_n 0, 1) := by decide +kernel
theorem dX8_count_53 : decode cX8_count 53 = .ok (.getfield 13, 3) := by decide +kernel
theorem dX8_count_56 : decode cX8_count 56 = .ok (.ireturn, 1) := by decide +kernel
theorem dX8_count_57 : decode cX8_count 57 = .ok (.aload_n 0, 1) := by decide +kernel
theorem dX8_count_58 : decode cX8_count 58 = .ok (.getfield 64, 3) := by decide +kernel
theorem dX8_count_61 : decode cX8_count 61 = .ok (.invokevirtual 85, 3) := by decide +kernel
theorem dX8_count_64 : decode cX8_count 64 = .ok (.ireturn, 1) := by decide +kernel
theorem dX8_count_65 : decode cX8_count 65 = .ok (.aload_n 0, 1) := by decide +kernel
theorem dX8_count_66 : decode cX8_count 66 = .ok (.getfield 23, 3) := by decide +kernel
theorem dX8_count_69 : decode cX8_count 69 = .ok (.invokevirtual 105, 3) := by decide +kernel
theorem dX8_count_72 : decode cX8_count 72 = .ok (.ireturn, 1) := by decide +kernel
theorem dX8_count_73 : decode cX8_count 73 = .ok (.aload_n 0, 1) := by decide +kernel
theorem dX8_count_74 : decode cX8_count 74 = .ok (.getfield 30, 3) := by decide +kernel
theorem dX8_count_77 : decode cX8_count 77 = .ok (.invokevirtual 108, 3) := by decide +kernel
theorem dX8_count_80 : decode cX8_count 80 = .ok (.ireturn, 1) := by decide +kernel
theorem dX8_count_81 : decode cX8_count 81 = .ok (.aload_n 0, 1) := by decide +kernel
theorem dX8_count_82 : decode cX8_count 82 = .ok (.getfield 37, 3) := by decide +kernel
theorem dX8_count_85 : decode cX8_count 85 = .ok (.invokevirtual 113, 3) := by decide +kernel
theorem dX8_count_88 : decode cX8_count 88 = .ok (.ireturn, 1) := by decide +kernel
theorem dX8_count_89 : decode cX8_count 89 = .ok (.aload_n 0, 1) := by decide +kernel
theorem dX8_count_90 : decode cX8_count 90 = .ok (.getfield 44, 3) := by decide +kernel
theorem dX8_count_93 : decode cX8_count 93 = .ok (.invokevirtual 117, 3) := by decide +kernel
theorem dX8_count_96 : decode cX8_count 96 = .ok (.ireturn, 1) := by decide +kernel
theorem dX8_count_97 : decode cX8_count 97 = .ok (.aload_n 0, 1) := by decide +kernel
theorem dX8_count_98 : decode cX8_count 98 = .ok (.getfield 51, 3) := by decide +kernel
theorem dX8_count_101 : decode cX8_count 101 = .ok (.invokevirtual 93, 3) := by decide +kernel
theorem dX8_count_104 : decode cX8_count 104 = .ok (.ireturn, 1) := by decide +kernel
theorem dX8_count_105 : decode cX8_count 105 = .ok (.aload_n 0, 1) := by decide +kernel
theorem dX8_count_106 : decode cX8_count 106 = .ok (.invokevirtual 176, 3) := by decide +kernel
theorem dX8_count_109 : decode cX8_count 109 = .ok (.ireturn, 1) := by decide +kernel
theorem dX8_count_110 : decode cX8_count 110 = .ok (.aload_n 0, 1) := by decide +kernel
theorem dX8_count_111 : decode cX8_count 111 = .ok (.getfield 68, 3) := by decide +kernel
theorem dX8_count_114 : decode cX8_count 114 = .ok (.invokevirtual 85, 3) := by decide +kernel
theorem dX8_count_117 : decode cX8_count 117 = .ok (.ireturn, 1) := by decide +kernel
theorem dX8_count_118 : decode cX8_count 118 = .ok (.iconst (-1), 1) := by decide +kernel
theorem dX8_count_119 : decode cX8_count 119 = .ok (.ireturn, 1) := by decide +kernel
theorem dX8_isSign_0 : decode cX8_isSign 0 = .ok (.iload_n 0, 1) := by decide +kernel
theorem dX8_isSign_1 : decode cX8_isSign 1 = .ok (.ifCond .lt 13, 3) := by decide +kernel
theorem dX8_isSign_4 : decode cX8_isSign 4 = .ok (.iload_n 0, 1) := by decide +kernel
theorem dX8_isSign_5 : decode cX8_isSign 5 = .ok (.ldc 179, 2) := by decide +kernel
theorem dX8_isSign_7 : decode cX8_isSign 7 = .ok (.if_icmp .gt 7, 3) := by decide +kernel
theorem dX8_isSign_10 : decode cX8_isSign 10 = .ok (.iconst 1, 1) := by decide +kernel
theorem dX8_isSign_11 : decode cX8_isSign 11 = .ok (.goto 4, 3) := by decide +kernel
theorem dX8_isSign_14 : decode cX8_isSign 14 = .ok (.iconst 0, 1) := by decide +kernel
theorem dX8_isSign_15 : decode cX8_isSign 15 = .ok (.ireturn, 1) := by decide +kernel
theorem dX8_isSignOrNone_0 : decode cX8_isSignOrNone 0 = .ok (.iload_n 0, 1) := by decide +kernel
theorem dX8_isSignOrNone_1 : decode cX8_isSignOrNone 1 = .ok (.iconst (-1), 1) := by decide +kernel
theorem dX8_isSignOrNone_2 : decode cX8_isSignOrNone 2 = .ok (.if_icmp .eq 10, 3) := by decide +kernel
theorem dX8_isSignOrNone_5 : decode cX8_isSignOrNone 5 = .ok (.iload_n 0, 1) := by decide +kernel
theorem dX8_isSignOrNone_6 : decode cX8_isSignOrNone 6 = .ok (.invokestatic 94, 3) := by decide +kernel
theorem dX8_isSignOrNone_9 : decode cX8_isSignOrNone 9 = .ok (.ifCond .eq 7, 3) := by decide +kernel
theorem dX8_isSignOrNone_12 : decode cX8_isSignOrNone 12 = .ok (.iconst 1, 1) := by decide +kernel
theorem dX8_isSignOrNone_13 : decode cX8_isSignOrNone 13 = .ok (.goto 4, 3) := by decide +kernel
theorem dX8_isSignOrNone_16 : decode cX8_isSignOrNone 16 = .ok (.iconst 0, 1) := by decide +kernel
theorem dX8_isSignOrNone_17 : decode cX8_isSignOrNone 17 = .ok (.ireturn, 1) := by decide +kernel
theorem dX8_isFoldRow_0 : decode cX8_isFoldRow 0 = .ok (.iload_n 0, 1) := by decide +kernel
theorem dX8_isFoldRow_1 : decode cX8_isFoldRow 1 = .ok (.invokestatic 180, 3) := by decide +kernel
theorem dX8_isFoldRow_4 : decode cX8_isFoldRow 4 = .ok (.ifCond .eq 17, 3) := by decide +kernel
theorem dX8_isFoldRow_7 : decode cX8_isFoldRow 7 = .ok (.iload_n 1, 1) := by decide +kernel
theorem dX8_isFoldRow_8 : decode cX8_isFoldRow 8 = .ok (.invokestatic 180, 3) := by decide +kernel
theorem dX8_isFoldRow_11 : decode cX8_isFoldRow 11 = .ok (.ifCond .eq 10, 3) := by decide +kernel
theorem dX8_isFoldRow_14 : decode cX8_isFoldRow 14 = .ok (.iload_n 2, 1) := by decide +kernel
theorem dX8_isFoldRow_15 : decode cX8_isFoldRow 15 = .ok (.invokestatic 180, 3) := by decide +kernel
theorem dX8_isFoldRow_18 : decode cX8_isFoldRow 18 = .ok (.ifCond .ne 5, 3) := by decide +kernel
theorem dX8_isFoldRow_21 : decode cX8_isFoldRow 21 = .ok (.iconst 0, 1) := by decide +kernel
theorem dX8_isFoldRow_22 : decode cX8_isFoldRow 22 = .ok (.ireturn, 1) := by decide +kernel
theorem dX8_isFoldRow_23 : decode cX8_isFoldRow 23 = .ok (.iload_n 0, 1) := by decide +kernel
theorem dX8_isFoldRow_24 : decode cX8_isFoldRow 24 = .ok (.iconst (-1), 1) := by decide +kernel
theorem dX8_isFoldRow_25 : decode cX8_isFoldRow 25 = .ok (.if_icmp .ne 10, 3) := by decide +kernel
theorem dX8_isFoldRow_28 : decode cX8_isFoldRow 28 = .ok (.iload_n 1, 1) := by decide +kernel
theorem dX8_isFoldRow_29 : decode cX8_isFoldRow 29 = .ok (.iconst (-1), 1) := by decide +kernel
theorem dX8_isFoldRow_30 : decode cX8_isFoldRow 30 = .ok (.if_icmp .eq 5, 3) := by decide +kernel
theorem dX8_isFoldRow_33 : decode cX8_isFoldRow 33 = .ok (.iconst 0, 1) := by decide +kernel
theorem dX8_isFoldRow_34 : decode cX8_isFoldRow 34 = .ok (.ireturn, 1) := by decide +kernel
theorem dX8_isFoldRow_35 : decode cX8_isFoldRow 35 = .ok (.iload_n 1, 1) := by decide +kernel
theorem dX8_isFoldRow_36 : decode cX8_isFoldRow 36 = .ok (.iconst (-1), 1) := by decide +kernel
theorem dX8_isFoldRow_37 : decode cX8_isFoldRow 37 = .ok (.if_icmp .ne 8, 3) := by decide +kernel
theorem dX8_isFoldRow_40 : decode cX8_isFoldRow 40 = .ok (.iload_n 2, 1) := by decide +kernel
theorem dX8_isFoldRow_41 : decode cX8_isFoldRow 41 = .ok (.iconst (-1), 1) := by decide +kernel
theorem dX8_isFoldRow_42 : decode cX8_isFoldRow 42 = .ok (.if_icmp .ne 7, 3) := by decide +kernel
theorem dX8_isFoldRow_45 : decode cX8_isFoldRow 45 = .ok (.iconst 1, 1) := by decide +kernel
theorem dX8_isFoldRow_46 : decode cX8_isFoldRow 46 = .ok (.goto 4, 3) := by decide +kernel
theorem dX8_isFoldRow_49 : decode cX8_isFoldRow 49 = .ok (.iconst 0, 1) := by decide +kernel
theorem dX8_isFoldRow_50 : decode cX8_isFoldRow 50 = .ok (.ireturn, 1) := by decide +kernel
theorem dX8_isPlace_0 : decode cX8_isPlace 0 = .ok (.iload_n 0, 1) := by decide +kernel
theorem dX8_isPlace_1 : decode cX8_isPlace 1 = .ok (.ifCond .lt 13, 3) := by decide +kernel
theorem dX8_isPlace_4 : decode cX8_isPlace 4 = .ok (.iload_n 0, 1) := by decide +kernel
theorem dX8_isPlace_5 : decode cX8_isPlace 5 = .ok (.bipush 8, 2) := by decide +kernel
theorem dX8_isPlace_7 : decode cX8_isPlace 7 = .ok (.if_icmp .ge 7, 3) := by decide +kernel
theorem dX8_isPlace_10 : decode cX8_isPlace 10 = .ok (.iconst 1, 1) := by decide +kernel
theorem dX8_isPlace_11 : decode cX8_isPlace 11 = .ok (.goto 4, 3) := by decide +kernel
theorem dX8_isPlace_14 : decode cX8_isPlace 14 = .ok (.iconst 0, 1) := by decide +kernel
theorem dX8_isPlace_15 : decode cX8_isPlace 15 = .ok (.ireturn, 1) := by decide +kernel
theorem dX8_isHigh_0 : decode cX8_isHigh 0 = .ok (.iload_n 0, 1) := by decide +kernel
theorem dX8_isHigh_1 : decode cX8_isHigh 1 = .ok (.ldc 183, 2) := by decide +kernel
theorem dX8_isHigh_3 : decode cX8_isHigh 3 = .ok (.if_icmp .lt 13, 3) := by decide +kernel
theorem dX8_isHigh_6 : decode cX8_isHigh 6 = .ok (.iload_n 0, 1) := by decide +kernel
theorem dX8_isHigh_7 : decode cX8_isHigh 7 = .ok (.ldc 184, 2) := by decide +kernel
theorem dX8_isHigh_9 : decode cX8_isHigh 9 = .ok (.if_icmp .ge 7, 3) := by decide +kernel
theorem dX8_isHigh_12 : decode cX8_isHigh 12 = .ok (.iconst 1, 1) := by decide +kernel
theorem dX8_isHigh_13 : decode cX8_isHigh 13 = .ok (.goto 4, 3) := by decide +kernel
theorem dX8_isHigh_16 : decode cX8_isHigh 16 = .ok (.iconst 0, 1) := by decide +kernel
theorem dX8_isHigh_17 : decode cX8_isHigh 17 = .ok (.ireturn, 1) := by decide +kernel
theorem dX8_isLow_0 : decode cX8_isLow 0 = .ok (.iload_n 0, 1) := by decide +kernel
theorem dX8_isLow_1 : decode cX8_isLow 1 = .ok (.ldc 184, 2) := by decide +kernel
theorem dX8_isLow_3 : decode cX8_isLow 3 = .ok (.if_icmp .lt 13, 3) := by decide +kernel
theorem dX8_isLow_6 : decode cX8_isLow 6 = .ok (.iload_n 0, 1) := by decide +kernel
theorem dX8_isLow_7 : decode cX8_isLow 7 = .ok (.ldc 185, 2) := by decide +kernel
theorem dX8_isLow_9 : decode cX8_isLow 9 = .ok (.if_icmp .gt 7, 3) := by decide +kernel
theorem dX8_isLow_12 : decode cX8_isLow 12 = .ok (.iconst 1, 1) := by decide +kernel
theorem dX8_isLow_13 : decode cX8_isLow 13 = .ok (.goto 4, 3) := by decide +kernel
theorem dX8_isLow_16 : decode cX8_isLow 16 = .ok (.iconst 0, 1) := by decide +kernel
theorem dX8_isLow_17 : decode cX8_isLow 17 = .ok (.ireturn, 1) := by decide +kernel
theorem dX8_unitsOf_0 : decode cX8_unitsOf 0 = .ok (.iload_n 0, 1) := by decide +kernel
theorem dX8_unitsOf_1 : decode cX8_unitsOf 1 = .ok (.ldc 186, 2) := by decide +kernel
theorem dX8_unitsOf_3 : decode cX8_unitsOf 3 = .ok (.if_icmp .lt 7, 3) := by decide +kernel
theorem dX8_unitsOf_6 : decode cX8_unitsOf 6 = .ok (.iconst 2, 1) := by decide +kernel
theorem dX8_unitsOf_7 : decode cX8_unitsOf 7 = .ok (.goto 4, 3) := by decide +kernel
theorem dX8_unitsOf_10 : decode cX8_unitsOf 10 = .ok (.iconst 1, 1) := by decide +kernel
theorem dX8_unitsOf_11 : decode cX8_unitsOf 11 = .ok (.ireturn, 1) := by decide +kernel
theorem dX8_unitOf_0 : decode cX8_unitOf 0 = .ok (.iload_n 0, 1) := by decide +kernel
theorem dX8_unitOf_1 : decode cX8_unitOf 1 = .ok (.ldc 186, 2) := by decide +kernel
theorem dX8_unitOf_3 : decode cX8_unitOf 3 = .ok (.if_icmp .ge 5, 3) := by decide +kernel
theorem dX8_unitOf_6 : decode cX8_unitOf 6 = .ok (.iload_n 0, 1) := by decide +kernel
theorem dX8_unitOf_7 : decode cX8_unitOf 7 = .ok (.ireturn, 1) := by decide +kernel
theorem dX8_unitOf_8 : decode cX8_unitOf 8 = .ok (.iload_n 0, 1) := by decide +kernel
theorem dX8_unitOf_9 : decode cX8_unitOf 9 = .ok (.ldc 186, 2) := by decide +kernel
theorem dX8_unitOf_11 : decode cX8_unitOf 11 = .ok (.isub, 1) := by decide +kernel
theorem dX8_unitOf_12 : decode cX8_unitOf 12 = .ok (.istore_n 2, 1) := by decide +kernel
theorem dX8_unitOf_13 : decode cX8_unitOf 13 = .ok (.iload_n 1, 1) := by decide +kernel
theorem dX8_unitOf_14 : decode cX8_unitOf 14 = .ok (.ifCond .ne 13, 3) := by decide +kernel
theorem dX8_unitOf_17 : decode cX8_unitOf 17 = .ok (.ldc 183, 2) := by decide +kernel
theorem dX8_unitOf_19 : decode cX8_unitOf 19 = .ok (.iload_n 2, 1) := by decide +kernel
theorem dX8_unitOf_20 : decode cX8_unitOf 20 = .ok (.bipush 10, 2) := by decide +kernel
theorem dX8_unitOf_22 : decode cX8_unitOf 22 = .ok (.ishr, 1) := by decide +kernel
theorem dX8_unitOf_23 : decode cX8_unitOf 23 = .ok (.iadd, 1) := by decide +kernel
theorem dX8_unitOf_24 : decode cX8_unitOf 24 = .ok (.goto 11, 3) := by decide +kernel
theorem dX8_unitOf_27 : decode cX8_unitOf 27 = .ok (.ldc 184, 2) := by decide +kernel
theorem dX8_unitOf_29 : decode cX8_unitOf 29 = .ok (.iload_n 2, 1) := by decide +kernel
theorem dX8_unitOf_30 : decode cX8_unitOf 30 = .ok (.sipush 1023, 3) := by decide +kernel
theorem dX8_unitOf_33 : decode cX8_unitOf 33 = .ok (.iand, 1) := by decide +kernel
theorem dX8_unitOf_34 : decode cX8_unitOf 34 = .ok (.iadd, 1) := by decide +kernel
theorem dX8_unitOf_35 : decode cX8_unitOf 35 = .ok (.ireturn, 1) := by decide +kernel
theorem dX8_classOf_0 : decode cX8_classOf 0 = .ok (.iload_n 0, 1) := by decide +kernel
theorem dX8_classOf_1 : decode cX8_classOf 1 = .ok (.bipush 127, 2) := by decide +kernel
theorem dX8_classOf_3 : decode cX8_classOf 3 = .ok (.if_icmp .le 5, 3) := by decide +kernel
theorem dX8_classOf_6 : decode cX8_classOf 6 = .ok (.iconst 1, 1) := by decide +kernel
theorem dX8_classOf_7 : decode cX8_classOf 7 = .ok (.ireturn, 1) := by decide +kernel
theorem dX8_classOf_8 : decode cX8_classOf 8 = .ok (.iload_n 0, 1) := by decide +kernel
theorem dX8_classOf_9 : decode cX8_classOf 9 = .ok (.bipush 65, 2) := by decide +kernel
theorem dX8_classOf_11 : decode cX8_classOf 11 = .ok (.if_icmp .lt 9, 3) := by decide +kernel
theorem dX8_classOf_14 : decode cX8_classOf 14 = .ok (.iload_n 0, 1) := by decide +kernel
theorem dX8_classOf_15 : decode cX8_classOf 15 = .ok (.bipush 90, 2) := by decide +kernel
theorem dX8_classOf_17 : decode cX8_classOf 17 = .ok (.if_icmp .le 15, 3) := by decide +kernel
theorem dX8_classOf_20 : decode cX8_classOf 20 = .ok (.iload_n 0, 1) := by decide +kernel
theorem dX8_classOf_21 : decode cX8_classOf 21 = .ok (.bipush 97, 2) := by decide +kernel
theorem dX8_classOf_23 : decode cX8_classOf 23 = .ok (.if_icmp .lt 11, 3) := by decide +kernel
theorem dX8_classOf_26 : decode cX8_classOf 26 = .ok (.iload_n 0, 1) := by decide +kernel
theorem dX8_classOf_27 : decode cX8_classOf 27 = .ok (.bipush 122, 2) := by decide +kernel
theorem dX8_classOf_29 : decode cX8_classOf 29 = .ok (.if_icmp .gt 5, 3) := by decide +kernel
theorem dX8_classOf_32 : decode cX8_classOf 32 = .ok (.iconst 1, 1) := by decide +kernel
theorem dX8_classOf_33 : decode cX8_classOf 33 = .ok (.ireturn, 1) := by decide +kernel
theorem dX8_classOf_34 : decode cX8_classOf 34 = .ok (.iload_n 0, 1) := by decide +kernel
theorem dX8_classOf_35 : decode cX8_classOf 35 = .ok (.bipush 48, 2) := by decide +kernel
theorem dX8_classOf_37 : decode cX8_classOf 37 = .ok (.if_icmp .lt 11, 3) := by decide +kernel
theorem dX8_classOf_40 : decode cX8_classOf 40 = .ok (.iload_n 0, 1) := by decide +kernel
theorem dX8_classOf_41 : decode cX8_classOf 41 = .ok (.bipush 57, 2) := by decide +kernel
theorem dX8_classOf_43 : decode cX8_classOf 43 = .ok (.if_icmp .gt 5, 3) := by decide +kernel
theorem dX8_classOf_46 : decode cX8_classOf 46 = .ok (.iconst 2, 1) := by decide +kernel
theorem dX8_classOf_47 : decode cX8_classOf 47 = .ok (.ireturn, 1) := by decide +kernel
theorem dX8_classOf_48 : decode cX8_classOf 48 = .ok (.iload_n 0, 1) := by decide +kernel
theorem dX8_classOf_49 : decode cX8_classOf 49 = .ok (.bipush 9, 2) := by decide +kernel
theorem dX8_classOf_51 : decode cX8_classOf 51 = .ok (.if_icmp .eq 21, 3) := by decide +kernel
theorem dX8_classOf_54 : decode cX8_classOf 54 = .ok (.iload_n 0, 1) := by decide +kernel
theorem dX8_classOf_55 : decode cX8_classOf 55 = .ok (.bipush 10, 2) := by decide +kernel
theorem dX8_classOf_57 : decode cX8_classOf 57 = .ok (.if_icmp .eq 15, 3) := by decide +kernel
theorem dX8_classOf_60 : decode cX8_classOf 60 = .ok (.iload_n 0, 1) := by decide +kernel
theorem dX8_classOf_61 : decode cX8_classOf 61 = .ok (.bipush 13, 2) := by decide +kernel
theorem dX8_classOf_63 : decode cX8_classOf 63 = .ok (.if_icmp .eq 9, 3) := by decide +kernel
theorem dX8_classOf_66 : decode cX8_classOf 66 = .ok (.iload_n 0, 1) := by decide +kernel
theorem dX8_classOf_67 : decode cX8_classOf 67 = .ok (.bipush 32, 2) := by decide +kernel
theorem dX8_classOf_69 : decode cX8_classOf 69 = .ok (.if_icmp .ne 5, 3) := by decide +kernel
theorem dX8_classOf_72 : decode cX8_classOf 72 = .ok (.iconst 3, 1) := by decide +kernel
theorem dX8_classOf_73 : decode cX8_classOf 73 = .ok (.ireturn, 1) := by decide +kernel
theorem dX8_classOf_74 : decode cX8_classOf 74 = .ok (.iload_n 0, 1) := by decide +kernel
theorem dX8_classOf_75 : decode cX8_classOf 75 = .ok (.bipush 33, 2) := by decide +kernel
theorem dX8_classOf_77 : decode cX8_classOf 77 = .ok (.if_icmp .lt 13, 3) := by decide +kernel
theorem dX8_classOf_80 : decode cX8_classOf 80 = .ok (.iload_n 0, 1) := by decide +kernel
theorem dX8_classOf_81 : decode cX8_classOf 81 = .ok (.bipush 126, 2) := by decide +kernel
theorem dX8_classOf_83 : decode cX8_classOf 83 = .ok (.if_icmp .gt 7, 3) := by decide +kernel
theorem dX8_classOf_86 : decode cX8_classOf 86 = .ok (.iconst 4, 1) := by decide +kernel
theorem dX8_classOf_87 : decode cX8_classOf 87 = .ok (.goto 4, 3) := by decide +kernel
theorem dX8_classOf_90 : decode cX8_classOf 90 = .ok (.iconst 0, 1) := by decide +kernel
theorem dX8_classOf_91 : decode cX8_classOf 91 = .ok (.ireturn, 1) := by decide +kernel
theorem dX8_narrowed_0 : decode cX8_narrowed 0 = .ok (.iload_n 0, 1) := by decide +kernel
theorem dX8_narrowed_1 : decode cX8_narrowed 1 = .ok (.ldc 187, 2) := by decide +kernel
theorem dX8_narrowed_3 : decode cX8_narrowed 3 = .ok (.if_icmp .lt 14, 3) := by decide +kernel
theorem dX8_narrowed_6 : decode cX8_narrowed 6 = .ok (.iload_n 0, 1) := by decide +kernel
theorem dX8_narrowed_7 : decode cX8_narrowed 7 = .ok (.ldc 188, 2) := by decide +kernel
theorem dX8_narrowed_9 : decode cX8_narrowed 9 = .ok (.if_icmp .gt 8, 3) := by decide +kernel
theorem dX8_narrowed_12 : decode cX8_narrowed 12 = .ok (.iload_n 0, 1) := by decide +kernel
theorem dX8_narrowed_13 : decode cX8_narrowed 13 = .ok (.ldc 189, 2) := by decide +kernel
theorem dX8_narrowed_15 : decode cX8_narrowed 15 = .ok (.isub, 1) := by decide +kernel
theorem dX8_narrowed_16 : decode cX8_narrowed 16 = .ok (.ireturn, 1) := by decide +kernel
theorem dX8_narrowed_17 : decode cX8_narrowed 17 = .ok (.iload_n 0, 1) := by decide +kernel
theorem dX8_narrowed_18 : decode cX8_narrowed 18 = .ok (.sipush 12288, 3) := by decide +kernel
theorem dX8_narrowed_21 : decode cX8_narrowed 21 = .ok (.if_icmp .ne 8, 3) := by decide +kernel
theorem dX8_narrowed_24 : decode cX8_narrowed 24 = .ok (.bipush 32, 2) := by decide +kernel
theorem dX8_narrowed_26 : decode cX8_narrowed 26 = .ok (.goto 4, 3) := by decide +kernel
theorem dX8_narrowed_29 : decode cX8_narrowed 29 = .ok (.iconst (-1), 1) := by decide +kernel
theorem dX8_narrowed_30 : decode cX8_narrowed 30 = .ok (.ireturn, 1) := by decide +kernel
theorem dX8_emptyDraft_0 : decode cX8_emptyDraft 0 = .ok (.aload_n 0, 1) := by decide +kernel
theorem dX8_emptyDraft_1 : decode cX8_emptyDraft 1 = .ok (.iconst 0, 1) := by decide +kernel
theorem dX8_emptyDraft_2 : decode cX8_emptyDraft 2 = .ok (.putfield 13, 3) := by decide +kernel
theorem dX8_emptyDraft_5 : decode cX8_emptyDraft 5 = .ok (.aload_n 0, 1) := by decide +kernel
theorem dX8_emptyDraft_6 : decode cX8_emptyDraft 6 = .ok (.iconst 0, 1) := by decide +kernel
theorem dX8_emptyDraft_7 : decode cX8_emptyDraft 7 = .ok (.putfield 17, 3) := by decide +kernel
theorem dX8_emptyDraft_10 : decode cX8_emptyDraft 10 = .ok (.return_, 1) := by decide +kernel
theorem dX8_readSigns_0 : decode cX8_readSigns 0 = .ok (.aload_n 3, 1) := by decide +kernel
theorem dX8_readSigns_1 : decode cX8_readSigns 1 = .ok (.invokevirtual 190, 3) := by decide +kernel
theorem dX8_readSigns_4 : decode cX8_readSigns 4 = .ok (.iload_n 1, 1) := by decide +kernel
theorem dX8_readSigns_5 : decode cX8_readSigns 5 = .ok (.istore 4, 2) := by decide +kernel
theorem dX8_readSigns_7 : decode cX8_readSigns 7 = .ok (.iload 4, 2) := by decide +kernel
theorem dX8_readSigns_9 : decode cX8_readSigns 9 = .ok (.ifCond .lt 111, 3) := by decide +kernel
theorem dX8_readSigns_12 : decode cX8_readSigns 12 = .ok (.iload 4, 2) := by decide +kernel
theorem dX8_readSigns_14 : decode cX8_readSigns 14 = .ok (.iload_n 2, 1) := by decide +kernel
theorem dX8_readSigns_15 : decode cX8_readSigns 15 = .ok (.if_icmp .ge 105, 3) := by decide +kernel
theorem dX8_readSigns_18 : decode cX8_readSigns 18 = .ok (.iload 4, 2) := by decide +kernel
theorem dX8_readSigns_20 : decode cX8_readSigns 20 = .ok (.bipush 100, 2) := by decide +kernel
theorem dX8_readSigns_22 : decode cX8_readSigns 22 = .ok (.if_icmp .ge 98, 3) := by decide +kernel
theorem dX8_readSigns_25 : decode cX8_readSigns 25 = .ok (.aload_n 0, 1) := by decide +kernel
theorem dX8_readSigns_26 : decode cX8_readSigns 26 = .ok (.getfield 9, 3) := by decide +kernel
theorem dX8_readSigns_29 : decode cX8_readSigns 29 = .ok (.iload 4, 2) := by decide +kernel
theorem dX8_readSigns_31 : decode cX8_readSigns 31 = .ok (.iaload, 1) := by decide +kernel
theorem dX8_readSigns_32 : decode cX8_readSigns 32 = .ok (.istore 5, 2) := by decide +kernel
theorem dX8_readSigns_34 : decode cX8_readSigns 34 = .ok (.iload 4, 2) := by decide +kernel
theorem dX8_readSigns_36 : decode cX8_readSigns 36 = .ok (.iconst 1, 1) := by decide +kernel
theorem dX8_readSigns_37 : decode cX8_readSigns 37 = .ok (.iadd, 1) := by decide +kernel
theorem dX8_readSigns_38 : decode cX8_readSigns 38 = .ok (.istore 6, 2) := by decide +kernel
theorem dX8_readSigns_40 : decode cX8_readSigns 40 = .ok (.iload 5, 2) := by decide +kernel
theorem dX8_readSigns_42 : decode cX8_readSigns 42 = .ok (.invokestatic 193, 3) := by decide +kernel
theorem dX8_readSigns_45 : decode cX8_readSigns 45 = .ok (.ifCond .eq 57, 3) := by decide +kernel
theorem dX8_readSigns_48 : decode cX8_readSigns 48 = .ok (.iload 6, 2) := by decide +kernel
theorem dX8_readSigns_50 : decode cX8_readSigns 50 = .ok (.iload_n 2, 1) := by decide +kernel
theorem dX8_readSigns_51 : decode cX8_readSigns 51 = .ok (.if_icmp .ge 51, 3) := by decide +kernel
theorem dX8_readSigns_54 : decode cX8_readSigns 54 = .ok (.iload 6, 2) := by decide +kernel
theorem dX8_readSigns_56 : decode cX8_readSigns 56 = .ok (.bipush 100, 2) := by decide +kernel
theorem dX8_readSigns_58 : decode cX8_readSigns 58 = .ok (.if_icmp .ge 44, 3) := by decide +kernel
theorem dX8_readSigns_61 : decode cX8_readSigns 61 = .ok (.aload_n 0, 1) := by decide +kernel
theorem dX8_readSigns_62 : decode cX8_readSigns 62 = .ok (.getfield 9, 3) := by decide +kernel
theorem dX8_readSigns_65 : decode cX8_readSigns 65 = .ok (.iload 6, 2) := by decide +kernel
theorem dX8_readSigns_67 : decode cX8_readSigns 67 = .ok (.iaload, 1) := by decide +kernel
theorem dX8_readSigns_68 : decode cX8_readSigns 68 = .ok (.invokestatic 196, 3) := by decide +kernel
theorem dX8_readSigns_71 : decode cX8_readSigns 71 = .ok (.ifCond .eq 31, 3) := by decide +kernel
theorem dX8_readSigns_74 : decode cX8_readSigns 74 = .ok (.ldc 186, 2) := by decide +kernel
theorem dX8_readSigns_76 : decode cX8_readSigns 76 = .ok (.sipush 1024, 3) := by decide +kernel
theorem dX8_readSigns_79 : decode cX8_readSigns 79 = .ok (.iload 5, 2) := by decide +kernel
theorem dX8_readSigns_81 : decode cX8_readSigns 81 = .ok (.ldc 183, 2) := by decide +kernel
theorem dX8_readSigns_83 : decode cX8_readSigns 83 = .ok (.isub, 1) := by decide +kernel
theorem dX8_readSigns_84 : decode cX8_readSigns 84 = .ok (.imul, 1) := by decide +kernel
theorem dX8_readSigns_85 : decode cX8_readSigns 85 = .ok (.iadd, 1) := by decide +kernel
theorem dX8_readSigns_86 : decode cX8_readSigns 86 = .ok (.aload_n 0, 1) := by decide +kernel
theorem dX8_readSigns_87 : decode cX8_readSigns 87 = .ok (.getfield 9, 3) := by decide +kernel
theorem dX8_readSigns_90 : decode cX8_readSigns 90 = .ok (.iload 6, 2) := by decide +kernel
theorem dX8_readSigns_92 : decode cX8_readSigns 92 = .ok (.iaload, 1) := by decide +kernel
theorem dX8_readSigns_93 : decode cX8_readSigns 93 = .ok (.iadd, 1) := by decide +kernel
theorem dX8_readSigns_94 : decode cX8_readSigns 94 = .ok (.ldc 184, 2) := by decide +kernel
theorem dX8_readSigns_96 : decode cX8_readSigns 96 = .ok (.isub, 1) := by decide +kernel
theorem dX8_readSigns_97 : decode cX8_readSigns 97 = .ok (.istore 5, 2) := by decide +kernel
theorem dX8_readSigns_99 : decode cX8_readSigns 99 = .ok (.iinc 6 1, 3) := by decide +kernel
theorem dX8_readSigns_102 : decode cX8_readSigns 102 = .ok (.aload_n 3, 1) := by decide +kernel
theorem dX8_readSigns_103 : decode cX8_readSigns 103 = .ok (.iload 5, 2) := by decide +kernel
theorem dX8_readSigns_105 : decode cX8_readSigns 105 = .ok (.iload 4, 2) := by decide +kernel
theorem dX8_readSigns_107 : decode cX8_readSigns 107 = .ok (.iload 6, 2) := by decide +kernel
theorem dX8_readSigns_109 : decode cX8_readSigns 109 = .ok (.invokevirtual 199, 3) := by decide +kernel
theorem dX8_readSigns_112 : decode cX8_readSigns 112 = .ok (.pop, 1) := by decide +kernel
theorem dX8_readSigns_113 : decode cX8_readSigns 113 = .ok (.iload 6, 2) := by decide +kernel
theorem dX8_readSigns_115 : decode cX8_readSigns 115 = .ok (.istore 4, 2) := by decide +kernel
theorem dX8_readSigns_117 : decode cX8_readSigns 117 = .ok (.goto (-110), 3) := by decide +kernel
theorem dX8_readSigns_120 : decode cX8_readSigns 120 = .ok (.return_, 1) := by decide +kernel
theorem dX8_filtersInChain_0 : decode cX8_filtersInChain 0 = .ok (.iconst 0, 1) := by decide +kernel
theorem dX8_filtersInChain_1 : decode cX8_filtersInChain 1 = .ok (.istore_n 1, 1) := by decide +kernel
theorem dX8_filtersInChain_2 : decode cX8_filtersInChain 2 = .ok (.iconst 0, 1) := by decide +kernel
theorem dX8_filtersInChain_3 : decode cX8_filtersInChain 3 = .ok (.istore_n 2, 1) := by decide +kernel
theorem dX8_filtersInChain_4 : decode cX8_filtersInChain 4 = .ok (.iload_n 2, 1) := by decide +kernel
theorem dX8_filtersInChain_5 : decode cX8_filtersInChain 5 = .ok (.bipush 8, 2) := by decide +kernel
theorem dX8_filtersInChain_7 : decode cX8_filtersInChain 7 = .ok (.if_icmp .ge 21, 3) := by decide +kernel
theorem dX8_filtersInChain_10 : decode cX8_filtersInChain 10 = .ok (.aload_n 0, 1) := by decide +kernel
theorem dX8_filtersInChain_11 : decode cX8_filtersInChain 11 = .ok (.getfield 57, 3) := by decide +kernel
theorem dX8_filtersInChain_14 : decode cX8_filtersInChain 14 = .ok (.iload_n 2, 1) := by decide +kernel
theorem dX8_filtersInChain_15 : decode cX8_filtersInChain 15 = .ok (.aaload, 1) := by decide +kernel
theorem dX8_filtersInChain_16 : decode cX8_filtersInChain 16 = .ok (.ifnull 6, 3) := by decide +kernel
theorem dX8_filtersInChain_19 : decode cX8_filtersInChain 19 = .ok (.iinc 1 1, 3) := by decide +kernel
theorem dX8_filtersInChain_22 : decode cX8_filtersInChain 22 = .ok (.iinc 2 1, 3) := by decide +kernel
theorem dX8_filtersInChain_25 : decode cX8_filtersInChain 25 = .ok (.goto (-21), 3) := by decide +kernel
theorem dX8_filtersInChain_28 : decode cX8_filtersInChain 28 = .ok (.iload_n 1, 1) := by decide +kernel
theorem dX8_filtersInChain_29 : decode cX8_filtersInChain 29 = .ok (.ireturn, 1) := by decide +kernel
theorem dX8_settleFilters_0 : decode cX8_settleFilters 0 = .ok (.iconst 0, 1) := by decide +kernel
theorem dX8_settleFilters_1 : decode cX8_settleFilters 1 = .ok (.istore_n 1, 1) := by decide +kernel
theorem dX8_settleFilters_2 : decode cX8_settleFilters 2 = .ok (.iload_n 1, 1) := by decide +kernel
theorem dX8_settleFilters_3 : decode cX8_settleFilters 3 = .ok (.bipush 8, 2) := by decide +kernel
theorem dX8_settleFilters_5 : decode cX8_settleFilters 5 = .ok (.if_icmp .ge 24, 3) := by decide +kernel
theorem dX8_settleFilters_8 : decode cX8_settleFilters 8 = .ok (.aload_n 0, 1) := by decide +kernel
theorem dX8_settleFilters_9 : decode cX8_settleFilters 9 = .ok (.getfield 57, 3) := by decide +kernel
theorem dX8_settleFilters_12 : decode cX8_settleFilters 12 = .ok (.iload_n 1, 1) := by decide +kernel
theorem dX8_settleFilters_13 : decode cX8_settleFilters 13 = .ok (.aaload, 1) := by decide +kernel
theorem dX8_settleFilters_14 : decode cX8_settleFilters 14 = .ok (.astore_n 2, 1) := by decide +kernel
theorem dX8_settleFilters_15 : decode cX8_settleFilters 15 = .ok (.aload_n 2, 1) := by decide +kernel
theorem dX8_settleFilters_16 : decode cX8_settleFilters 16 = .ok (.ifnull 7, 3) := by decide +kernel
theorem dX8_settleFilters_19 : decode cX8_settleFilters 19 = .ok (.aload_n 2, 1) := by decide +kernel
theorem dX8_settleFilters_20 : decode cX8_settleFilters 20 = .ok (.invokevirtual 201, 3) := by decide +kernel
theorem dX8_settleFilters_23 : decode cX8_settleFilters 23 = .ok (.iinc 1 1, 3) := by decide +kernel
theorem dX8_settleFilters_26 : decode cX8_settleFilters 26 = .ok (.goto (-24), 3) := by decide +kernel
theorem dX8_settleFilters_29 : decode cX8_settleFilters 29 = .ok (.return_, 1) := by decide +kernel
theorem dX8_passThrough_0 : decode cX8_passThrough 0 = .ok (.aload_n 3, 1) := by decide +kernel
theorem dX8_passThrough_1 : decode cX8_passThrough 1 = .ok (.invokevirtual 190, 3) := by decide +kernel
theorem dX8_passThrough_4 : decode cX8_passThrough 4 = .ok (.aload_n 1, 1) := by decide +kernel
theorem dX8_passThrough_5 : decode cX8_passThrough 5 = .ok (.getfield 124, 3) := by decide +kernel
theorem dX8_passThrough_8 : decode cX8_passThrough 8 = .ok (.tableswitch 88 0 5 #[40, 48, 56, 64, 72, 80], 40) := by decide +kernel
theorem dX8_passThrough_48 : decode cX8_passThrough 48 = .ok (.aload_n 0, 1) := by decide +kernel
theorem dX8_passThrough_49 : decode cX8_passThrough 49 = .ok (.aload_n 1, 1) := by decide +kernel
theorem dX8_passThrough_50 : decode cX8_passThrough 50 = .ok (.aload_n 2, 1) := by decide +kernel
theorem dX8_passThrough_51 : decode cX8_passThrough 51 = .ok (.aload_n 3, 1) := by decide +kernel
theorem dX8_passThrough_52 : decode cX8_passThrough 52 = .ok (.invokevirtual 204, 3) := by decide +kernel
theorem dX8_passThrough_55 : decode cX8_passThrough 55 = .ok (.ireturn, 1) := by decide +kernel
theorem dX8_passThrough_56 : decode cX8_passThrough 56 = .ok (.aload_n 0, 1) := by decide +kernel
theorem dX8_passThrough_57 : decode cX8_passThrough 57 = .ok (.aload_n 1, 1) := by decide +kernel
theorem dX8_passThrough_58 : decode cX8_passThrough 58 = .ok (.aload_n 2, 1) := by decide +kernel
theorem dX8_passThrough_59 : decode cX8_passThrough 59 = .ok (.aload_n 3, 1) := by decide +kernel
theorem dX8_passThrough_60 : decode cX8_passThrough 60 = .ok (.invokevirtual 207, 3) := by decide +kernel
theorem dX8_passThrough_63 : decode cX8_passThrough 63 = .ok (.ireturn, 1) := by decide +kernel
theorem dX8_passThrough_64 : decode cX8_passThrough 64 = .ok (.aload_n 0, 1) := by decide +kernel
theorem dX8_passThrough_65 : decode cX8_passThrough 65 = .ok (.aload_n 1, 1) := by decide +kernel
theorem dX8_passThrough_66 : decode cX8_passThrough 66 = .ok (.aload_n 2, 1) := by decide +kernel
theorem dX8_passThrough_67 : decode cX8_passThrough 67 = .ok (.aload_n 3, 1) := by decide +kernel
theorem dX8_passThrough_68 : decode cX8_passThrough 68 = .ok (.invokevirtual 210, 3) := by decide +kernel
theorem dX8_passThrough_71 : decode cX8_passThrough 71 = .ok (.ireturn, 1) := by decide +kernel
theorem dX8_passThrough_72 : decode cX8_passThrough 72 = .ok (.aload_n 0, 1) := by decide +kernel
theorem dX8_passThrough_73 : decode cX8_passThrough 73 = .ok (.aload_n 1, 1) := by decide +kernel
theorem dX8_passThrough_74 : decode cX8_passThrough 74 = .ok (.aload_n 2, 1) := by decide +kernel
theorem dX8_passThrough_75 : decode cX8_passThrough 75 = .ok (.aload_n 3, 1) := by decide +kernel
theorem dX8_passThrough_76 : decode cX8_passThrough 76 = .ok (.invokevirtual 213, 3) := by decide +kernel
theorem dX8_passThrough_79 : decode cX8_passThrough 79 = .ok (.ireturn, 1) := by decide +kernel
theorem dX8_passThrough_80 : decode cX8_passThrough 80 = .ok (.aload_n 0, 1) := by decide +kernel
theorem dX8_passThrough_81 : decode cX8_passThrough 81 = .ok (.aload_n 1, 1) := by decide +kernel
theorem dX8_passThrough_82 : decode cX8_passThrough 82 = .ok (.aload_n 2, 1) := by decide +kernel
theorem dX8_passThrough_83 : decode cX8_passThrough 83 = .ok (.aload_n 3, 1) := by decide +kernel
theorem dX8_passThrough_84 : decode cX8_passThrough 84 = .ok (.invokevirtual 216, 3) := by decide +kernel
theorem dX8_passThrough_87 : decode cX8_passThrough 87 = .ok (.ireturn, 1) := by decide +kernel
theorem dX8_passThrough_88 : decode cX8_passThrough 88 = .ok (.aload_n 0, 1) := by decide +kernel
theorem dX8_passThrough_89 : decode cX8_passThrough 89 = .ok (.aload_n 1, 1) := by decide +kernel
theorem dX8_passThrough_90 : decode cX8_passThrough 90 = .ok (.aload_n 2, 1) := by decide +kernel
theorem dX8_passThrough_91 : decode cX8_passThrough 91 = .ok (.aload_n 3, 1) := by decide +kernel
theorem dX8_passThrough_92 : decode cX8_passThrough 92 = .ok (.invokevirtual 219, 3) := by decide +kernel
theorem dX8_passThrough_95 : decode cX8_passThrough 95 = .ok (.ireturn, 1) := by decide +kernel
theorem dX8_passThrough_96 : decode cX8_passThrough 96 = .ok (.aload_n 0, 1) := by decide +kernel
theorem dX8_passThrough_97 : decode cX8_passThrough 97 = .ok (.aload_n 1, 1) := by decide +kernel
theorem dX8_passThrough_98 : decode cX8_passThrough 98 = .ok (.aload_n 2, 1) := by decide +kernel
theorem dX8_passThrough_99 : decode cX8_passThrough 99 = .ok (.aload_n 3, 1) := by decide +kernel
theorem dX8_passThrough_100 : decode cX8_passThrough 100 = .ok (.invokevirtual 222, 3) := by decide +kernel
theorem dX8_passThrough_103 : decode cX8_passThrough 103 = .ok (.ireturn, 1) := by decide +kernel
theorem dX8_passFolding_0 : decode cX8_passFolding 0 = .ok (.iconst 1, 1) := by decide +kernel
theorem dX8_passFolding_1 : decode cX8_passFolding 1 = .ok (.istore 4, 2) := by decide +kernel
theorem dX8_passFolding_3 : decode cX8_passFolding 3 = .ok (.iconst 0, 1) := by decide +kernel
theorem dX8_passFolding_4 : decode cX8_passFolding 4 = .ok (.istore 5, 2) := by decide +kernel
theorem dX8_passFolding_6 : decode cX8_passFolding 6 = .ok (.iload 5, 2) := by decide +kernel
theorem dX8_passFolding_8 : decode cX8_passFolding 8 = .ok (.aload_n 2, 1) := by decide +kernel
theorem dX8_passFolding_9 : decode cX8_passFolding 9 = .ok (.invokevirtual 85, 3) := by decide +kernel
theorem dX8_passFolding_12 : decode cX8_passFolding 12 = .ok (.if_icmp .ge 142, 3) := by decide +kernel
theorem dX8_passFolding_15 : decode cX8_passFolding 15 = .ok (.iload 4, 2) := by decide +kernel
theorem dX8_passFolding_17 : decode cX8_passFolding 17 = .ok (.ifCond .eq 137, 3) := by decide +kernel
theorem dX8_passFolding_20 : decode cX8_passFolding 20 = .ok (.aload_n 2, 1) := by decide +kernel
theorem dX8_passFolding_21 : decode cX8_passFolding 21 = .ok (.iload 5, 2) := by decide +kernel
theorem dX8_passFolding_23 : decode cX8_passFolding 23 = .ok (.invokevirtual 147, 3) := by decide +kernel
theorem dX8_passFolding_26 : decode cX8_passFolding 26 = .ok (.istore 6, 2) := by decide +kernel
theorem dX8_passFolding_28 : decode cX8_passFolding 28 = .ok (.aload_n 0, 1) := by decide +kernel
theorem dX8_passFolding_29 : decode cX8_passFolding 29 = .ok (.getfield 23, 3) := by decide +kernel
theorem dX8_passFolding_32 : decode cX8_passFolding 32 = .ok (.iload 6, 2) := by decide +kernel
theorem dX8_passFolding_34 : decode cX8_passFolding 34 = .ok (.invokevirtual 225, 3) := by decide +kernel
theorem dX8_passFolding_37 : decode cX8_passFolding 37 = .ok (.istore 7, 2) := by decide +kernel
theorem dX8_passFolding_39 : decode cX8_passFolding 39 = .ok (.iload 7, 2) := by decide +kernel
theorem dX8_passFolding_41 : decode cX8_passFolding 41 = .ok (.iconst (-1), 1) := by decide +kernel
theorem dX8_passFolding_42 : decode cX8_passFolding 42 = .ok (.if_icmp .ne 26, 3) := by decide +kernel
theorem dX8_passFolding_45 : decode cX8_passFolding 45 = .ok (.aload_n 3, 1) := by decide +kernel
theorem dX8_passFolding_46 : decode cX8_passFolding 46 = .ok (.iload 6, 2) := by decide +kernel
theorem dX8_passFolding_48 : decode cX8_passFolding 48 = .ok (.aload_n 2, 1) := by decide +kernel
theorem dX8_passFolding_49 : decode cX8_passFolding 49 = .ok (.iload 5, 2) := by decide +kernel
theorem dX8_passFolding_51 : decode cX8_passFolding 51 = .ok (.invokevirtual 154, 3) := by decide +kernel
theorem dX8_passFolding_54 : decode cX8_passFolding 54 = .ok (.aload_n 2, 1) := by decide +kernel
theorem dX8_passFolding_55 : decode cX8_passFolding 55 = .ok (.iload 5, 2) := by decide +kernel
theorem dX8_passFolding_57 : decode cX8_passFolding 57 = .ok (.invokevirtual 151, 3) := by decide +kernel
theorem dX8_passFolding_60 : decode cX8_passFolding 60 = .ok (.invokevirtual 199, 3) := by decide +kernel
theorem dX8_passFolding_63 : decode cX8_passFolding 63 = .ok (.istore 4, 2) := by decide +kernel
theorem dX8_passFolding_65 : decode cX8_passFolding 65 = .ok (.goto 83, 3) := by decide +kernel
theorem dX8_passFolding_68 : decode cX8_passFolding 68 = .ok (.aload_n 1, 1) := by decide +kernel
theorem dX8_passFolding_69 : decode cX8_passFolding 69 = .ok (.invokevirtual 228, 3) := by decide +kernel
theorem dX8_passFolding_72 : decode cX8_passFolding 72 = .ok (.aload_n 1, 1) := by decide +kernel
theorem dX8_passFolding_73 : decode cX8_passFolding 73 = .ok (.aload_n 0, 1) := by decide +kernel
theorem dX8_passFolding_74 : decode cX8_passFolding 74 = .ok (.getfield 23, 3) := by decide +kernel
theorem dX8_passFolding_77 : decode cX8_passFolding 77 = .ok (.iload 7, 2) := by decide +kernel
theorem dX8_passFolding_79 : decode cX8_passFolding 79 = .ok (.invokevirtual 231, 3) := by decide +kernel
theorem dX8_passFolding_82 : decode cX8_passFolding 82 = .ok (.iload 6, 2) := by decide +kernel
theorem dX8_passFolding_84 : decode cX8_passFolding 84 = .ok (.invokestatic 157, 3) := by decide +kernel
theorem dX8_passFolding_87 : decode cX8_passFolding 87 = .ok (.isub, 1) := by decide +kernel
theorem dX8_passFolding_88 : decode cX8_passFolding 88 = .ok (.invokevirtual 234, 3) := by decide +kernel
theorem dX8_passFolding_91 : decode cX8_passFolding 91 = .ok (.iconst 0, 1) := by decide +kernel
theorem dX8_passFolding_92 : decode cX8_passFolding 92 = .ok (.istore 8, 2) := by decide +kernel
theorem dX8_passFolding_94 : decode cX8_passFolding 94 = .ok (.iload 8, 2) := by decide +kernel
theorem dX8_passFolding_96 : decode cX8_passFolding 96 = .ok (.aload_n 0, 1) := by decide +kernel
theorem dX8_passFolding_97 : decode cX8_passFolding 97 = .ok (.getfield 23, 3) := by decide +kernel
theorem dX8_passFolding_100 : decode cX8_passFolding 100 = .ok (.iload 7, 2) := by decide +kernel
theorem dX8_passFolding_102 : decode cX8_passFolding 102 = .ok (.invokevirtual 237, 3) := by decide +kernel
theorem dX8_passFolding_105 : decode cX8_passFolding 105 = .ok (.if_icmp .ge 43, 3) := by decide +kernel
theorem dX8_passFolding_108 : decode cX8_passFolding 108 = .ok (.iload 4, 2) := by decide +kernel
theorem dX8_passFolding_110 : decode cX8_passFolding 110 = .ok (.ifCond .eq 38, 3) := by decide +kernel
theorem dX8_passFolding_113 : decode cX8_passFolding 113 = .ok (.aload_n 3, 1) := by decide +kernel
theorem dX8_passFolding_114 : decode cX8_passFolding 114 = .ok (.aload_n 0, 1) := by decide +kernel
theorem dX8_passFolding_115 : decode cX8_passFolding 115 = .ok (.getfield 23, 3) := by decide +kernel
theorem dX8_passFolding_118 : decode cX8_passFolding 118 = .ok (.iload 7, 2) := by decide +kernel
theorem dX8_passFolding_120 : decode cX8_passFolding 120 = .ok (.iload 8, 2) := by decide +kernel
theorem dX8_passFolding_122 : decode cX8_passFolding 122 = .ok (.invokevirtual 240, 3) := by decide +kernel
theorem dX8_passFolding_125 : decode cX8_passFolding 125 = .ok (.aload_n 2, 1) := by decide +kernel
theorem dX8_passFolding_126 : decode cX8_passFolding 126 = .ok (.iload 5, 2) := by decide +kernel
theorem dX8_passFolding_128 : decode cX8_passFolding 128 = .ok (.invokevirtual 154, 3) := by decide +kernel
theorem dX8_passFolding_131 : decode cX8_passFolding 131 = .ok (.aload_n 2, 1) := by decide +kernel
theorem dX8_passFolding_132 : decode cX8_passFolding 132 = .ok (.iload 5, 2) := by decide +kernel
theorem dX8_passFolding_134 : decode cX8_passFolding 134 = .ok (.invokevirtual 151, 3) := by decide +kernel
theorem dX8_passFolding_137 : decode cX8_passFolding 137 = .ok (.invokevirtual 199, 3) := by decide +kernel
theorem dX8_passFolding_140 : decode cX8_passFolding 140 = .ok (.istore 4, 2) := by decide +kernel
theorem dX8_passFolding_142 : decode cX8_passFolding 142 = .ok (.iinc 8 1, 3) := by decide +kernel
theorem dX8_passFolding_145 : decode cX8_passFolding 145 = .ok (.goto (-51), 3) := by decide +kernel
theorem dX8_passFolding_148 : decode cX8_passFolding 148 = .ok (.iinc 5 1, 3) := by decide +kernel
theorem dX8_passFolding_151 : decode cX8_passFolding 151 = .ok (.goto (-145), 3) := by decide +kernel
theorem dX8_passFolding_154 : decode cX8_passFolding 154 = .ok (.iload 4, 2) := by decide +kernel
theorem dX8_passFolding_156 : decode cX8_passFolding 156 = .ok (.ireturn, 1) := by decide +kernel
theorem dX8_passComposing_0 : decode cX8_passComposing 0 = .ok (.iconst 1, 1) := by decide +kernel
theorem dX8_passComposing_1 : decode cX8_passComposing 1 = .ok (.istore 4, 2) := by decide +kernel
theorem dX8_passComposing_3 : decode cX8_passComposing 3 = .ok (.iconst 0, 1) := by decide +kernel
theorem dX8_passComposing_4 : decode cX8_passComposing 4 = .ok (.istore 5, 2) := by decide +kernel
theorem dX8_passComposing_6 : decode cX8_passComposing 6 = .ok (.iload 5, 2) := by decide +kernel
theorem dX8_passComposing_8 : decode cX8_passComposing 8 = .ok (.aload_n 2, 1) := by decide +kernel
theorem dX8_passComposing_9 : decode cX8_passComposing 9 = .ok (.invokevirtual 85, 3) := by decide +kernel
theorem dX8_passComposing_12 : decode cX8_passComposing 12 = .ok (.if_icmp .ge 105, 3) := by decide +kernel
theorem dX8_passComposing_15 : decode cX8_passComposing 15 = .ok (.iload 4, 2) := by decide +kernel
theorem dX8_passComposing_17 : decode cX8_passComposing 17 = .ok (.ifCond .eq 100, 3) := by decide +kernel
theorem dX8_passComposing_20 : decode cX8_passComposing 20 = .ok (.iconst (-1), 1) := by decide +kernel
theorem dX8_passComposing_21 : decode cX8_passComposing 21 = .ok (.istore 6, 2) := by decide +kernel
theorem dX8_passComposing_23 : decode cX8_passComposing 23 = .ok (.aload_n 3, 1) := by decide +kernel
theorem dX8_passComposing_24 : decode cX8_passComposing 24 = .ok (.invokevirtual 85, 3) := by decide +kernel
theorem dX8_passComposing_27 : decode cX8_passComposing 27 = .ok (.ifCond .le 28, 3) := by decide +kernel
theorem dX8_passComposing_30 : decode cX8_passComposing 30 = .ok (.aload_n 0, 1) := by decide +kernel
theorem dX8_passComposing_31 : decode cX8_passComposing 31 = .ok (.getfield 30, 3) := by decide +kernel
theorem dX8_passComposing_34 : decode cX8_passComposing 34 = .ok (.aload_n 3, 1) := by decide +kernel
theorem dX8_passComposing_35 : decode cX8_passComposing 35 = .ok (.aload_n 3, 1) := by decide +kernel
theorem dX8_passComposing_36 : decode cX8_passComposing 36 = .ok (.invokevirtual 85, 3) := by decide +kernel
theorem dX8_passComposing_39 : decode cX8_passComposing 39 = .ok (.iconst 1, 1) := by decide +kernel
theorem dX8_passComposing_40 : decode cX8_passComposing 40 = .ok (.isub, 1) := by decide +kernel
theorem dX8_passComposing_41 : decode cX8_passComposing 41 = .ok (.invokevirtual 147, 3) := by decide +kernel
theorem dX8_passComposing_44 : decode cX8_passComposing 44 = .ok (.aload_n 2, 1) := by decide +kernel
theorem dX8_passComposing_45 : decode cX8_passComposing 45 = .ok (.iload 5, 2) := by decide +kernel
theorem dX8_passComposing_47 : decode cX8_passComposing 47 = .ok (.invokevirtual 147, 3) := by decide +kernel
theorem dX8_passComposing_50 : decode cX8_passComposing 50 = .ok (.invokevirtual 243, 3) := by decide +kernel
theorem dX8_passComposing_53 : decode cX8_passComposing 53 = .ok (.istore 6, 2) := by decide +kernel
theorem dX8_passComposing_55 : decode cX8_passComposing 55 = .ok (.iload 6, 2) := by decide +kernel
theorem dX8_passComposing_57 : decode cX8_passComposing 57 = .ok (.iconst (-1), 1) := by decide +kernel
theorem dX8_passComposing_58 : decode cX8_passComposing 58 = .ok (.if_icmp .ne 30, 3) := by decide +kernel
theorem dX8_passComposing_61 : decode cX8_passComposing 61 = .ok (.aload_n 3, 1) := by decide +kernel
theorem dX8_passComposing_62 : decode cX8_passComposing 62 = .ok (.aload_n 2, 1) := by decide +kernel
theorem dX8_passComposing_63 : decode cX8_passComposing 63 = .ok (.iload 5, 2) := by decide +kernel
theorem dX8_passComposing_65 : decode cX8_passComposing 65 = .ok (.invokevirtual 147, 3) := by decide +kernel
theorem dX8_passComposing_68 : decode cX8_passComposing 68 = .ok (.aload_n 2, 1) := by decide +kernel
theorem dX8_passComposing_69 : decode cX8_passComposing 69 = .ok (.iload 5, 2) := by decide +kernel
theorem dX8_passComposing_71 : decode cX8_passComposing 71 = .ok (.invokevirtual 154, 3) := by decide +kernel
theorem dX8_passComposing_74 : decode cX8_passComposing 74 = .ok (.aload_n 2, 1) := by decide +kernel
theorem dX8_passComposing_75 : decode cX8_passComposing 75 = .ok (.iload 5, 2) := by decide +kernel
theorem dX8_passComposing_77 : decode cX8_passComposing 77 = .ok (.invokevirtual 151, 3) := by decide +kernel
theorem dX8_passComposing_80 : decode cX8_passComposing 80 = .ok (.invokevirtual 199, 3) := by decide +kernel
theorem dX8_passComposing_83 : decode cX8_passComposing 83 = .ok (.istore 4, 2) := by decide +kernel
theorem dX8_passComposing_85 : decode cX8_passComposing 85 = .ok (.goto 26, 3) := by decide +kernel
theorem dX8_passComposing_88 : decode cX8_passComposing 88 = .ok (.aload_n 1, 1) := by decide +kernel
theorem dX8_passComposing_89 : decode cX8_passComposing 89 = .ok (.invokevirtual 228, 3) := by decide +kernel
theorem dX8_passComposing_92 : decode cX8_passComposing 92 = .ok (.aload_n 3, 1) := by decide +kernel
theorem dX8_passComposing_93 : decode cX8_passComposing 93 = .ok (.aload_n 0, 1) := by decide +kernel
theorem dX8_passComposing_94 : decode cX8_passComposing 94 = .ok (.getfield 30, 3) := by decide +kernel
theorem dX8_passComposing_97 : decode cX8_passComposing 97 = .ok (.iload 6, 2) := by decide +kernel
theorem dX8_passComposing_99 : decode cX8_passComposing 99 = .ok (.invokevirtual 245, 3) := by decide +kernel
theorem dX8_passComposing_102 : decode cX8_passComposing 102 = .ok (.aload_n 2, 1) := by decide +kernel
theorem dX8_passComposing_103 : decode cX8_passComposing 103 = .ok (.iload 5, 2) := by decide +kernel
theorem dX8_passComposing_105 : decode cX8_passComposing 105 = .ok (.invokevirtual 151, 3) := by decide +kernel
theorem dX8_passComposing_108 : decode cX8_passComposing 108 = .ok (.invokevirtual 246, 3) := by decide +kernel
theorem dX8_passComposing_111 : decode cX8_passComposing 111 = .ok (.iinc 5 1, 3) := by decide +kernel
theorem dX8_passComposing_114 : decode cX8_passComposing 114 = .ok (.goto (-108), 3) := by decide +kernel
theorem dX8_passComposing_117 : decode cX8_passComposing 117 = .ok (.iload 4, 2) := by decide +kernel
theorem dX8_passComposing_119 : decode cX8_passComposing 119 = .ok (.ireturn, 1) := by decide +kernel
theorem dX8_passDigits_0 : decode cX8_passDigits 0 = .ok (.iconst 1, 1) := by decide +kernel
theorem dX8_passDigits_1 : decode cX8_passDigits 1 = .ok (.istore 4, 2) := by decide +kernel
theorem dX8_passDigits_3 : decode cX8_passDigits 3 = .ok (.iconst 0, 1) := by decide +kernel
theorem dX8_passDigits_4 : decode cX8_passDigits 4 = .ok (.istore 5, 2) := by decide +kernel
theorem dX8_passDigits_6 : decode cX8_passDigits 6 = .ok (.iload 5, 2) := by decide +kernel
theorem dX8_passDigits_8 : decode cX8_passDigits 8 = .ok (.aload_n 2, 1) := by decide +kernel
theorem dX8_passDigits_9 : decode cX8_passDigits 9 = .ok (.invokevirtual 85, 3) := by decide +kernel
theorem dX8_passDigits_12 : decode cX8_passDigits 12 = .ok (.if_icmp .ge 71, 3) := by decide +kernel
theorem dX8_passDigits_15 : decode cX8_passDigits 15 = .ok (.iload 4, 2) := by decide +kernel
theorem dX8_passDigits_17 : decode cX8_passDigits 17 = .ok (.ifCond .eq 66, 3) := by decide +kernel
theorem dX8_passDigits_20 : decode cX8_passDigits 20 = .ok (.aload_n 2, 1) := by decide +kernel
theorem dX8_passDigits_21 : decode cX8_passDigits 21 = .ok (.iload 5, 2) := by decide +kernel
theorem dX8_passDigits_23 : decode cX8_passDigits 23 = .ok (.invokevirtual 147, 3) := by decide +kernel
theorem dX8_passDigits_26 : decode cX8_passDigits 26 = .ok (.istore 6, 2) := by decide +kernel
theorem dX8_passDigits_28 : decode cX8_passDigits 28 = .ok (.aload_n 0, 1) := by decide +kernel
theorem dX8_passDigits_29 : decode cX8_passDigits 29 = .ok (.getfield 37, 3) := by decide +kernel
theorem dX8_passDigits_32 : decode cX8_passDigits 32 = .ok (.iload 6, 2) := by decide +kernel
theorem dX8_passDigits_34 : decode cX8_passDigits 34 = .ok (.invokevirtual 173, 3) := by decide +kernel
theorem dX8_passDigits_37 : decode cX8_passDigits 37 = .ok (.istore 7, 2) := by decide +kernel
theorem dX8_passDigits_39 : decode cX8_passDigits 39 = .ok (.iload 7, 2) := by decide +kernel
theorem dX8_passDigits_41 : decode cX8_passDigits 41 = .ok (.bipush (-9), 2) := by decide +kernel
theorem dX8_passDigits_43 : decode cX8_passDigits 43 = .ok (.if_icmp .eq 14, 3) := by decide +kernel
theorem dX8_passDigits_46 : decode cX8_passDigits 46 = .ok (.aload_n 1, 1) := by decide +kernel
theorem dX8_passDigits_47 : decode cX8_passDigits 47 = .ok (.invokevirtual 228, 3) := by decide +kernel
theorem dX8_passDigits_50 : decode cX8_passDigits 50 = .ok (.bipush 48, 2) := by decide +kernel
theorem dX8_passDigits_52 : decode cX8_passDigits 52 = .ok (.iload 7, 2) := by decide +kernel
theorem dX8_passDigits_54 : decode cX8_passDigits 54 = .ok (.iadd, 1) := by decide +kernel
theorem dX8_passDigits_55 : decode cX8_passDigits 55 = .ok (.istore 6, 2) := by decide +kernel
theorem dX8_passDigits_57 : decode cX8_passDigits 57 = .ok (.aload_n 3, 1) := by decide +kernel
theorem dX8_passDigits_58 : decode cX8_passDigits 58 = .ok (.iload 6, 2) := by decide +kernel
theorem dX8_passDigits_60 : decode cX8_passDigits 60 = .ok (.aload_n 2, 1) := by decide +kernel
theorem dX8_passDigits_61 : decode cX8_passDigits 61 = .ok (.iload 5, 2) := by decide +kernel
theorem dX8_passDigits_63 : decode cX8_passDigits 63 = .ok (.invokevirtual 154, 3) := by decide +kernel
theorem dX8_passDigits_66 : decode cX8_passDigits 66 = .ok (.aload_n 2, 1) := by decide +kernel
theorem dX8_passDigits_67 : decode cX8_passDigits 67 = .ok (.iload 5, 2) := by decide +kernel
theorem dX8_passDigits_69 : decode cX8_passDigits 69 = .ok (.invokevirtual 151, 3) := by decide +kernel
theorem dX8_passDigits_72 : decode cX8_passDigits 72 = .ok (.invokevirtual 199, 3) := by decide +kernel
theorem dX8_passDigits_75 : decode cX8_passDigits 75 = .ok (.istore 4, 2) := by decide +kernel
theorem dX8_passDigits_77 : decode cX8_passDigits 77 = .ok (.iinc 5 1, 3) := by decide +kernel
theorem dX8_passDigits_80 : decode cX8_passDigits 80 = .ok (.goto (-74), 3) := by decide +kernel
theorem dX8_passDigits_83 : decode cX8_passDigits 83 = .ok (.iload 4, 2) := by decide +kernel
theorem dX8_passDigits_85 : decode cX8_passDigits 85 = .ok (.ireturn, 1) := by decide +kernel
theorem dX8_passDropping_0 : decode cX8_passDropping 0 = .ok (.iconst 1, 1) := by decide +kernel
theorem dX8_passDropping_1 : decode cX8_passDropping 1 = .ok (.istore 4, 2) := by decide +kernel
theorem dX8_passDropping_3 : decode cX8_passDropping 3 = .ok (.iconst 0, 1) := by decide +kernel
theorem dX8_passDropping_4 : decode cX8_passDropping 4 = .ok (.istore 5, 2) := by decide +kernel
theorem dX8_passDropping_6 : decode cX8_passDropping 6 = .ok (.iload 5, 2) := by decide +kernel
theorem dX8_passDropping_8 : decode cX8_passDropping 8 = .ok (.aload_n 2, 1) := by decide +kernel
theorem dX8_passDropping_9 : decode cX8_passDropping 9 = .ok (.invokevirtual 85, 3) := by decide +kernel
theorem dX8_passDropping_12 : decode cX8_passDropping 12 = .ok (.if_icmp .ge 61, 3) := by decide +kernel
theorem dX8_passDropping_15 : decode cX8_passDropping 15 = .ok (.iload 4, 2) := by decide +kernel
theorem dX8_passDropping_17 : decode cX8_passDropping 17 = .ok (.ifCond .eq 56, 3) := by decide +kernel
theorem dX8_passDropping_20 : decode cX8_passDropping 20 = .ok (.aload_n 0, 1) := by decide +kernel
theorem dX8_passDropping_21 : decode cX8_passDropping 21 = .ok (.getfield 44, 3) := by decide +kernel
theorem dX8_passDropping_24 : decode cX8_passDropping 24 = .ok (.aload_n 2, 1) := by decide +kernel
theorem dX8_passDropping_25 : decode cX8_passDropping 25 = .ok (.iload 5, 2) := by decide +kernel
theorem dX8_passDropping_27 : decode cX8_passDropping 27 = .ok (.invokevirtual 147, 3) := by decide +kernel
theorem dX8_passDropping_30 : decode cX8_passDropping 30 = .ok (.invokevirtual 250, 3) := by decide +kernel
theorem dX8_passDropping_33 : decode cX8_passDropping 33 = .ok (.ifCond .eq 10, 3) := by decide +kernel
theorem dX8_passDropping_36 : decode cX8_passDropping 36 = .ok (.aload_n 1, 1) := by decide +kernel
theorem dX8_passDropping_37 : decode cX8_passDropping 37 = .ok (.invokevirtual 228, 3) := by decide +kernel
theorem dX8_passDropping_40 : decode cX8_passDropping 40 = .ok (.goto 27, 3) := by decide +kernel
theorem dX8_passDropping_43 : decode cX8_passDropping 43 = .ok (.aload_n 3, 1) := by decide +kernel
theorem dX8_passDropping_44 : decode cX8_passDropping 44 = .ok (.aload_n 2, 1) := by decide +kernel
theorem dX8_passDropping_45 : decode cX8_passDropping 45 = .ok (.iload 5, 2) := by decide +kernel
theorem dX8_passDropping_47 : decode cX8_passDropping 47 = .ok (.invokevirtual 147, 3) := by decide +kernel
theorem dX8_passDropping_50 : decode cX8_passDropping 50 = .ok (.aload_n 2, 1) := by decide +kernel
theorem dX8_passDropping_51 : decode cX8_passDropping 51 = .ok (.iload 5, 2) := by decide +kernel
theorem dX8_passDropping_53 : decode cX8_passDropping 53 = .ok (.invokevirtual 154, 3) := by decide +kernel
theorem dX8_passDropping_56 : decode cX8_passDropping 56 = .ok (.aload_n 2, 1) := by decide +kernel
theorem dX8_passDropping_57 : decode cX8_passDropping 57 = .ok (.iload 5, 2) := by decide +kernel
theorem dX8_passDropping_59 : decode cX8_passDropping 59 = .ok (.invokevirtual 151, 3) := by decide +kernel
theorem dX8_passDropping_62 : decode cX8_passDropping 62 = .ok (.invokevirtual 199, 3) := by decide +kernel
theorem dX8_passDropping_65 : decode cX8_passDropping 65 = .ok (.istore 4, 2) := by decide +kernel
theorem dX8_passDropping_67 : decode cX8_passDropping 67 = .ok (.iinc 5 1, 3) := by decide +kernel
theorem dX8_passDropping_70 : decode cX8_passDropping 70 = .ok (.goto (-64), 3) := by decide +kernel
theorem dX8_passDropping_73 : decode cX8_passDropping 73 = .ok (.iload 4, 2) := by decide +kernel
theorem dX8_passDropping_75 : decode cX8_passDropping 75 = .ok (.ireturn, 1) := by decide +kernel
theorem dX8_passReplacing_0 : decode cX8_passReplacing 0 = .ok (.iconst 1, 1) := by decide +kernel
theorem dX8_passReplacing_1 : decode cX8_passReplacing 1 = .ok (.istore 4, 2) := by decide +kernel
theorem dX8_passReplacing_3 : decode cX8_passReplacing 3 = .ok (.iconst 0, 1) := by decide +kernel
theorem dX8_passReplacing_4 : decode cX8_passReplacing 4 = .ok (.istore 5, 2) := by decide +kernel
theorem dX8_passReplacing_6 : decode cX8_passReplacing 6 = .ok (.iconst 0, 1) := by decide +kernel
theorem dX8_passReplacing_7 : decode cX8_passReplacing 7 = .ok (.istore 6, 2) := by decide +kernel
theorem dX8_passReplacing_9 : decode cX8_passReplacing 9 = .ok (.iload 6, 2) := by decide +kernel
theorem dX8_passReplacing_11 : decode cX8_passReplacing 11 = .ok (.aload_n 2, 1) := by decide +kernel
theorem dX8_passReplacing_12 : decode cX8_passReplacing 12 = .ok (.invokevirtual 85, 3) := by decide +kernel
theorem dX8_passReplacing_15 : decode cX8_passReplacing 15 = .ok (.if_icmp .ge 101, 3) := by decide +kernel
theorem dX8_passReplacing_18 : decode cX8_passReplacing 18 = .ok (.iload 4, 2) := by decide +kernel
theorem dX8_passReplacing_20 : decode cX8_passReplacing 20 = .ok (.ifCond .eq 96, 3) := by decide +kernel
theorem dX8_passReplacing_23 : decode cX8_passReplacing 23 = .ok (.iload 6, 2) := by decide +kernel
theorem dX8_passReplacing_25 : decode cX8_passReplacing 25 = .ok (.iload 5, 2) := by decide +kernel
theorem dX8_passReplacing_27 : decode cX8_passReplacing 27 = .ok (.if_icmp .lt 83, 3) := by decide +kernel
theorem dX8_passReplacing_30 : decode cX8_passReplacing 30 = .ok (.aload_n 0, 1) := by decide +kernel
theorem dX8_passReplacing_31 : decode cX8_passReplacing 31 = .ok (.getfield 51, 3) := by decide +kernel
theorem dX8_passReplacing_34 : decode cX8_passReplacing 34 = .ok (.aload_n 2, 1) := by decide +kernel
theorem dX8_passReplacing_35 : decode cX8_passReplacing 35 = .ok (.iload 6, 2) := by decide +kernel
theorem dX8_passReplacing_37 : decode cX8_passReplacing 37 = .ok (.invokevirtual 253, 3) := by decide +kernel
theorem dX8_passReplacing_40 : decode cX8_passReplacing 40 = .ok (.astore 7, 2) := by decide +kernel
theorem dX8_passReplacing_42 : decode cX8_passReplacing 42 = .ok (.aload 7, 2) := by decide +kernel
theorem dX8_passReplacing_44 : decode cX8_passReplacing 44 = .ok (.ifnonnull 30, 3) := by decide +kernel
theorem dX8_passReplacing_47 : decode cX8_passReplacing 47 = .ok (.aload_n 3, 1) := by decide +kernel
theorem dX8_passReplacing_48 : decode cX8_passReplacing 48 = .ok (.aload_n 2, 1) := by decide +kernel
theorem dX8_passReplacing_49 : decode cX8_passReplacing 49 = .ok (.iload 6, 2) := by decide +kernel
theorem dX8_passReplacing_51 : decode cX8_passReplacing 51 = .ok (.invokevirtual 147, 3) := by decide +kernel
theorem dX8_passReplacing_54 : decode cX8_passReplacing 54 = .ok (.aload_n 2, 1) := by decide +kernel
theorem dX8_passReplacing_55 : decode cX8_passReplacing 55 = .ok (.iload 6, 2) := by decide +kernel
theorem dX8_passReplacing_57 : decode cX8_passReplacing 57 = .ok (.invokevirtual 154, 3) := by decide +kernel
theorem dX8_passReplacing_60 : decode cX8_passReplacing 60 = .ok (.aload_n 2, 1) := by decide +kernel
theorem dX8_passReplacing_61 : decode cX8_passReplacing 61 = .ok (.iload 6, 2) := by decide +kernel
theorem dX8_passReplacing_63 : decode cX8_passReplacing 63 = .ok (.invokevirtual 151, 3) := by decide +kernel
theorem dX8_passReplacing_66 : decode cX8_passReplacing 66 = .ok (.invokevirtual 199, 3) := by decide +kernel
theorem dX8_passReplacing_69 : decode cX8_passReplacing 69 = .ok (.istore 4, 2) := by decide +kernel
theorem dX8_passReplacing_71 : decode cX8_passReplacing 71 = .ok (.goto 39, 3) := by decide +kernel
theorem dX8_passReplacing_74 : decode cX8_passReplacing 74 = .ok (.aload_n 1, 1) := by decide +kernel
theorem dX8_passReplacing_75 : decode cX8_passReplacing 75 = .ok (.invokevirtual 228, 3) := by decide +kernel
theorem dX8_passReplacing_78 : decode cX8_passReplacing 78 = .ok (.iload 6, 2) := by decide +kernel
theorem dX8_passReplacing_80 : decode cX8_passReplacing 80 = .ok (.aload 7, 2) := by decide +kernel
theorem dX8_passReplacing_82 : decode cX8_passReplacing 82 = .ok (.invokevirtual 257, 3) := by decide +kernel
theorem dX8_passReplacing_85 : decode cX8_passReplacing 85 = .ok (.iadd, 1) := by decide +kernel
theorem dX8_passReplacing_86 : decode cX8_passReplacing 86 = .ok (.istore 5, 2) := by decide +kernel
theorem dX8_passReplacing_88 : decode cX8_passReplacing 88 = .ok (.aload 7, 2) := by decide +kernel
theorem dX8_passReplacing_90 : decode cX8_passReplacing 90 = .ok (.aload_n 3, 1) := by decide +kernel
theorem dX8_passReplacing_91 : decode cX8_passReplacing 91 = .ok (.aload_n 2, 1) := by decide +kernel
theorem dX8_passReplacing_92 : decode cX8_passReplacing 92 = .ok (.iload 6, 2) := by decide +kernel
theorem dX8_passReplacing_94 : decode cX8_passReplacing 94 = .ok (.invokevirtual 154, 3) := by decide +kernel
theorem dX8_passReplacing_97 : decode cX8_passReplacing 97 = .ok (.aload_n 2, 1) := by decide +kernel
theorem dX8_passReplacing_98 : decode cX8_passReplacing 98 = .ok (.iload 5, 2) := by decide +kernel
theorem dX8_passReplacing_100 : decode cX8_passReplacing 100 = .ok (.iconst 1, 1) := by decide +kernel
theorem dX8_passReplacing_101 : decode cX8_passReplacing 101 = .ok (.isub, 1) := by decide +kernel
theorem dX8_passReplacing_102 : decode cX8_passReplacing 102 = .ok (.invokevirtual 151, 3) := by decide +kernel
theorem dX8_passReplacing_105 : decode cX8_passReplacing 105 = .ok (.invokevirtual 262, 3) := by decide +kernel
theorem dX8_passReplacing_108 : decode cX8_passReplacing 108 = .ok (.istore 4, 2) := by decide +kernel
theorem dX8_passReplacing_110 : decode cX8_passReplacing 110 = .ok (.iinc 6 1, 3) := by decide +kernel
theorem dX8_passReplacing_113 : decode cX8_passReplacing 113 = .ok (.goto (-104), 3) := by decide +kernel
theorem dX8_passReplacing_116 : decode cX8_passReplacing 116 = .ok (.iload 4, 2) := by decide +kernel
theorem dX8_passReplacing_118 : decode cX8_passReplacing 118 = .ok (.ireturn, 1) := by decide +kernel
theorem dX8_passHalves_0 : decode cX8_passHalves 0 = .ok (.iconst 1, 1) := by decide +kernel
theorem dX8_passHalves_1 : decode cX8_passHalves 1 = .ok (.istore 4, 2) := by decide +kernel
theorem dX8_passHalves_3 : decode cX8_passHalves 3 = .ok (.iconst 0, 1) := by decide +kernel
theorem dX8_passHalves_4 : decode cX8_passHalves 4 = .ok (.istore 5, 2) := by decide +kernel
theorem dX8_passHalves_6 : decode cX8_passHalves 6 = .ok (.iload 5, 2) := by decide +kernel
theorem dX8_passHalves_8 : decode cX8_passHalves 8 = .ok (.aload_n 2, 1) := by decide +kernel
theorem dX8_passHalves_9 : decode cX8_passHalves 9 = .ok (.invokevirtual 85, 3) := by decide +kernel
theorem dX8_passHalves_12 : decode cX8_passHalves 12 = .ok (.if_icmp .ge 103, 3) := by decide +kernel
theorem dX8_passHalves_15 : decode cX8_passHalves 15 = .ok (.iload 4, 2) := by decide +kernel
theorem dX8_passHalves_17 : decode cX8_passHalves 17 = .ok (.ifCond .eq 98, 3) := by decide +kernel
theorem dX8_passHalves_20 : decode cX8_passHalves 20 = .ok (.aload_n 2, 1) := by decide +kernel
theorem dX8_passHalves_21 : decode cX8_passHalves 21 = .ok (.iload 5, 2) := by decide +kernel
theorem dX8_passHalves_23 : decode cX8_passHalves 23 = .ok (.invokevirtual 147, 3) := by decide +kernel
theorem dX8_passHalves_26 : decode cX8_passHalves 26 = .ok (.istore 6, 2) := by decide +kernel
theorem dX8_passHalves_28 : decode cX8_passHalves 28 = .ok (.iconst 0, 1) := by decide +kernel
theorem dX8_passHalves_29 : decode cX8_passHalves 29 = .ok (.istore 7, 2) := by decide +kernel
theorem dX8_passHalves_31 : decode cX8_passHalves 31 = .ok (.iload 6, 2) := by decide +kernel
theorem dX8_passHalves_33 : decode cX8_passHalves 33 = .ok (.invokestatic 193, 3) := by decide +kernel
theorem dX8_passHalves_36 : decode cX8_passHalves 36 = .ok (.ifCond .ne 11, 3) := by decide +kernel
theorem dX8_passHalves_39 : decode cX8_passHalves 39 = .ok (.iload 6, 2) := by decide +kernel
theorem dX8_passHalves_41 : decode cX8_passHalves 41 = .ok (.invokestatic 196, 3) := by decide +kernel
theorem dX8_passHalves_44 : decode cX8_passHalves 44 = .ok (.ifCond .eq 40, 3) := by decide +kernel
theorem dX8_passHalves_47 : decode cX8_passHalves 47 = .ok (.aload_n 1, 1) := by decide +kernel
theorem dX8_passHalves_48 : decode cX8_passHalves 48 = .ok (.invokevirtual 228, 3) := by decide +kernel
theorem dX8_passHalves_51 : decode cX8_passHalves 51 = .ok (.aload_n 1, 1) := by decide +kernel
theorem dX8_passHalves_52 : decode cX8_passHalves 52 = .ok (.getfield 127, 3) := by decide +kernel
theorem dX8_passHalves_55 : decode cX8_passHalves 55 = .ok (.iconst 2, 1) := by decide +kernel
theorem dX8_passHalves_56 : decode cX8_passHalves 56 = .ok (.if_icmp .ne 7, 3) := by decide +kernel
theorem dX8_passHalves_59 : decode cX8_passHalves 59 = .ok (.iconst 1, 1) := by decide +kernel
theorem dX8_passHalves_60 : decode cX8_passHalves 60 = .ok (.goto 4, 3) := by decide +kernel
theorem dX8_passHalves_63 : decode cX8_passHalves 63 = .ok (.iconst 0, 1) := by decide +kernel
theorem dX8_passHalves_64 : decode cX8_passHalves 64 = .ok (.istore 7, 2) := by decide +kernel
theorem dX8_passHalves_66 : decode cX8_passHalves 66 = .ok (.aload_n 1, 1) := by decide +kernel
theorem dX8_passHalves_67 : decode cX8_passHalves 67 = .ok (.getfield 127, 3) := by decide +kernel
theorem dX8_passHalves_70 : decode cX8_passHalves 70 = .ok (.iconst 1, 1) := by decide +kernel
theorem dX8_passHalves_71 : decode cX8_passHalves 71 = .ok (.if_icmp .ne 9, 3) := by decide +kernel
theorem dX8_passHalves_74 : decode cX8_passHalves 74 = .ok (.ldc_w 266, 3) := by decide +kernel
theorem dX8_passHalves_77 : decode cX8_passHalves 77 = .ok (.goto 5, 3) := by decide +kernel
theorem dX8_passHalves_80 : decode cX8_passHalves 80 = .ok (.iload 6, 2) := by decide +kernel
theorem dX8_passHalves_82 : decode cX8_passHalves 82 = .ok (.istore 6, 2) := by decide +kernel
theorem dX8_passHalves_84 : decode cX8_passHalves 84 = .ok (.iload 7, 2) := by decide +kernel
theorem dX8_passHalves_86 : decode cX8_passHalves 86 = .ok (.ifCond .ne 23, 3) := by decide +kernel
theorem dX8_passHalves_89 : decode cX8_passHalves 89 = .ok (.aload_n 3, 1) := by decide +kernel
theorem dX8_passHalves_90 : decode cX8_passHalves 90 = .ok (.iload 6, 2) := by decide +kernel
theorem dX8_passHalves_92 : decode cX8_passHalves 92 = .ok (.aload_n 2, 1) := by decide +kernel
theorem dX8_passHalves_93 : decode cX8_passHalves 93 = .ok (.iload 5, 2) := by decide +kernel
theorem dX8_passHalves_95 : decode cX8_passHalves 95 = .ok (.invokevirtual 154, 3) := by decide +kernel
theorem dX8_passHalves_98 : decode cX8_passHalves 98 = .ok (.aload_n 2, 1) := by decide +kernel
theorem dX8_passHalves_99 : decode cX8_passHalves 99 = .ok (.iload 5, 2) := by decide +kernel
theorem dX8_passHalves_101 : decode cX8_passHalves 101 = .ok (.invokevirtual 151, 3) := by decide +kernel
theorem dX8_passHalves_104 : decode cX8_passHalves 104 = .ok (.invokevirtual 199, 3) := by decide +kernel
theorem dX8_passHalves_107 : decode cX8_passHalves 107 = .ok (.istore 4, 2) := by decide +kernel
theorem dX8_passHalves_109 : decode cX8_passHalves 109 = .ok (.iinc 5 1, 3) := by decide +kernel
theorem dX8_passHalves_112 : decode cX8_passHalves 112 = .ok (.goto (-106), 3) := by decide +kernel
theorem dX8_passHalves_115 : decode cX8_passHalves 115 = .ok (.iload 4, 2) := by decide +kernel
theorem dX8_passHalves_117 : decode cX8_passHalves 117 = .ok (.ireturn, 1) := by decide +kernel
theorem dX8_passWidths_0 : decode cX8_passWidths 0 = .ok (.iconst 1, 1) := by decide +kernel
theorem dX8_passWidths_1 : decode cX8_passWidths 1 = .ok (.istore 4, 2) := by decide +kernel
theorem dX8_passWidths_3 : decode cX8_passWidths 3 = .ok (.iconst 0, 1) := by decide +kernel
theorem dX8_passWidths_4 : decode cX8_passWidths 4 = .ok (.istore 5, 2) := by decide +kernel
theorem dX8_passWidths_6 : decode cX8_passWidths 6 = .ok (.iload 5, 2) := by decide +kernel
theorem dX8_passWidths_8 : decode cX8_passWidths 8 = .ok (.aload_n 2, 1) := by decide +kernel
theorem dX8_passWidths_9 : decode cX8_passWidths 9 = .ok (.invokevirtual 85, 3) := by decide +kernel
theorem dX8_passWidths_12 : decode cX8_passWidths 12 = .ok (.if_icmp .ge 63, 3) := by decide +kernel
theorem dX8_passWidths_15 : decode cX8_passWidths 15 = .ok (.iload 4, 2) := by decide +kernel
theorem dX8_passWidths_17 : decode cX8_passWidths 17 = .ok (.ifCond .eq 58, 3) := by decide +kernel
theorem dX8_passWidths_20 : decode cX8_passWidths 20 = .ok (.aload_n 2, 1) := by decide +kernel
theorem dX8_passWidths_21 : decode cX8_passWidths 21 = .ok (.iload 5, 2) := by decide +kernel
theorem dX8_passWidths_23 : decode cX8_passWidths 23 = .ok (.invokevirtual 147, 3) := by decide +kernel
theorem dX8_passWidths_26 : decode cX8_passWidths 26 = .ok (.istore 6, 2) := by decide +kernel
theorem dX8_passWidths_28 : decode cX8_passWidths 28 = .ok (.iload 6, 2) := by decide +kernel
theorem dX8_passWidths_30 : decode cX8_passWidths 30 = .ok (.invokestatic 267, 3) := by decide +kernel
theorem dX8_passWidths_33 : decode cX8_passWidths 33 = .ok (.istore 7, 2) := by decide +kernel
theorem dX8_passWidths_35 : decode cX8_passWidths 35 = .ok (.iload 7, 2) := by decide +kernel
theorem dX8_passWidths_37 : decode cX8_passWidths 37 = .ok (.iconst (-1), 1) := by decide +kernel
theorem dX8_passWidths_38 : decode cX8_passWidths 38 = .ok (.if_icmp .eq 11, 3) := by decide +kernel
theorem dX8_passWidths_41 : decode cX8_passWidths 41 = .ok (.aload_n 1, 1) := by decide +kernel
theorem dX8_passWidths_42 : decode cX8_passWidths 42 = .ok (.invokevirtual 228, 3) := by decide +kernel
theorem dX8_passWidths_45 : decode cX8_passWidths 45 = .ok (.iload 7, 2) := by decide +kernel
theorem dX8_passWidths_47 : decode cX8_passWidths 47 = .ok (.istore 6, 2) := by decide +kernel
theorem dX8_passWidths_49 : decode cX8_passWidths 49 = .ok (.aload_n 3, 1) := by decide +kernel
theorem dX8_passWidths_50 : decode cX8_passWidths 50 = .ok (.iload 6, 2) := by decide +kernel
theorem dX8_passWidths_52 : decode cX8_passWidths 52 = .ok (.aload_n 2, 1) := by decide +kernel
theorem dX8_passWidths_53 : decode cX8_passWidths 53 = .ok (.iload 5, 2) := by decide +kernel
theorem dX8_passWidths_55 : decode cX8_passWidths 55 = .ok (.invokevirtual 154, 3) := by decide +kernel
theorem dX8_passWidths_58 : decode cX8_passWidths 58 = .ok (.aload_n 2, 1) := by decide +kernel
theorem dX8_passWidths_59 : decode cX8_passWidths 59 = .ok (.iload 5, 2) := by decide +kernel
theorem dX8_passWidths_61 : decode cX8_passWidths 61 = .ok (.invokevirtual 151, 3) := by decide +kernel
theorem dX8_passWidths_64 : decode cX8_passWidths 64 = .ok (.invokevirtual 199, 3) := by decide +kernel
theorem dX8_passWidths_67 : decode cX8_passWidths 67 = .ok (.istore 4, 2) := by decide +kernel
theorem dX8_passWidths_69 : decode cX8_passWidths 69 = .ok (.iinc 5 1, 3) := by decide +kernel
theorem dX8_passWidths_72 : decode cX8_passWidths 72 = .ok (.goto (-66), 3) := by decide +kernel
theorem dX8_passWidths_75 : decode cX8_passWidths 75 = .ok (.iload 4, 2) := by decide +kernel
theorem dX8_passWidths_77 : decode cX8_passWidths 77 = .ok (.ireturn, 1) := by decide +kernel
end
section
theorem dX9_init_0 : decode cX9_init 0 = .ok (.aload_n 0, 1) := by decide +kernel
theorem dX9_init_1 : decode cX9_init 1 = .ok (.invokespecial 1, 3) := by decide +kernel
theorem dX9_init_4 : decode cX9_init 4 = .ok (.aload_n 0, 1) := by decide +kernel
theorem dX9_init_5 : decode cX9_init 5 = .ok (.bipush 100, 2) := by decide +kernel
theorem dX9_init_7 : decode cX9_init 7 = .ok (.newarray .int, 2) := by decide +kernel
theorem dX9_init_9 : decode cX9_init 9 = .ok (.putfield 7, 3) := by decide +kernel
theorem dX9_init_12 : decode cX9_init 12 = .ok (.aload_n 0, 1) := by decide +kernel
theorem dX9_init_13 : decode cX9_init 13 = .ok (.bipush 100, 2) := by decide +kernel
theorem dX9_init_15 : decode cX9_init 15 = .ok (.newarray .int, 2) := by decide +kernel
theorem dX9_init_17 : decode cX9_init 17 = .ok (.putfield 13, 3) := by decide +kernel
theorem dX9_init_20 : decode cX9_init 20 = .ok (.aload_n 0, 1) := by decide +kernel
theorem dX9_init_21 : decode cX9_init 21 = .ok (.bipush 100, 2) := by decide +kernel
theorem dX9_init_23 : decode cX9_init 23 = .ok (.newarray .int, 2) := by decide +kernel
theorem dX9_init_25 : decode cX9_init 25 = .ok (.putfield 16, 3) := by decide +kernel
theorem dX9_init_28 : decode cX9_init 28 = .ok (.aload_n 0, 1) := by decide +kernel
theorem dX9_init_29 : decode cX9_init 29 = .ok (.bipush 100, 2) := by decide +kernel
theorem dX9_init_31 : decode cX9_init 31 = .ok (.newarray .int, 2) := by decide +kernel
theorem dX9_init_33 : decode cX9_init 33 = .ok (.putfield 19, 3) := by decide +kernel
theorem dX9_init_36 : decode cX9_init 36 = .ok (.aload_n 0, 1) := by decide +kernel
theorem dX9_init_37 : decode cX9_init 37 = .ok (.bipush 40, 2) := by decide +kernel
theorem dX9_init_39 : decode cX9_init 39 = .ok (.newarray .int, 2) := by decide +kernel
theorem dX9_init_41 : decode cX9_init 41 = .ok (.putfield 22, 3) := by decide +kernel
theorem dX9_init_44 : decode cX9_init 44 = .ok (.aload_n 0, 1) := by decide +kernel
theorem dX9_init_45 : decode cX9_init 45 = .ok (.bipush 40, 2) := by decide +kernel
theorem dX9_init_47 : decode cX9_init 47 = .ok (.newarray .int, 2) := by decide +kernel
theorem dX9_init_49 : decode cX9_init 49 = .ok (.putfield 25, 3) := by decide +kernel
theorem dX9_init_52 : decode cX9_init 52 = .ok (.aload_n 0, 1) := by decide +kernel
theorem dX9_init_53 : decode cX9_init 53 = .ok (.bipush 120, 2) := by decide +kernel
theorem dX9_init_55 : decode cX9_init 55 = .ok (.newarray .int, 2) := by decide +kernel
theorem dX9_init_57 : decode cX9_init 57 = .ok (.putfield 28, 3) := by decide +kernel
theorem dX9_init_60 : decode cX9_init 60 = .ok (.aload_n 0, 1) := by decide +kernel
theorem dX9_init_61 : decode cX9_init 61 = .ok (.bipush 20, 2) := by decide +kernel
theorem dX9_init_63 : decode cX9_init 63 = .ok (.newarray .int, 2) := by decide +kernel
theorem dX9_init_65 : decode cX9_init 65 = .ok (.putfield 31, 3) := by decide +kernel
theorem dX9_init_68 : decode cX9_init 68 = .ok (.aload_n 0, 1) := by decide +kernel
theorem dX9_init_69 : decode cX9_init 69 = .ok (.bipush 20, 2) := by decide +kernel
theorem dX9_init_71 : decode cX9_init 71 = .ok (.newarray .int, 2) := by decide +kernel
theorem dX9_init_73 : decode cX9_init 73 = .ok (.putfield 34, 3) := by decide +kernel
theorem dX9_init_76 : decode cX9_init 76 = .ok (.aload_n 0, 1) := by decide +kernel
theorem dX9_init_77 : decode cX9_init 77 = .ok (.bipush 20, 2) := by decide +kernel
theorem dX9_init_79 : decode cX9_init 79 = .ok (.newarray .int, 2) := by decide +kernel
theorem dX9_init_81 : decode cX9_init 81 = .ok (.putfield 37, 3) := by decide +kernel
theorem dX9_init_84 : decode cX9_init 84 = .ok (.aload_n 0, 1) := by decide +kernel
theorem dX9_init_85 : decode cX9_init 85 = .ok (.bipush 10, 2) := by decide +kernel
theorem dX9_init_87 : decode cX9_init 87 = .ok (.newarray .int, 2) := by decide +kernel
theorem dX9_init_89 : decode cX9_init 89 = .ok (.putfield 40, 3) := by decide +kernel
theorem dX9_init_92 : decode cX9_init 92 = .ok (.aload_n 0, 1) := by decide +kernel
theorem dX9_init_93 : decode cX9_init 93 = .ok (.bipush 8, 2) := by decide +kernel
theorem dX9_init_95 : decode cX9_init 95 = .ok (.newarray .int, 2) := by decide +kernel
theorem dX9_init_97 : decode cX9_init 97 = .ok (.putfield 43, 3) := by decide +kernel
theorem dX9_init_100 : decode cX9_init 100 = .ok (.aload_n 0, 1) := by decide +kernel
theorem dX9_init_101 : decode cX9_init 101 = .ok (.bipush 8, 2) := by decide +kernel
theorem dX9_init_103 : decode cX9_init 103 = .ok (.newarray .int, 2) := by decide +kernel
theorem dX9_init_105 : decode cX9_init 105 = .ok (.putfield 46, 3) := by decide +kernel
theorem dX9_init_108 : decode cX9_init 108 = .ok (.aload_n 0, 1) := by decide +kernel
theorem dX9_init_109 : decode cX9_init 109 = .ok (.bipush 21, 2) := by decide +kernel
theorem dX9_init_111 : decode cX9_init 111 = .ok (.newarray .int, 2) := by decide +kernel
theorem dX9_init_113 : decode cX9_init 113 = .ok (.putfield 49, 3) := by decide +kernel
theorem dX9_init_116 : decode cX9_init 116 = .ok (.aload_n 0, 1) := by decide +kernel
theorem dX9_init_117 : decode cX9_init 117 = .ok (.bipush 21, 2) := by decide +kernel
theorem dX9_init_119 : decode cX9_init 119 = .ok (.newarray .int, 2) := by decide +kernel
theorem dX9_init_121 : decode cX9_init 121 = .ok (.putfield 52, 3) := by decide +kernel
theorem dX9_init_124 : decode cX9_init 124 = .ok (.aload_n 0, 1) := by decide +kernel
theorem dX9_init_125 : decode cX9_init 125 = .ok (.sipush 2100, 3) := by decide +kernel
theorem dX9_init_128 : decode cX9_init 128 = .ok (.newarray .int, 2) := by decide +kernel
theorem dX9_init_130 : decode cX9_init 130 = .ok (.putfield 55, 3) := by decide +kernel
theorem dX9_init_133 : decode cX9_init 133 = .ok (.aload_n 0, 1) := by decide +kernel
theorem dX9_init_134 : decode cX9_init 134 = .ok (.sipush 2100, 3) := by decide +kernel
theorem dX9_init_137 : decode cX9_init 137 = .ok (.newarray .int, 2) := by decide +kernel
theorem dX9_init_139 : decode cX9_init 139 = .ok (.putfield 58, 3) := by decide +kernel
theorem dX9_init_142 : decode cX9_init 142 = .ok (.aload_n 0, 1) := by decide +kernel
theorem dX9_init_143 : decode cX9_init 143 = .ok (.bipush 8, 2) := by decide +kernel
theorem dX9_init_145 : decode cX9_init 145 = .ok (.newarray .int, 2) := by decide +kernel
theorem dX9_init_147 : decode cX9_init 147 = .ok (.putfield 61, 3) := by decide +kernel
theorem dX9_init_150 : decode cX9_init 150 = .ok (.aload_n 0, 1) := by decide +kernel
theorem dX9_init_151 : decode cX9_init 151 = .ok (.bipush 8, 2) := by decide +kernel
theorem dX9_init_153 : decode cX9_init 153 = .ok (.newarray .int, 2) := by decide +kernel
theorem dX9_init_155 : decode cX9_init 155 = .ok (.putfield 64, 3) := by decide +kernel
theorem dX9_init_158 : decode cX9_init 158 = .ok (.aload_n 0, 1) := by decide +kernel
theorem dX9_init_159 : decode cX9_init 159 = .ok (.bipush 8, 2) := by decide +kernel
theorem dX9_init_161 : decode cX9_init 161 = .ok (.newarray .int, 2) := by decide +kernel
theorem dX9_init_163 : decode cX9_init 163 = .ok (.putfield 67, 3) := by decide +kernel
theorem dX9_init_166 : decode cX9_init 166 = .ok (.aload_n 0, 1) := by decide +kernel
theorem dX9_init_167 : decode cX9_init 167 = .ok (.bipush 8, 2) := by decide +kernel
theorem dX9_init_169 : decode cX9_init 169 = .ok (.newarray .int, 2) := by decide +kernel
theorem dX9_init_171 : decode cX9_init 171 = .ok (.putfield 70, 3) := by decide +kernel
theorem dX9_init_174 : decode cX9_init 174 = .ok (.aload_n 0, 1) := by decide +kernel
theorem dX9_init_175 : decode cX9_init 175 = .ok (.bipush 8, 2) := by decide +kernel
theorem dX9_init_177 : decode cX9_init 177 = .ok (.newarray .int, 2) := by decide +kernel
theorem dX9_init_179 : decode cX9_init 179 = .ok (.putfield 73, 3) := by decide +kernel
theorem dX9_init_182 : decode cX9_init 182 = .ok (.aload_n 0, 1) := by decide +kernel
theorem dX9_init_183 : decode cX9_init 183 = .ok (.bipush 8, 2) := by decide +kernel
theorem dX9_init_185 : decode cX9_init 185 = .ok (.newarray .int, 2) := by decide +kernel
theorem dX9_init_187 : decode cX9_init 187 = .ok (.putfield 76, 3) := by decide +kernel
theorem dX9_init_190 : decode cX9_init 190 = .ok (.aload_n 0, 1) := by decide +kernel
theorem dX9_init_191 : decode cX9_init 191 = .ok (.sipush 300, 3) := by decide +kernel
theorem dX9_init_194 : decode cX9_init 194 = .ok (.newarray .int, 2) := by decide +kernel
theorem dX9_init_196 : decode cX9_init 196 = .ok (.putfield 79, 3) := by decide +kernel
theorem dX9_init_199 : decode cX9_init 199 = .ok (.aload_n 0, 1) := by decide +kernel
theorem dX9_init_200 : decode cX9_init 200 = .ok (.sipush 300, 3) := by decide +kernel
theorem dX9_init_203 : decode cX9_init 203 = .ok (.newarray .int, 2) := by decide +kernel
theorem dX9_init_205 : decode cX9_init 205 = .ok (.putfield 82, 3) := by decide +kernel
theorem dX9_init_208 : decode cX9_init 208 = .ok (.aload_n 0, 1) := by decide +kernel
theorem dX9_init_209 : decode cX9_init 209 = .ok (.sipush 300, 3) := by decide +kernel
theorem dX9_init_212 : decode cX9_init 212 = .ok (.newarray .int, 2) := by decide +kernel
theorem dX9_init_214 : decode cX9_init 214 = .ok (.putfield 85, 3) := by decide +kernel
theorem dX9_init_217 : decode cX9_init 217 = .ok (.aload_n 0, 1) := by decide +kernel
theorem dX9_init_218 : decode cX9_init 218 = .ok (.sipush 300, 3) := by decide +kernel
theorem dX9_init_221 : decode cX9_init 221 = .ok (.newarray .int, 2) := by decide +kernel
theorem dX9_init_223 : decode cX9_init 223 = .ok (.putfield 88, 3) := by decide +kernel
theorem dX9_init_226 : decode cX9_init 226 = .ok (.aload_n 0, 1) := by decide +kernel
theorem dX9_init_227 : decode cX9_init 227 = .ok (.sipush 300, 3) := by decide +kernel
theorem dX9_init_230 : decode cX9_init 230 = .ok (.newarray .int, 2) := by decide +kernel
theorem dX9_init_232 : decode cX9_init 232 = .ok (.putfield 91, 3) := by decide +kernel
theorem dX9_init_235 : decode cX9_init 235 = .ok (.aload_n 0, 1) := by decide +kernel
theorem dX9_init_236 : decode cX9_init 236 = .ok (.sipush 300, 3) := by decide +kernel
theorem dX9_init_239 : decode cX9_init 239 = .ok (.newarray .int, 2) := by decide +kernel
theorem dX9_init_241 : decode cX9_init 241 = .ok (.putfield 94, 3) := by decide +kernel
theorem dX9_init_244 : decode cX9_init 244 = .ok (.aload_n 0, 1) := by decide +kernel
theorem dX9_init_245 : decode cX9_init 245 = .ok (.sipush 300, 3) := by decide +kernel
theorem dX9_init_248 : decode cX9_init 248 = .ok (.newarray .int, 2) := by decide +kernel
theorem dX9_init_250 : decode cX9_init 250 = .ok (.putfield 97, 3) := by decide +kernel
theorem dX9_init_253 : decode cX9_init 253 = .ok (.aload_n 0, 1) := by decide +kernel
theorem dX9_init_254 : decode cX9_init 254 = .ok (.sipush 300, 3) := by decide +kernel
theorem dX9_init_257 : decode cX9_init 257 = .ok (.newarray .int, 2) := by decide +kernel
theorem dX9_init_259 : decode cX9_init 259 = .ok (.putfield 100, 3) := by decide +kernel
theorem dX9_init_262 : decode cX9_init 262 = .ok (.aload_n 0, 1) := by decide +kernel
theorem dX9_init_263 : decode cX9_init 263 = .ok (.sipush 300, 3) := by decide +kernel
theorem dX9_init_266 : decode cX9_init 266 = .ok (.newarray .int, 2) := by decide +kernel
theorem dX9_init_268 : decode cX9_init 268 = .ok (.putfield 103, 3) := by decide +kernel
theorem dX9_init_271 : decode cX9_init 271 = .ok (.aload_n 0, 1) := by decide +kernel
theorem dX9_init_272 : decode cX9_init 272 = .ok (.iconst 0, 1) := by decide +kernel
theorem dX9_init_273 : decode cX9_init 273 = .ok (.putfield 106, 3) := by decide +kernel
theorem dX9_init_276 : decode cX9_init 276 = .ok (.return_, 1) := by decide +kernel
theorem dX9_isIn_0 : decode cX9_isIn 0 = .ok (.iload_n 0, 1) := by decide +kernel
theorem dX9_isIn_1 : decode cX9_isIn 1 = .ok (.iload_n 1, 1) := by decide +kernel
theorem dX9_isIn_2 : decode cX9_isIn 2 = .ok (.if_icmp .lt 12, 3) := by decide +kernel
theorem dX9_isIn_5 : decode cX9_isIn 5 = .ok (.iload_n 0, 1) := by decide +kernel
theorem dX9_isIn_6 : decode cX9_isIn 6 = .ok (.iload_n 2, 1) := by decide +kernel
theorem dX9_isIn_7 : decode cX9_isIn 7 = .ok (.if_icmp .gt 7, 3) := by decide +kernel
theorem dX9_isIn_10 : decode cX9_isIn 10 = .ok (.iconst 1, 1) := by decide +kernel
theorem dX9_isIn_11 : decode cX9_isIn 11 = .ok (.goto 4, 3) := by decide +kernel
theorem dX9_isIn_14 : decode cX9_isIn 14 = .ok (.iconst 0, 1) := by decide +kernel
theorem dX9_isIn_15 : decode cX9_isIn 15 = .ok (.ireturn, 1) := by decide +kernel
theorem dX9_isSign_0 : decode cX9_isSign 0 = .ok (.iload_n 0, 1) := by decide +kernel
theorem dX9_isSign_1 : decode cX9_isSign 1 = .ok (.iconst 0, 1) := by decide +kernel
theorem dX9_isSign_2 : decode cX9_isSign 2 = .ok (.ldc 110, 2) := by decide +kernel
theorem dX9_isSign_4 : decode cX9_isSign 4 = .ok (.invokestatic 111, 3) := by decide +kernel
theorem dX9_isSign_7 : decode cX9_isSign 7 = .ok (.ireturn, 1) := by decide +kernel
theorem dX9_isHigh_0 : decode cX9_isHigh 0 = .ok (.iload_n 0, 1) := by decide +kernel
theorem dX9_isHigh_1 : decode cX9_isHigh 1 = .ok (.ldc 115, 2) := by decide +kernel
theorem dX9_isHigh_3 : decode cX9_isHigh 3 = .ok (.ldc 116, 2) := by decide +kernel
theorem dX9_isHigh_5 : decode cX9_isHigh 5 = .ok (.invokestatic 111, 3) := by decide +kernel
theorem dX9_isHigh_8 : decode cX9_isHigh 8 = .ok (.ireturn, 1) := by decide +kernel
theorem dX9_isLow_0 : decode cX9_isLow 0 = .ok (.iload_n 0, 1) := by decide +kernel
theorem dX9_isLow_1 : decode cX9_isLow 1 = .ok (.ldc 117, 2) := by decide +kernel
theorem dX9_isLow_3 : decode cX9_isLow 3 = .ok (.ldc 118, 2) := by decide +kernel
theorem dX9_isLow_5 : decode cX9_isLow 5 = .ok (.invokestatic 111, 3) := by decide +kernel
theorem dX9_isLow_8 : decode cX9_isLow 8 = .ok (.ireturn, 1) := by decide +kernel
theorem dX9_unit_0 : decode cX9_unit 0 = .ok (.aload_n 0, 1) := by decide +kernel
theorem dX9_unit_1 : decode cX9_unit 1 = .ok (.getfield 106, 3) := by decide +kernel
theorem dX9_unit_4 : decode cX9_unit 4 = .ok (.bipush 100, 2) := by decide +kernel
theorem dX9_unit_6 : decode cX9_unit 6 = .ok (.if_icmp .ne 6, 3) := by decide +kernel
theorem dX9_unit_9 : decode cX9_unit 9 = .ok (.bipush (-2), 2) := by decide +kernel
theorem dX9_unit_11 : decode cX9_unit 11 = .ok (.ireturn, 1) := by decide +kernel
theorem dX9_unit_12 : decode cX9_unit 12 = .ok (.aload_n 0, 1) := by decide +kernel
theorem dX9_unit_13 : decode cX9_unit 13 = .ok (.getfield 7, 3) := by decide +kernel
theorem dX9_unit_16 : decode cX9_unit 16 = .ok (.aload_n 0, 1) := by decide +kernel
theorem dX9_unit_17 : decode cX9_unit 17 = .ok (.getfield 106, 3) := by decide +kernel
theorem dX9_unit_20 : decode cX9_unit 20 = .ok (.iload_n 1, 1) := by decide +kernel
theorem dX9_unit_21 : decode cX9_unit 21 = .ok (.ldc 119, 2) := by decide +kernel
theorem dX9_unit_23 : decode cX9_unit 23 = .ok (.iand, 1) := by decide +kernel
theorem dX9_unit_24 : decode cX9_unit 24 = .ok (.iastore, 1) := by decide +kernel
theorem dX9_unit_25 : decode cX9_unit 25 = .ok (.aload_n 0, 1) := by decide +kernel
theorem dX9_unit_26 : decode cX9_unit 26 = .ok (.dup, 1) := by decide +kernel
theorem dX9_unit_27 : decode cX9_unit 27 = .ok (.getfield 106, 3) := by decide +kernel
theorem dX9_unit_30 : decode cX9_unit 30 = .ok (.iconst 1, 1) := by decide +kernel
theorem dX9_unit_31 : decode cX9_unit 31 = .ok (.iadd, 1) := by decide +kernel
theorem dX9_unit_32 : decode cX9_unit 32 = .ok (.putfield 106, 3) := by decide +kernel
theorem dX9_unit_35 : decode cX9_unit 35 = .ok (.aload_n 0, 1) := by decide +kernel
theorem dX9_unit_36 : decode cX9_unit 36 = .ok (.getfield 106, 3) := by decide +kernel
theorem dX9_unit_39 : decode cX9_unit 39 = .ok (.ireturn, 1) := by decide +kernel
theorem dX9_mark_0 : decode cX9_mark 0 = .ok (.aload_n 0, 1) := by decide +kernel
theorem dX9_mark_1 : decode cX9_mark 1 = .ok (.aload_n 0, 1) := by decide +kernel
theorem dX9_mark_2 : decode cX9_mark 2 = .ok (.getfield 106, 3) := by decide +kernel
theorem dX9_mark_5 : decode cX9_mark 5 = .ok (.putfield 120, 3) := by decide +kernel
theorem dX9_mark_8 : decode cX9_mark 8 = .ok (.aload_n 0, 1) := by decide +kernel
theorem dX9_mark_9 : decode cX9_mark 9 = .ok (.getfield 120, 3) := by decide +kernel
theorem dX9_mark_12 : decode cX9_mark 12 = .ok (.ireturn, 1) := by decide +kernel
theorem dX9_isTwo_0 : decode cX9_isTwo 0 = .ok (.iload_n 1, 1) := by decide +kernel
theorem dX9_isTwo_1 : decode cX9_isTwo 1 = .ok (.iconst 1, 1) := by decide +kernel
theorem dX9_isTwo_2 : decode cX9_isTwo 2 = .ok (.iadd, 1) := by decide +kernel
theorem dX9_isTwo_3 : decode cX9_isTwo 3 = .ok (.iload_n 2, 1) := by decide +kernel
theorem dX9_isTwo_4 : decode cX9_isTwo 4 = .ok (.if_icmp .ge 33, 3) := by decide +kernel
theorem dX9_isTwo_7 : decode cX9_isTwo 7 = .ok (.aload_n 0, 1) := by decide +kernel
theorem dX9_isTwo_8 : decode cX9_isTwo 8 = .ok (.getfield 7, 3) := by decide +kernel
theorem dX9_isTwo_11 : decode cX9_isTwo 11 = .ok (.iload_n 1, 1) := by decide +kernel
theorem dX9_isTwo_12 : decode cX9_isTwo 12 = .ok (.iaload, 1) := by decide +kernel
theorem dX9_isTwo_13 : decode cX9_isTwo 13 = .ok (.invokestatic 123, 3) := by decide +kernel
theorem dX9_isTwo_16 : decode cX9_isTwo 16 = .ok (.ifCond .eq 21, 3) := by decide +kernel
theorem dX9_isTwo_19 : decode cX9_isTwo 19 = .ok (.aload_n 0, 1) := by decide +kernel
theorem dX9_isTwo_20 : decode cX9_isTwo 20 = .ok (.getfield 7, 3) := by decide +kernel
theorem dX9_isTwo_23 : decode cX9_isTwo 23 = .ok (.iload_n 1, 1) := by decide +kernel
theorem dX9_isTwo_24 : decode cX9_isTwo 24 = .ok (.iconst 1, 1) := by decide +kernel
theorem dX9_isTwo_25 : decode cX9_isTwo 25 = .ok (.iadd, 1) := by decide +kernel
theorem dX9_isTwo_26 : decode cX9_isTwo 26 = .ok (.iaload, 1) := by decide +kernel
theorem dX9_isTwo_27 : decode cX9_isTwo 27 = .ok (.invokestatic 127, 3) := by decide +kernel
theorem dX9_isTwo_30 : decode cX9_isTwo 30 = .ok (.ifCond .eq 7, 3) := by decide +kernel
theorem dX9_isTwo_33 : decode cX9_isTwo 33 = .ok (.iconst 1, 1) := by decide +kernel
theorem dX9_isTwo_34 : decode cX9_isTwo 34 = .ok (.goto 4, 3) := by decide +kernel
theorem dX9_isTwo_37 : decode cX9_isTwo 37 = .ok (.iconst 0, 1) := by decide +kernel
theorem dX9_isTwo_38 : decode cX9_isTwo 38 = .ok (.ireturn, 1) := by decide +kernel
theorem dX9_signAt_0 : decode cX9_signAt 0 = .ok (.aload_n 0, 1) := by decide +kernel
theorem dX9_signAt_1 : decode cX9_signAt 1 = .ok (.iload_n 1, 1) := by decide +kernel
theorem dX9_signAt_2 : decode cX9_signAt 2 = .ok (.iload_n 2, 1) := by decide +kernel
theorem dX9_signAt_3 : decode cX9_signAt 3 = .ok (.invokevirtual 130, 3) := by decide +kernel
theorem dX9_signAt_6 : decode cX9_signAt 6 = .ok (.ifCond .eq 34, 3) := by decide +kernel
theorem dX9_signAt_9 : decode cX9_signAt 9 = .ok (.ldc 134, 2) := by decide +kernel
theorem dX9_signAt_11 : decode cX9_signAt 11 = .ok (.sipush 1024, 3) := by decide +kernel
theorem dX9_signAt_14 : decode cX9_signAt 14 = .ok (.aload_n 0, 1) := by decide +kernel
theorem dX9_signAt_15 : decode cX9_signAt 15 = .ok (.getfield 7, 3) := by decide +kernel
theorem dX9_signAt_18 : decode cX9_signAt 18 = .ok (.iload_n 1, 1) := by decide +kernel
theorem dX9_signAt_19 : decode cX9_signAt 19 = .ok (.iaload, 1) := by decide +kernel
theorem dX9_signAt_20 : decode cX9_signAt 20 = .ok (.ldc 115, 2) := by decide +kernel
theorem dX9_signAt_22 : decode cX9_signAt 22 = .ok (.isub, 1) := by decide +kernel
theorem dX9_signAt_23 : decode cX9_signAt 23 = .ok (.imul, 1) := by decide +kernel
theorem dX9_signAt_24 : decode cX9_signAt 24 = .ok (.iadd, 1) := by decide +kernel
theorem dX9_signAt_25 : decode cX9_signAt 25 = .ok (.aload_n 0, 1) := by decide +kernel
theorem dX9_signAt_26 : decode cX9_signAt 26 = .ok (.getfield 7, 3) := by decide +kernel
theorem dX9_signAt_29 : decode cX9_signAt 29 = .ok (.iload_n 1, 1) := by decide +kernel
theorem dX9_signAt_30 : decode cX9_signAt 30 = .ok (.iconst 1, 1) := by decide +kernel
theorem dX9_signAt_31 : decode cX9_signAt 31 = .ok (.iadd, 1) := by decide +kernel
theorem dX9_signAt_32 : decode cX9_signAt 32 = .ok (.iaload, 1) := by decide +kernel
theorem dX9_signAt_33 : decode cX9_signAt 33 = .ok (.iadd, 1) := by decide +kernel
theorem dX9_signAt_34 : decode cX9_signAt 34 = .ok (.ldc 117, 2) := by decide +kernel
theorem dX9_signAt_36 : decode cX9_signAt 36 = .ok (.isub, 1) := by decide +kernel
theorem dX9_signAt_37 : decode cX9_signAt 37 = .ok (.goto 9, 3) := by decide +kernel
theorem dX9_signAt_40 : decode cX9_signAt 40 = .ok (.aload_n 0, 1) := by decide +kernel
theorem dX9_signAt_41 : decode cX9_signAt 41 = .ok (.getfield 7, 3) := by decide +kernel
theorem dX9_signAt_44 : decode cX9_signAt 44 = .ok (.iload_n 1, 1) := by decide +kernel
theorem dX9_signAt_45 : decode cX9_signAt 45 = .ok (.iaload, 1) := by decide +kernel
theorem dX9_signAt_46 : decode cX9_signAt 46 = .ok (.ireturn, 1) := by decide +kernel
theorem dX9_emptyDraft_0 : decode cX9_emptyDraft 0 = .ok (.aload_n 0, 1) := by decide +kernel
theorem dX9_emptyDraft_1 : decode cX9_emptyDraft 1 = .ok (.iconst 0, 1) := by decide +kernel
theorem dX9_emptyDraft_2 : decode cX9_emptyDraft 2 = .ok (.putfield 106, 3) := by decide +kernel
theorem dX9_emptyDraft_5 : decode cX9_emptyDraft 5 = .ok (.aload_n 0, 1) := by decide +kernel
theorem dX9_emptyDraft_6 : decode cX9_emptyDraft 6 = .ok (.iconst 0, 1) := by decide +kernel
theorem dX9_emptyDraft_7 : decode cX9_emptyDraft 7 = .ok (.putfield 120, 3) := by decide +kernel
theorem dX9_emptyDraft_10 : decode cX9_emptyDraft 10 = .ok (.return_, 1) := by decide +kernel
theorem dX9_text_0 : decode cX9_text 0 = .ok (.aload_n 0, 1) := by decide +kernel
theorem dX9_text_1 : decode cX9_text 1 = .ok (.iconst 0, 1) := by decide +kernel
theorem dX9_text_2 : decode cX9_text 2 = .ok (.putfield 135, 3) := by decide +kernel
theorem dX9_text_5 : decode cX9_text 5 = .ok (.iconst 0, 1) := by decide +kernel
theorem dX9_text_6 : decode cX9_text 6 = .ok (.istore_n 1, 1) := by decide +kernel
theorem dX9_text_7 : decode cX9_text 7 = .ok (.iload_n 1, 1) := by decide +kernel
theorem dX9_text_8 : decode cX9_text 8 = .ok (.aload_n 0, 1) := by decide +kernel
theorem dX9_text_9 : decode cX9_text 9 = .ok (.getfield 106, 3) := by decide +kernel
theorem dX9_text_12 : decode cX9_text 12 = .ok (.if_icmp .ge 74, 3) := by decide +kernel
theorem dX9_text_15 : decode cX9_text 15 = .ok (.aload_n 0, 1) := by decide +kernel
theorem dX9_text_16 : decode cX9_text 16 = .ok (.getfield 13, 3) := by decide +kernel
theorem dX9_text_19 : decode cX9_text 19 = .ok (.aload_n 0, 1) := by decide +kernel
theorem dX9_text_20 : decode cX9_text 20 = .ok (.getfield 135, 3) := by decide +kernel
theorem dX9_text_23 : decode cX9_text 23 = .ok (.aload_n 0, 1) := by decide +kernel
theorem dX9_text_24 : decode cX9_text 24 = .ok (.iload_n 1, 1) := by decide +kernel
theorem dX9_text_25 : decode cX9_text 25 = .ok (.aload_n 0, 1) := by decide +kernel
theorem dX9_text_26 : decode cX9_text 26 = .ok (.getfield 106, 3) := by decide +kernel
theorem dX9_text_29 : decode cX9_text 29 = .ok (.invokevirtual 138, 3) := by decide +kernel
theorem dX9_text_32 : decode cX9_text 32 = .ok (.iastore, 1) := by decide +kernel
theorem dX9_text_33 : decode cX9_text 33 = .ok (.aload_n 0, 1) := by decide +kernel
theorem dX9_text_34 : decode cX9_text 34 = .ok (.getfield 16, 3) := by decide +kernel
theorem dX9_text_37 : decode cX9_text 37 = .ok (.aload_n 0, 1) := by decide +kernel
theorem dX9_text_38 : decode cX9_text 38 = .ok (.getfield 135, 3) := by decide +kernel
theorem dX9_text_41 : decode cX9_text 41 = .ok (.iload_n 1, 1) := by decide +kernel
theorem dX9_text_42 : decode cX9_text 42 = .ok (.iastore, 1) := by decide +kernel
theorem dX9_text_43 : decode cX9_text 43 = .ok (.iload_n 1, 1) := by decide +kernel
theorem dX9_text_44 : decode cX9_text 44 = .ok (.aload_n 0, 1) := by decide +kernel
theorem dX9_text_45 : decode cX9_text 45 = .ok (.iload_n 1, 1) := by decide +kernel
theorem dX9_text_46 : decode cX9_text 46 = .ok (.aload_n 0, 1) := by decide +kernel
theorem dX9_text_47 : decode cX9_text 47 = .ok (.getfield 106, 3) := by decide +kernel
theorem dX9_text_50 : decode cX9_text 50 = .ok (.invokevirtual 130, 3) := by decide +kernel
theorem dX9_text_53 : decode cX9_text 53 = .ok (.ifCond .eq 7, 3) := by decide +kernel
theorem dX9_text_56 : decode cX9_text 56 = .ok (.iconst 2, 1) := by decide +kernel
theorem dX9_text_57 : decode cX9_text 57 = .ok (.goto 4, 3) := by decide +kernel
theorem dX9_text_60 : decode cX9_text 60 = .ok (.iconst 1, 1) := by decide +kernel
theorem dX9_text_61 : decode cX9_text 61 = .ok (.iadd, 1) := by decide +kernel
theorem dX9_text_62 : decode cX9_text 62 = .ok (.istore_n 1, 1) := by decide +kernel
theorem dX9_text_63 : decode cX9_text 63 = .ok (.aload_n 0, 1) := by decide +kernel
theorem dX9_text_64 : decode cX9_text 64 = .ok (.getfield 19, 3) := by decide +kernel
theorem dX9_text_67 : decode cX9_text 67 = .ok (.aload_n 0, 1) := by decide +kernel
theorem dX9_text_68 : decode cX9_text 68 = .ok (.getfield 135, 3) := by decide +kernel
theorem dX9_text_71 : decode cX9_text 71 = .ok (.iload_n 1, 1) := by decide +kernel
theorem dX9_text_72 : decode cX9_text 72 = .ok (.iastore, 1) := by decide +kernel
theorem dX9_text_73 : decode cX9_text 73 = .ok (.aload_n 0, 1) := by decide +kernel
theorem dX9_text_74 : decode cX9_text 74 = .ok (.dup, 1) := by decide +kernel
theorem dX9_text_75 : decode cX9_text 75 = .ok (.getfield 135, 3) := by decide +kernel
theorem dX9_text_78 : decode cX9_text 78 = .ok (.iconst 1, 1) := by decide +kernel
theorem dX9_text_79 : decode cX9_text 79 = .ok (.iadd, 1) := by decide +kernel
theorem dX9_text_80 : decode cX9_text 80 = .ok (.putfield 135, 3) := by decide +kernel
theorem dX9_text_83 : decode cX9_text 83 = .ok (.goto (-76), 3) := by decide +kernel
theorem dX9_text_86 : decode cX9_text 86 = .ok (.aload_n 0, 1) := by decide +kernel
theorem dX9_text_87 : decode cX9_text 87 = .ok (.invokevirtual 142, 3) := by decide +kernel
theorem dX9_text_90 : decode cX9_text 90 = .ok (.aload_n 0, 1) := by decide +kernel
theorem dX9_text_91 : decode cX9_text 91 = .ok (.getfield 135, 3) := by decide +kernel
theorem dX9_text_94 : decode cX9_text 94 = .ok (.ireturn, 1) := by decide +kernel
theorem dX9_signsOf_0 : decode cX9_signsOf 0 = .ok (.iconst 0, 1) := by decide +kernel
theorem dX9_signsOf_1 : decode cX9_signsOf 1 = .ok (.istore 5, 2) := by decide +kernel
theorem dX9_signsOf_3 : decode cX9_signsOf 3 = .ok (.iload_n 1, 1) := by decide +kernel
theorem dX9_signsOf_4 : decode cX9_signsOf 4 = .ok (.istore 6, 2) := by decide +kernel
theorem dX9_signsOf_6 : decode cX9_signsOf 6 = .ok (.iload 6, 2) := by decide +kernel
theorem dX9_signsOf_8 : decode cX9_signsOf 8 = .ok (.iload_n 2, 1) := by decide +kernel
theorem dX9_signsOf_9 : decode cX9_signsOf 9 = .ok (.if_icmp .ge 43, 3) := by decide +kernel
theorem dX9_signsOf_12 : decode cX9_signsOf 12 = .ok (.aload_n 3, 1) := by decide +kernel
theorem dX9_signsOf_13 : decode cX9_signsOf 13 = .ok (.iload 4, 2) := by decide +kernel
theorem dX9_signsOf_15 : decode cX9_signsOf 15 = .ok (.iload 5, 2) := by decide +kernel
theorem dX9_signsOf_17 : decode cX9_signsOf 17 = .ok (.iadd, 1) := by decide +kernel
theorem dX9_signsOf_18 : decode cX9_signsOf 18 = .ok (.aload_n 0, 1) := by decide +kernel
theorem dX9_signsOf_19 : decode cX9_signsOf 19 = .ok (.iload 6, 2) := by decide +kernel
theorem dX9_signsOf_21 : decode cX9_signsOf 21 = .ok (.iload_n 2, 1) := by decide +kernel
theorem dX9_signsOf_22 : decode cX9_signsOf 22 = .ok (.invokevirtual 138, 3) := by decide +kernel
theorem dX9_signsOf_25 : decode cX9_signsOf 25 = .ok (.iastore, 1) := by decide +kernel
theorem dX9_signsOf_26 : decode cX9_signsOf 26 = .ok (.iload 6, 2) := by decide +kernel
theorem dX9_signsOf_28 : decode cX9_signsOf 28 = .ok (.aload_n 0, 1) := by decide +kernel
theorem dX9_signsOf_29 : decode cX9_signsOf 29 = .ok (.iload 6, 2) := by decide +kernel
theorem dX9_signsOf_31 : decode cX9_signsOf 31 = .ok (.iload_n 2, 1) := by decide +kernel
theorem dX9_signsOf_32 : decode cX9_signsOf 32 = .ok (.invokevirtual 130, 3) := by decide +kernel
theorem dX9_signsOf_35 : decode cX9_signsOf 35 = .ok (.ifCond .eq 7, 3) := by decide +kernel
theorem dX9_signsOf_38 : decode cX9_signsOf 38 = .ok (.iconst 2, 1) := by decide +kernel
theorem dX9_signsOf_39 : decode cX9_signsOf 39 = .ok (.goto 4, 3) := by decide +kernel
theorem dX9_signsOf_42 : decode cX9_signsOf 42 = .ok (.iconst 1, 1) := by decide +kernel
theorem dX9_signsOf_43 : decode cX9_signsOf 43 = .ok (.iadd, 1) := by decide +kernel
theorem dX9_signsOf_44 : decode cX9_signsOf 44 = .ok (.istore 6, 2) := by decide +kernel
theorem dX9_signsOf_46 : decode cX9_signsOf 46 = .ok (.iinc 5 1, 3) := by decide +kernel
theorem dX9_signsOf_49 : decode cX9_signsOf 49 = .ok (.goto (-43), 3) := by decide +kernel
theorem dX9_signsOf_52 : decode cX9_signsOf 52 = .ok (.iload 5, 2) := by decide +kernel
theorem dX9_signsOf_54 : decode cX9_signsOf 54 = .ok (.ireturn, 1) := by decide +kernel
theorem dX9_isSameRow_0 : decode cX9_isSameRow 0 = .ok (.aload_n 0, 1) := by decide +kernel
theorem dX9_isSameRow_1 : decode cX9_isSameRow 1 = .ok (.getfield 49, 3) := by decide +kernel
theorem dX9_isSameRow_4 : decode cX9_isSameRow 4 = .ok (.iload_n 1, 1) := by decide +kernel
theorem dX9_isSameRow_5 : decode cX9_isSameRow 5 = .ok (.iaload, 1) := by decide +kernel
theorem dX9_isSameRow_6 : decode cX9_isSameRow 6 = .ok (.aload_n 0, 1) := by decide +kernel
theorem dX9_isSameRow_7 : decode cX9_isSameRow 7 = .ok (.getfield 49, 3) := by decide +kernel
theorem dX9_isSameRow_10 : decode cX9_isSameRow 10 = .ok (.iload_n 2, 1) := by decide +kernel
theorem dX9_isSameRow_11 : decode cX9_isSameRow 11 = .ok (.iaload, 1) := by decide +kernel
theorem dX9_isSameRow_12 : decode cX9_isSameRow 12 = .ok (.if_icmp .ne 7, 3) := by decide +kernel
theorem dX9_isSameRow_15 : decode cX9_isSameRow 15 = .ok (.iconst 1, 1) := by decide +kernel
theorem dX9_isSameRow_16 : decode cX9_isSameRow 16 = .ok (.goto 4, 3) := by decide +kernel
theorem dX9_isSameRow_19 : decode cX9_isSameRow 19 = .ok (.iconst 0, 1) := by decide +kernel
theorem dX9_isSameRow_20 : decode cX9_isSameRow 20 = .ok (.istore_n 3, 1) := by decide +kernel
theorem dX9_isSameRow_21 : decode cX9_isSameRow 21 = .ok (.iconst 0, 1) := by decide +kernel
theorem dX9_isSameRow_22 : decode cX9_isSameRow 22 = .ok (.istore 4, 2) := by decide +kernel
theorem dX9_isSameRow_24 : decode cX9_isSameRow 24 = .ok (.iload 4, 2) := by decide +kernel
theorem dX9_isSameRow_26 : decode cX9_isSameRow 26 = .ok (.aload_n 0, 1) := by decide +kernel
theorem dX9_isSameRow_27 : decode cX9_isSameRow 27 = .ok (.getfield 49, 3) := by decide +kernel
theorem dX9_isSameRow_30 : decode cX9_isSameRow 30 = .ok (.iload_n 1, 1) := by decide +kernel
theorem dX9_isSameRow_31 : decode cX9_isSameRow 31 = .ok (.iaload, 1) := by decide +kernel
theorem dX9_isSameRow_32 : decode cX9_isSameRow 32 = .ok (.if_icmp .ge 46, 3) := by decide +kernel
theorem dX9_isSameRow_35 : decode cX9_isSameRow 35 = .ok (.iload_n 3, 1) := by decide +kernel
theorem dX9_isSameRow_36 : decode cX9_isSameRow 36 = .ok (.ifCond .eq 42, 3) := by decide +kernel
theorem dX9_isSameRow_39 : decode cX9_isSameRow 39 = .ok (.aload_n 0, 1) := by decide +kernel
theorem dX9_isSameRow_40 : decode cX9_isSameRow 40 = .ok (.getfield 55, 3) := by decide +kernel
theorem dX9_isSameRow_43 : decode cX9_isSameRow 43 = .ok (.bipush 100, 2) := by decide +kernel
theorem dX9_isSameRow_45 : decode cX9_isSameRow 45 = .ok (.iload_n 1, 1) := by decide +kernel
theorem dX9_isSameRow_46 : decode cX9_isSameRow 46 = .ok (.imul, 1) := by decide +kernel
theorem dX9_isSameRow_47 : decode cX9_isSameRow 47 = .ok (.iload 4, 2) := by decide +kernel
theorem dX9_isSameRow_49 : decode cX9_isSameRow 49 = .ok (.iadd, 1) := by decide +kernel
theorem dX9_isSameRow_50 : decode cX9_isSameRow 50 = .ok (.iaload, 1) := by decide +kernel
theorem dX9_isSameRow_51 : decode cX9_isSameRow 51 = .ok (.aload_n 0, 1) := by decide +kernel
theorem dX9_isSameRow_52 : decode cX9_isSameRow 52 = .ok (.getfield 55, 3) := by decide +kernel
theorem dX9_isSameRow_55 : decode cX9_isSameRow 55 = .ok (.bipush 100, 2) := by decide +kernel
theorem dX9_isSameRow_57 : decode cX9_isSameRow 57 = .ok (.iload_n 2, 1) := by decide +kernel
theorem dX9_isSameRow_58 : decode cX9_isSameRow 58 = .ok (.imul, 1) := by decide +kernel
theorem dX9_isSameRow_59 : decode cX9_isSameRow 59 = .ok (.iload 4, 2) := by decide +kernel
theorem dX9_isSameRow_61 : decode cX9_isSameRow 61 = .ok (.iadd, 1) := by decide +kernel
theorem dX9_isSameRow_62 : decode cX9_isSameRow 62 = .ok (.iaload, 1) := by decide +kernel
theorem dX9_isSameRow_63 : decode cX9_isSameRow 63 = .ok (.if_icmp .ne 7, 3) := by decide +kernel
theorem dX9_isSameRow_66 : decode cX9_isSameRow 66 = .ok (.iconst 1, 1) := by decide +kernel
theorem dX9_isSameRow_67 : decode cX9_isSameRow 67 = .ok (.goto 4, 3) := by decide +kernel
theorem dX9_isSameRow_70 : decode cX9_isSameRow 70 = .ok (.iconst 0, 1) := by decide +kernel
theorem dX9_isSameRow_71 : decode cX9_isSameRow 71 = .ok (.istore_n 3, 1) := by decide +kernel
theorem dX9_isSameRow_72 : decode cX9_isSameRow 72 = .ok (.iinc 4 1, 3) := by decide +kernel
theorem dX9_isSameRow_75 : decode cX9_isSameRow 75 = .ok (.goto (-51), 3) := by decide +kernel
theorem dX9_isSameRow_78 : decode cX9_isSameRow 78 = .ok (.iload_n 3, 1) := by decide +kernel
theorem dX9_isSameRow_79 : decode cX9_isSameRow 79 = .ok (.ireturn, 1) := by decide +kernel
theorem dX9_string_0 : decode cX9_string 0 = .ok (.aload_n 0, 1) := by decide +kernel
theorem dX9_string_1 : decode cX9_string 1 = .ok (.getfield 120, 3) := by decide +kernel
theorem dX9_string_4 : decode cX9_string 4 = .ok (.ifCond .ne 5, 3) := by decide +kernel
theorem dX9_string_7 : decode cX9_string 7 = .ok (.iconst (-1), 1) := by decide +kernel
theorem dX9_string_8 : decode cX9_string 8 = .ok (.ireturn, 1) := by decide +kernel
theorem dX9_string_9 : decode cX9_string 9 = .ok (.bipush 20, 2) := by decide +kernel
theorem dX9_string_11 : decode cX9_string 11 = .ok (.istore_n 1, 1) := by decide +kernel
theorem dX9_string_12 : decode cX9_string 12 = .ok (.aload_n 0, 1) := by decide +kernel
theorem dX9_string_13 : decode cX9_string 13 = .ok (.getfield 49, 3) := by decide +kernel
theorem dX9_string_16 : decode cX9_string 16 = .ok (.iload_n 1, 1) := by decide +kernel
theorem dX9_string_17 : decode cX9_string 17 = .ok (.aload_n 0, 1) := by decide +kernel
theorem dX9_string_18 : decode cX9_string 18 = .ok (.iconst 0, 1) := by decide +kernel
theorem dX9_string_19 : decode cX9_string 19 = .ok (.aload_n 0, 1) := by decide +kernel
theorem dX9_string_20 : decode cX9_string 20 = .ok (.getfield 120, 3) := by decide +kernel
theorem dX9_string_23 : decode cX9_string 23 = .ok (.aload_n 0, 1) := by decide +kernel
theorem dX9_string_24 : decode cX9_string 24 = .ok (.getfield 55, 3) := by decide +kernel
theorem dX9_string_27 : decode cX9_string 27 = .ok (.bipush 100, 2) := by decide +kernel
theorem dX9_string_29 : decode cX9_string 29 = .ok (.iload_n 1, 1) := by decide +kernel
theorem dX9_string_30 : decode cX9_string 30 = .ok (.imul, 1) := by decide +kernel
theorem dX9_string_31 : decode cX9_string 31 = .ok (.invokevirtual 145, 3) := by decide +kernel
theorem dX9_string_34 : decode cX9_string 34 = .ok (.iastore, 1) := by decide +kernel
theorem dX9_string_35 : decode cX9_string 35 = .ok (.iconst 0, 1) := by decide +kernel
theorem dX9_string_36 : decode cX9_string 36 = .ok (.istore_n 2, 1) := by decide +kernel
theorem dX9_string_37 : decode cX9_string 37 = .ok (.iload_n 2, 1) := by decide +kernel
theorem dX9_string_38 : decode cX9_string 38 = .ok (.aload_n 0, 1) := by decide +kernel
theorem dX9_string_39 : decode cX9_string 39 = .ok (.getfield 149, 3) := by decide +kernel
theorem dX9_string_42 : decode cX9_string 42 = .ok (.if_icmp .ge 18, 3) := by decide +kernel
theorem dX9_string_45 : decode cX9_string 45 = .ok (.aload_n 0, 1) := by decide +kernel
theorem dX9_string_46 : decode cX9_string 46 = .ok (.iload_n 2, 1) := by decide +kernel
theorem dX9_string_47 : decode cX9_string 47 = .ok (.iload_n 1, 1) := by decide +kernel
theorem dX9_string_48 : decode cX9_string 48 = .ok (.invokevirtual 152, 3) := by decide +kernel
theorem dX9_string_51 : decode cX9_string 51 = .ok (.ifCond .ne 9, 3) := by decide +kernel
theorem dX9_string_54 : decode cX9_string 54 = .ok (.iinc 2 1, 3) := by decide +kernel
theorem dX9_string_57 : decode cX9_string 57 = .ok (.goto (-20), 3) := by decide +kernel
theorem dX9_string_60 : decode cX9_string 60 = .ok (.iload_n 2, 1) := by decide +kernel
theorem dX9_string_61 : decode cX9_string 61 = .ok (.bipush 20, 2) := by decide +kernel
theorem dX9_string_63 : decode cX9_string 63 = .ok (.if_icmp .ne 6, 3) := by decide +kernel
theorem dX9_string_66 : decode cX9_string 66 = .ok (.bipush (-2), 2) := by decide +kernel
theorem dX9_string_68 : decode cX9_string 68 = .ok (.ireturn, 1) := by decide +kernel
theorem dX9_string_69 : decode cX9_string 69 = .ok (.aload_n 0, 1) := by decide +kernel
theorem dX9_string_70 : decode cX9_string 70 = .ok (.getfield 49, 3) := by decide +kernel
theorem dX9_string_73 : decode cX9_string 73 = .ok (.iload_n 2, 1) := by decide +kernel
theorem dX9_string_74 : decode cX9_string 74 = .ok (.aload_n 0, 1) := by decide +kernel
theorem dX9_string_75 : decode cX9_string 75 = .ok (.iconst 0, 1) := by decide +kernel
theorem dX9_string_76 : decode cX9_string 76 = .ok (.aload_n 0, 1) := by decide +kernel
theorem dX9_string_77 : decode cX9_string 77 = .ok (.getfield 120, 3) := by decide +kernel
theorem dX9_string_80 : decode cX9_string 80 = .ok (.aload_n 0, 1) := by decide +kernel
theorem dX9_string_81 : decode cX9_string 81 = .ok (.getfield 55, 3) := by decide +kernel
theorem dX9_string_84 : decode cX9_string 84 = .ok (.bipush 100, 2) := by decide +kernel
theorem dX9_string_86 : decode cX9_string 86 = .ok (.iload_n 2, 1) := by decide +kernel
theorem dX9_string_87 : decode cX9_string 87 = .ok (.imul, 1) := by decide +kernel
theorem dX9_string_88 : decode cX9_string 88 = .ok (.invokevirtual 145, 3) := by decide +kernel
theorem dX9_string_91 : decode cX9_string 91 = .ok (.iastore, 1) := by decide +kernel
theorem dX9_string_92 : decode cX9_string 92 = .ok (.aload_n 0, 1) := by decide +kernel
theorem dX9_string_93 : decode cX9_string 93 = .ok (.getfield 52, 3) := by decide +kernel
theorem dX9_string_96 : decode cX9_string 96 = .ok (.iload_n 2, 1) := by decide +kernel
theorem dX9_string_97 : decode cX9_string 97 = .ok (.aload_n 0, 1) := by decide +kernel
theorem dX9_string_98 : decode cX9_string 98 = .ok (.aload_n 0, 1) := by decide +kernel
theorem dX9_string_99 : decode cX9_string 99 = .ok (.getfield 120, 3) := by decide +kernel
theorem dX9_string_102 : decode cX9_string 102 = .ok (.aload_n 0, 1) := by decide +kernel
theorem dX9_string_103 : decode cX9_string 103 = .ok (.getfield 106, 3) := by decide +kernel
theorem dX9_string_106 : decode cX9_string 106 = .ok (.aload_n 0, 1) := by decide +kernel
theorem dX9_string_107 : decode cX9_string 107 = .ok (.getfield 58, 3) := by decide +kernel
theorem dX9_string_110 : decode cX9_string 110 = .ok (.bipush 100, 2) := by decide +kernel
theorem dX9_string_112 : decode cX9_string 112 = .ok (.iload_n 2, 1) := by decide +kernel
theorem dX9_string_113 : decode cX9_string 113 = .ok (.imul, 1) := by decide +kernel
theorem dX9_string_114 : decode cX9_string 114 = .ok (.invokevirtual 145, 3) := by decide +kernel
theorem dX9_string_117 : decode cX9_string 117 = .ok (.iastore, 1) := by decide +kernel
theorem dX9_string_118 : decode cX9_string 118 = .ok (.aload_n 0, 1) := by decide +kernel
theorem dX9_string_119 : decode cX9_string 119 = .ok (.dup, 1) := by decide +kernel
theorem dX9_string_120 : decode cX9_string 120 = .ok (.getfield 149, 3) := by decide +kernel
theorem dX9_string_123 : decode cX9_string 123 = .ok (.iload_n 2, 1) := by decide +kernel
theorem dX9_string_124 : decode cX9_string 124 = .ok (.aload_n 0, 1) := by decide +kernel
theorem dX9_string_125 : decode cX9_string 125 = .ok (.getfield 149, 3) := by decide +kernel
theorem dX9_string_128 : decode cX9_string 128 = .ok (.if_icmp .ne 7, 3) := by decide +kernel
theorem dX9_string_131 : decode cX9_string 131 = .ok (.iconst 1, 1) := by decide +kernel
theorem dX9_string_132 : decode cX9_string 132 = .ok (.goto 4, 3) := by decide +kernel
theorem dX9_string_135 : decode cX9_string 135 = .ok (.iconst 0, 1) := by decide +kernel
theorem dX9_string_136 : decode cX9_string 136 = .ok (.iadd, 1) := by decide +kernel
theorem dX9_string_137 : decode cX9_string 137 = .ok (.putfield 149, 3) := by decide +kernel
theorem dX9_string_140 : decode cX9_string 140 = .ok (.aload_n 0, 1) := by decide +kernel
theorem dX9_string_141 : decode cX9_string 141 = .ok (.invokevirtual 142, 3) := by decide +kernel
theorem dX9_string_144 : decode cX9_string 144 = .ok (.aload_n 0, 1) := by decide +kernel
theorem dX9_string_145 : decode cX9_string 145 = .ok (.getfield 149, 3) := by decide +kernel
theorem dX9_string_148 : decode cX9_string 148 = .ok (.ireturn, 1) := by decide +kernel
theorem dX9_foldAt_0 : decode cX9_foldAt 0 = .ok (.iconst (-1), 1) := by decide +kernel
theorem dX9_foldAt_1 : decode cX9_foldAt 1 = .ok (.istore_n 2, 1) := by decide +kernel
theorem dX9_foldAt_2 : decode cX9_foldAt 2 = .ok (.iconst 0, 1) := by decide +kernel
theorem dX9_foldAt_3 : decode cX9_foldAt 3 = .ok (.istore_n 3, 1) := by decide +kernel
theorem dX9_foldAt_4 : decode cX9_foldAt 4 = .ok (.iload_n 3, 1) := by decide +kernel
theorem dX9_foldAt_5 : decode cX9_foldAt 5 = .ok (.aload_n 0, 1) := by decide +kernel
theorem dX9_foldAt_6 : decode cX9_foldAt 6 = .ok (.getfield 155, 3) := by decide +kernel
theorem dX9_foldAt_9 : decode cX9_foldAt 9 = .ok (.if_icmp .ge 25, 3) := by decide +kernel
theorem dX9_foldAt_12 : decode cX9_foldAt 12 = .ok (.aload_n 0, 1) := by decide +kernel
theorem dX9_foldAt_13 : decode cX9_foldAt 13 = .ok (.getfield 22, 3) := by decide +kernel
theorem dX9_foldAt_16 : decode cX9_foldAt 16 = .ok (.iload_n 3, 1) := by decide +kernel
theorem dX9_foldAt_17 : decode cX9_foldAt 17 = .ok (.iaload, 1) := by decide +kernel
theorem dX9_foldAt_18 : decode cX9_foldAt 18 = .ok (.iload_n 1, 1) := by decide +kernel
theorem dX9_foldAt_19 : decode cX9_foldAt 19 = .ok (.if_icmp .ne 7, 3) := by decide +kernel
theorem dX9_foldAt_22 : decode cX9_foldAt 22 = .ok (.iload_n 3, 1) := by decide +kernel
theorem dX9_foldAt_23 : decode cX9_foldAt 23 = .ok (.goto 4, 3) := by decide +kernel
theorem dX9_foldAt_26 : decode cX9_foldAt 26 = .ok (.iload_n 2, 1) := by decide +kernel
theorem dX9_foldAt_27 : decode cX9_foldAt 27 = .ok (.istore_n 2, 1) := by decide +kernel
theorem dX9_foldAt_28 : decode cX9_foldAt 28 = .ok (.iinc 3 1, 3) := by decide +kernel
theorem dX9_foldAt_31 : decode cX9_foldAt 31 = .ok (.goto (-27), 3) := by decide +kernel
theorem dX9_foldAt_34 : decode cX9_foldAt 34 = .ok (.iload_n 2, 1) := by decide +kernel
theorem dX9_foldAt_35 : decode cX9_foldAt 35 = .ok (.ireturn, 1) := by decide +kernel
theorem dX9_isSignOrNone_0 : decode cX9_isSignOrNone 0 = .ok (.iload_n 0, 1) := by decide +kernel
theorem dX9_isSignOrNone_1 : decode cX9_isSignOrNone 1 = .ok (.iconst (-1), 1) := by decide +kernel
theorem dX9_isSignOrNone_2 : decode cX9_isSignOrNone 2 = .ok (.if_icmp .eq 10, 3) := by decide +kernel
theorem dX9_isSignOrNone_5 : decode cX9_isSignOrNone 5 = .ok (.iload_n 0, 1) := by decide +kernel
theorem dX9_isSignOrNone_6 : decode cX9_isSignOrNone 6 = .ok (.invokestatic 158, 3) := by decide +kernel
theorem dX9_isSignOrNone_9 : decode cX9_isSignOrNone 9 = .ok (.ifCond .eq 7, 3) := by decide +kernel
theorem dX9_isSignOrNone_12 : decode cX9_isSignOrNone 12 = .ok (.iconst 1, 1) := by decide +kernel
theorem dX9_isSignOrNone_13 : decode cX9_isSignOrNone 13 = .ok (.goto 4, 3) := by decide +kernel
theorem dX9_isSignOrNone_16 : decode cX9_isSignOrNone 16 = .ok (.iconst 0, 1) := by decide +kernel
theorem dX9_isSignOrNone_17 : decode cX9_isSignOrNone 17 = .ok (.ireturn, 1) := by decide +kernel
theorem dX9_fold_0 : decode cX9_fold 0 = .ok (.iload_n 1, 1) := by decide +kernel
theorem dX9_fold_1 : decode cX9_fold 1 = .ok (.invokestatic 158, 3) := by decide +kernel
theorem dX9_fold_4 : decode cX9_fold 4 = .ok (.ifCond .eq 46, 3) := by decide +kernel
theorem dX9_fold_7 : decode cX9_fold 7 = .ok (.iload_n 2, 1) := by decide +kernel
theorem dX9_fold_8 : decode cX9_fold 8 = .ok (.invokestatic 161, 3) := by decide +kernel
theorem dX9_fold_11 : decode cX9_fold 11 = .ok (.ifCond .eq 39, 3) := by decide +kernel
theorem dX9_fold_14 : decode cX9_fold 14 = .ok (.iload_n 3, 1) := by decide +kernel
theorem dX9_fold_15 : decode cX9_fold 15 = .ok (.invokestatic 161, 3) := by decide +kernel
theorem dX9_fold_18 : decode cX9_fold 18 = .ok (.ifCond .eq 32, 3) := by decide +kernel
theorem dX9_fold_21 : decode cX9_fold 21 = .ok (.iload 4, 2) := by decide +kernel
theorem dX9_fold_23 : decode cX9_fold 23 = .ok (.invokestatic 161, 3) := by decide +kernel
theorem dX9_fold_26 : decode cX9_fold 26 = .ok (.ifCond .eq 24, 3) := by decide +kernel
theorem dX9_fold_29 : decode cX9_fold 29 = .ok (.iload_n 2, 1) := by decide +kernel
theorem dX9_fold_30 : decode cX9_fold 30 = .ok (.iconst (-1), 1) := by decide +kernel
theorem dX9_fold_31 : decode cX9_fold 31 = .ok (.if_icmp .ne 8, 3) := by decide +kernel
theorem dX9_fold_34 : decode cX9_fold 34 = .ok (.iload_n 3, 1) := by decide +kernel
theorem dX9_fold_35 : decode cX9_fold 35 = .ok (.iconst (-1), 1) := by decide +kernel
theorem dX9_fold_36 : decode cX9_fold 36 = .ok (.if_icmp .ne 14, 3) := by decide +kernel
theorem dX9_fold_39 : decode cX9_fold 39 = .ok (.iload_n 3, 1) := by decide +kernel
theorem dX9_fold_40 : decode cX9_fold 40 = .ok (.iconst (-1), 1) := by decide +kernel
theorem dX9_fold_41 : decode cX9_fold 41 = .ok (.if_icmp .ne 11, 3) := by decide +kernel
theorem dX9_fold_44 : decode cX9_fold 44 = .ok (.iload 4, 2) := by decide +kernel
theorem dX9_fold_46 : decode cX9_fold 46 = .ok (.iconst (-1), 1) := by decide +kernel
theorem dX9_fold_47 : decode cX9_fold 47 = .ok (.if_icmp .eq 5, 3) := by decide +kernel
theorem dX9_fold_50 : decode cX9_fold 50 = .ok (.iconst (-1), 1) := by decide +kernel
theorem dX9_fold_51 : decode cX9_fold 51 = .ok (.ireturn, 1) := by decide +kernel
theorem dX9_fold_52 : decode cX9_fold 52 = .ok (.aload_n 0, 1) := by decide +kernel
theorem dX9_fold_53 : decode cX9_fold 53 = .ok (.iload_n 1, 1) := by decide +kernel
theorem dX9_fold_54 : decode cX9_fold 54 = .ok (.invokevirtual 164, 3) := by decide +kernel
theorem dX9_fold_57 : decode cX9_fold 57 = .ok (.istore 5, 2) := by decide +kernel
theorem dX9_fold_59 : decode cX9_fold 59 = .ok (.iload 5, 2) := by decide +kernel
theorem dX9_fold_61 : decode cX9_fold 61 = .ok (.ifCond .ge 15, 3) := by decide +kernel
theorem dX9_fold_64 : decode cX9_fold 64 = .ok (.aload_n 0, 1) := by decide +kernel
theorem dX9_fold_65 : decode cX9_fold 65 = .ok (.getfield 155, 3) := by decide +kernel
theorem dX9_fold_68 : decode cX9_fold 68 = .ok (.bipush 40, 2) := by decide +kernel
theorem dX9_fold_70 : decode cX9_fold 70 = .ok (.if_icmp .ne 6, 3) := by decide +kernel
theorem dX9_fold_73 : decode cX9_fold 73 = .ok (.bipush (-2), 2) := by decide +kernel
theorem dX9_fold_75 : decode cX9_fold 75 = .ok (.ireturn, 1) := by decide +kernel
theorem dX9_fold_76 : decode cX9_fold 76 = .ok (.iload 5, 2) := by decide +kernel
theorem dX9_fold_78 : decode cX9_fold 78 = .ok (.ifCond .ge 19, 3) := by decide +kernel
theorem dX9_fold_81 : decode cX9_fold 81 = .ok (.aload_n 0, 1) := by decide +kernel
theorem dX9_fold_82 : decode cX9_fold 82 = .ok (.getfield 155, 3) := by decide +kernel
theorem dX9_fold_85 : decode cX9_fold 85 = .ok (.istore 5, 2) := by decide +kernel
theorem dX9_fold_87 : decode cX9_fold 87 = .ok (.aload_n 0, 1) := by decide +kernel
theorem dX9_fold_88 : decode cX9_fold 88 = .ok (.dup, 1) := by decide +kernel
theorem dX9_fold_89 : decode cX9_fold 89 = .ok (.getfield 155, 3) := by decide +kernel
theorem dX9_fold_92 : decode cX9_fold 92 = .ok (.iconst 1, 1) := by decide +kernel
theorem dX9_fold_93 : decode cX9_fold 93 = .ok (.iadd, 1) := by decide +kernel
theorem dX9_fold_94 : decode cX9_fold 94 = .ok (.putfield 155, 3) := by decide +kernel
theorem dX9_fold_97 : decode cX9_fold 97 = .ok (.aload_n 0, 1) := by decide +kernel
theorem dX9_fold_98 : decode cX9_fold 98 = .ok (.getfield 22, 3) := by decide +kernel
theorem dX9_fold_101 : decode cX9_fold 101 = .ok (.iload 5, 2) := by decide +kernel
theorem dX9_fold_103 : decode cX9_fold 103 = .ok (.iload_n 1, 1) := by decide +kernel
theorem dX9_fold_104 : decode cX9_fold 104 = .ok (.iastore, 1) := by decide +kernel
theorem dX9_fold_105 : decode cX9_fold 105 = .ok (.aload_n 0, 1) := by decide +kernel
theorem dX9_fold_106 : decode cX9_fold 106 = .ok (.getfield 25, 3) := by decide +kernel
theorem dX9_fold_109 : decode cX9_fold 109 = .ok (.iload 5, 2) := by decide +kernel
theorem dX9_fold_111 : decode cX9_fold 111 = .ok (.iload_n 2, 1) := by decide +kernel
theorem dX9_fold_112 : decode cX9_fold 112 = .ok (.ifCond .ge 7, 3) := by decide +kernel
theorem dX9_fold_115 : decode cX9_fold 115 = .ok (.iconst 0, 1) := by decide +kernel
theorem dX9_fold_116 : decode cX9_fold 116 = .ok (.goto 4, 3) := by decide +kernel
theorem dX9_fold_119 : decode cX9_fold 119 = .ok (.iconst 1, 1) := by decide +kernel
theorem dX9_fold_120 : decode cX9_fold 120 = .ok (.iload_n 3, 1) := by decide +kernel
theorem dX9_fold_121 : decode cX9_fold 121 = .ok (.ifCond .ge 7, 3) := by decide +kernel
theorem dX9_fold_124 : decode cX9_fold 124 = .ok (.iconst 0, 1) := by decide +kernel
theorem dX9_fold_125 : decode cX9_fold 125 = .ok (.goto 4, 3) := by decide +kernel
theorem dX9_fold_128 : decode cX9_fold 128 = .ok (.iconst 1, 1) := by decide +kernel
theorem dX9_fold_129 : decode cX9_fold 129 = .ok (.iadd, 1) := by decide +kernel
theorem dX9_fold_130 : decode cX9_fold 130 = .ok (.iload 4, 2) := by decide +kernel
theorem dX9_fold_132 : decode cX9_fold 132 = .ok (.ifCond .ge 7, 3) := by decide +kernel
theorem dX9_fold_135 : decode cX9_fold 135 = .ok (.iconst 0, 1) := by decide +kernel
theorem dX9_fold_136 : decode cX9_fold 136 = .ok (.goto 4, 3) := by decide +kernel
theorem dX9_fold_139 : decode cX9_fold 139 = .ok (.iconst 1, 1) := by decide +kernel
theorem dX9_fold_140 : decode cX9_fold 140 = .ok (.iadd, 1) := by decide +kernel
theorem dX9_fold_141 : decode cX9_fold 141 = .ok (.iastore, 1) := by decide +kernel
theorem dX9_fold_142 : decode cX9_fold 142 = .ok (.aload_n 0, 1) := by decide +kernel
theorem dX9_fold_143 : decode cX9_fold 143 = .ok (.getfield 28, 3) := by decide +kernel
theorem dX9_fold_146 : decode cX9_fold 146 = .ok (.iconst 3, 1) := by decide +kernel
theorem dX9_fold_147 : decode cX9_fold 147 = .ok (.iload 5, 2) := by decide +kernel
theorem dX9_fold_149 : decode cX9_fold 149 = .ok (.imul, 1) := by decide +kernel
theorem dX9_fold_150 : decode cX9_fold 150 = .ok (.iload_n 2, 1) := by decide +kernel
theorem dX9_fold_151 : decode cX9_fold 151 = .ok (.iastore, 1) := by decide +kernel
theorem dX9_fold_152 : decode cX9_fold 152 = .ok (.aload_n 0, 1) := by decide +kernel
theorem dX9_fold_153 : decode cX9_fold 153 = .ok (.getfield 28, 3) := by decide +kernel
theorem dX9_fold_156 : decode cX9_fold 156 = .ok (.iconst 3, 1) := by decide +kernel
theorem dX9_fold_157 : decode cX9_fold 157 = .ok (.iload 5, 2) := by decide +kernel
theorem dX9_fold_159 : decode cX9_fold 159 = .ok (.imul, 1) := by decide +kernel
theorem dX9_fold_160 : decode cX9_fold 160 = .ok (.iconst 1, 1) := by decide +kernel
theorem dX9_fold_161 : decode cX9_fold 161 = .ok (.iadd, 1) := by decide +kernel
theorem dX9_fold_162 : decode cX9_fold 162 = .ok (.iload_n 3, 1) := by decide +kernel
theorem dX9_fold_163 : decode cX9_fold 163 = .ok (.iastore, 1) := by decide +kernel
theorem dX9_fold_164 : decode cX9_fold 164 = .ok (.aload_n 0, 1) := by decide +kernel
theorem dX9_fold_165 : decode cX9_fold 165 = .ok (.getfield 28, 3) := by decide +kernel
theorem dX9_fold_168 : decode cX9_fold 168 = .ok (.iconst 3, 1) := by decide +kernel
theorem dX9_fold_169 : decode cX9_fold 169 = .ok (.iload 5, 2) := by decide +kernel
theorem dX9_fold_171 : decode cX9_fold 171 = .ok (.imul, 1) := by decide +kernel
theorem dX9_fold_172 : decode cX9_fold 172 = .ok (.iconst 2, 1) := by decide +kernel
theorem dX9_fold_173 : decode cX9_fold 173 = .ok (.iadd, 1) := by decide +kernel
theorem dX9_fold_174 : decode cX9_fold 174 = .ok (.iload 4, 2) := by decide +kernel
theorem dX9_fold_176 : decode cX9_fold 176 = .ok (.iastore, 1) := by decide +kernel
theorem dX9_fold_177 : decode cX9_fold 177 = .ok (.aload_n 0, 1) := by decide +kernel
theorem dX9_fold_178 : decode cX9_fold 178 = .ok (.getfield 155, 3) := by decide +kernel
theorem dX9_fold_181 : decode cX9_fold 181 = .ok (.ireturn, 1) := by decide +kernel
theorem dX9_pairAt_0 : decode cX9_pairAt 0 = .ok (.iconst (-1), 1) := by decide +kernel
theorem dX9_pairAt_1 : decode cX9_pairAt 1 = .ok (.istore_n 3, 1) := by decide +kernel
theorem dX9_pairAt_2 : decode cX9_pairAt 2 = .ok (.iconst 0, 1) := by decide +kernel
theorem dX9_pairAt_3 : decode cX9_pairAt 3 = .ok (.istore 4, 2) := by decide +kernel
theorem dX9_pairAt_5 : decode cX9_pairAt 5 = .ok (.iload 4, 2) := by decide +kernel
theorem dX9_pairAt_7 : decode cX9_pairAt 7 = .ok (.aload_n 0, 1) := by decide +kernel
theorem dX9_pairAt_8 : decode cX9_pairAt 8 = .ok (.getfield 168, 3) := by decide +kernel
theorem dX9_pairAt_11 : decode cX9_pairAt 11 = .ok (.if_icmp .ge 38, 3) := by decide +kernel
theorem dX9_pairAt_14 : decode cX9_pairAt 14 = .ok (.aload_n 0, 1) := by decide +kernel
theorem dX9_pairAt_15 : decode cX9_pairAt 15 = .ok (.getfield 31, 3) := by decide +kernel
theorem dX9_pairAt_18 : decode cX9_pairAt 18 = .ok (.iload 4, 2) := by decide +kernel
theorem dX9_pairAt_20 : decode cX9_pairAt 20 = .ok (.iaload, 1) := by decide +kernel
theorem dX9_pairAt_21 : decode cX9_pairAt 21 = .ok (.iload_n 1, 1) := by decide +kernel
theorem dX9_pairAt_22 : decode cX9_pairAt 22 = .ok (.if_icmp .ne 19, 3) := by decide +kernel
theorem dX9_pairAt_25 : decode cX9_pairAt 25 = .ok (.aload_n 0, 1) := by decide +kernel
theorem dX9_pairAt_26 : decode cX9_pairAt 26 = .ok (.getfield 34, 3) := by decide +kernel
theorem dX9_pairAt_29 : decode cX9_pairAt 29 = .ok (.iload 4, 2) := by decide +kernel
theorem dX9_pairAt_31 : decode cX9_pairAt 31 = .ok (.iaload, 1) := by decide +kernel
theorem dX9_pairAt_32 : decode cX9_pairAt 32 = .ok (.iload_n 2, 1) := by decide +kernel
theorem dX9_pairAt_33 : decode cX9_pairAt 33 = .ok (.if_icmp .ne 8, 3) := by decide +kernel
theorem dX9_pairAt_36 : decode cX9_pairAt 36 = .ok (.iload 4, 2) := by decide +kernel
theorem dX9_pairAt_38 : decode cX9_pairAt 38 = .ok (.goto 4, 3) := by decide +kernel
theorem dX9_pairAt_41 : decode cX9_pairAt 41 = .ok (.iload_n 3, 1) := by decide +kernel
theorem dX9_pairAt_42 : decode cX9_pairAt 42 = .ok (.istore_n 3, 1) := by decide +kernel
theorem dX9_pairAt_43 : decode cX9_pairAt 43 = .ok (.iinc 4 1, 3) := by decide +kernel
theorem dX9_pairAt_46 : decode cX9_pairAt 46 = .ok (.goto (-41), 3) := by decide +kernel
theorem dX9_pairAt_49 : decode cX9_pairAt 49 = .ok (.iload_n 3, 1) := by decide +kernel
theorem dX9_pairAt_50 : decode cX9_pairAt 50 = .ok (.ireturn, 1) := by decide +kernel
theorem dX9_pair_0 : decode cX9_pair 0 = .ok (.iload_n 1, 1) := by decide +kernel
theorem dX9_pair_1 : decode cX9_pair 1 = .ok (.invokestatic 158, 3) := by decide +kernel
theorem dX9_pair_4 : decode cX9_pair 4 = .ok (.ifCond .eq 17, 3) := by decide +kernel
theorem dX9_pair_7 : decode cX9_pair 7 = .ok (.iload_n 2, 1) := by decide +kernel
theorem dX9_pair_8 : decode cX9_pair 8 = .ok (.invokestatic 158, 3) := by decide +kernel
theorem dX9_pair_11 : decode cX9_pair 11 = .ok (.ifCond .eq 10, 3) := by decide +kernel
theorem dX9_pair_14 : decode cX9_pair 14 = .ok (.iload_n 3, 1) := by decide +kernel
theorem dX9_pair_15 : decode cX9_pair 15 = .ok (.invokestatic 158, 3) := by decide +kernel
theorem dX9_pair_18 : decode cX9_pair 18 = .ok (.ifCond .ne 5, 3) := by decide +kernel
theorem dX9_pair_21 : decode cX9_pair 21 = .ok (.iconst (-1), 1) := by decide +kernel
theorem dX9_pair_22 : decode cX9_pair 22 = .ok (.ireturn, 1) := by decide +kernel
theorem dX9_pair_23 : decode cX9_pair 23 = .ok (.aload_n 0, 1) := by decide +kernel
theorem dX9_pair_24 : decode cX9_pair 24 = .ok (.iload_n 1, 1) := by decide +kernel
theorem dX9_pair_25 : decode cX9_pair 25 = .ok (.iload_n 2, 1) := by decide +kernel
theorem dX9_pair_26 : decode cX9_pair 26 = .ok (.invokevirtual 171, 3) := by decide +kernel
theorem dX9_pair_29 : decode cX9_pair 29 = .ok (.istore 4, 2) := by decide +kernel
theorem dX9_pair_31 : decode cX9_pair 31 = .ok (.iload 4, 2) := by decide +kernel
theorem dX9_pair_33 : decode cX9_pair 33 = .ok (.ifCond .ge 15, 3) := by decide +kernel
theorem dX9_pair_36 : decode cX9_pair 36 = .ok (.aload_n 0, 1) := by decide +kernel
theorem dX9_pair_37 : decode cX9_pair 37 = .ok (.getfield 168, 3) := by decide +kernel
theorem dX9_pair_40 : decode cX9_pair 40 = .ok (.bipush 20, 2) := by decide +kernel
theorem dX9_pair_42 : decode cX9_pair 42 = .ok (.if_icmp .ne 6, 3) := by decide +kernel
theorem dX9_pair_45 : decode cX9_pair 45 = .ok (.bipush (-2), 2) := by decide +kernel
theorem dX9_pair_47 : decode cX9_pair 47 = .ok (.ireturn, 1) := by decide +kernel
theorem dX9_pair_48 : decode cX9_pair 48 = .ok (.iload 4, 2) := by decide +kernel
theorem dX9_pair_50 : decode cX9_pair 50 = .ok (.ifCond .ge 19, 3) := by decide +kernel
theorem dX9_pair_53 : decode cX9_pair 53 = .ok (.aload_n 0, 1) := by decide +kernel
theorem dX9_pair_54 : decode cX9_pair 54 = .ok (.getfield 168, 3) := by decide +kernel
theorem dX9_pair_57 : decode cX9_pair 57 = .ok (.istore 4, 2) := by decide +kernel
theorem dX9_pair_59 : decode cX9_pair 59 = .ok (.aload_n 0, 1) := by decide +kernel
theorem dX9_pair_60 : decode cX9_pair 60 = .ok (.dup, 1) := by decide +kernel
theorem dX9_pair_61 : decode cX9_pair 61 = .ok (.getfield 168, 3) := by decide +kernel
theorem dX9_pair_64 : decode cX9_pair 64 = .ok (.iconst 1, 1) := by decide +kernel
theorem dX9_pair_65 : decode cX9_pair 65 = .ok (.iadd, 1) := by decide +kernel
theorem dX9_pair_66 : decode cX9_pair 66 = .ok (.putfield 168, 3) := by decide +kernel
theorem dX9_pair_69 : decode cX9_pair 69 = .ok (.aload_n 0, 1) := by decide +kernel
theorem dX9_pair_70 : decode cX9_pair 70 = .ok (.getfield 31, 3) := by decide +kernel
theorem dX9_pair_73 : decode cX9_pair 73 = .ok (.iload 4, 2) := by decide +kernel
theorem dX9_pair_75 : decode cX9_pair 75 = .ok (.iload_n 1, 1) := by decide +kernel
theorem dX9_pair_76 : decode cX9_pair 76 = .ok (.iastore, 1) := by decide +kernel
theorem dX9_pair_77 : decode cX9_pair 77 = .ok (.aload_n 0, 1) := by decide +kernel
theorem dX9_pair_78 : decode cX9_pair 78 = .ok (.getfield 34, 3) := by decide +kernel
theorem dX9_pair_81 : decode cX9_pair 81 = .ok (.iload 4, 2) := by decide +kernel
theorem dX9_pair_83 : decode cX9_pair 83 = .ok (.iload_n 2, 1) := by decide +kernel
theorem dX9_pair_84 : decode cX9_pair 84 = .ok (.iastore, 1) := by decide +kernel
theorem dX9_pair_85 : decode cX9_pair 85 = .ok (.aload_n 0, 1) := by decide +kernel
theorem dX9_pair_86 : decode cX9_pair 86 = .ok (.getfield 37, 3) := by decide +kernel
theorem dX9_pair_89 : decode cX9_pair 89 = .ok (.iload 4, 2) := by decide +kernel
theorem dX9_pair_91 : decode cX9_pair 91 = .ok (.iload_n 3, 1) := by decide +kernel
theorem dX9_pair_92 : decode cX9_pair 92 = .ok (.iastore, 1) := by decide +kernel
theorem dX9_pair_93 : decode cX9_pair 93 = .ok (.aload_n 0, 1) := by decide +kernel
theorem dX9_pair_94 : decode cX9_pair 94 = .ok (.getfield 168, 3) := by decide +kernel
theorem dX9_pair_97 : decode cX9_pair 97 = .ok (.ireturn, 1) := by decide +kernel
theorem dX9_zero_0 : decode cX9_zero 0 = .ok (.iload_n 1, 1) := by decide +kernel
theorem dX9_zero_1 : decode cX9_zero 1 = .ok (.iconst 0, 1) := by decide +kernel
theorem dX9_zero_2 : decode cX9_zero 2 = .ok (.ldc 174, 2) := by decide +kernel
theorem dX9_zero_4 : decode cX9_zero 4 = .ok (.invokestatic 111, 3) := by decide +kernel
theorem dX9_zero_7 : decode cX9_zero 7 = .ok (.ifCond .ne 5, 3) := by decide +kernel
theorem dX9_zero_10 : decode cX9_zero 10 = .ok (.iconst (-1), 1) := by decide +kernel
theorem dX9_zero_11 : decode cX9_zero 11 = .ok (.ireturn, 1) := by decide +kernel
theorem dX9_zero_12 : decode cX9_zero 12 = .ok (.aload_n 0, 1) := by decide +kernel
theorem dX9_zero_13 : decode cX9_zero 13 = .ok (.getfield 175, 3) := by decide +kernel
theorem dX9_zero_16 : decode cX9_zero 16 = .ok (.bipush 10, 2) := by decide +kernel
theorem dX9_zero_18 : decode cX9_zero 18 = .ok (.if_icmp .ne 6, 3) := by decide +kernel
theorem dX9_zero_21 : decode cX9_zero 21 = .ok (.bipush (-2), 2) := by decide +kernel
theorem dX9_zero_23 : decode cX9_zero 23 = .ok (.ireturn, 1) := by decide +kernel
theorem dX9_zero_24 : decode cX9_zero 24 = .ok (.aload_n 0, 1) := by decide +kernel
theorem dX9_zero_25 : decode cX9_zero 25 = .ok (.getfield 40, 3) := by decide +kernel
theorem dX9_zero_28 : decode cX9_zero 28 = .ok (.aload_n 0, 1) := by decide +kernel
theorem dX9_zero_29 : decode cX9_zero 29 = .ok (.getfield 175, 3) := by decide +kernel
theorem dX9_zero_32 : decode cX9_zero 32 = .ok (.iload_n 1, 1) := by decide +kernel
theorem dX9_zero_33 : decode cX9_zero 33 = .ok (.iastore, 1) := by decide +kernel
theorem dX9_zero_34 : decode cX9_zero 34 = .ok (.aload_n 0, 1) := by decide +kernel
theorem dX9_zero_35 : decode cX9_zero 35 = .ok (.dup, 1) := by decide +kernel
theorem dX9_zero_36 : decode cX9_zero 36 = .ok (.getfield 175, 3) := by decide +kernel
theorem dX9_zero_39 : decode cX9_zero 39 = .ok (.iconst 1, 1) := by decide +kernel
theorem dX9_zero_40 : decode cX9_zero 40 = .ok (.iadd, 1) := by decide +kernel
theorem dX9_zero_41 : decode cX9_zero 41 = .ok (.putfield 175, 3) := by decide +kernel
theorem dX9_zero_44 : decode cX9_zero 44 = .ok (.aload_n 0, 1) := by decide +kernel
theorem dX9_zero_45 : decode cX9_zero 45 = .ok (.getfield 175, 3) := by decide +kernel
theorem dX9_zero_48 : decode cX9_zero 48 = .ok (.ireturn, 1) := by decide +kernel
theorem dX9_range_0 : decode cX9_range 0 = .ok (.iload_n 1, 1) := by decide +kernel
theorem dX9_range_1 : decode cX9_range 1 = .ok (.invokestatic 158, 3) := by decide +kernel
theorem dX9_range_4 : decode cX9_range 4 = .ok (.ifCond .eq 15, 3) := by decide +kernel
theorem dX9_range_7 : decode cX9_range 7 = .ok (.iload_n 2, 1) := by decide +kernel
theorem dX9_range_8 : decode cX9_range 8 = .ok (.invokestatic 158, 3) := by decide +kernel
theorem dX9_range_11 : decode cX9_range 11 = .ok (.ifCond .eq 8, 3) := by decide +kernel
theorem dX9_range_14 : decode cX9_range 14 = .ok (.iload_n 2, 1) := by decide +kernel
theorem dX9_range_15 : decode cX9_range 15 = .ok (.iload_n 1, 1) := by decide +kernel
theorem dX9_range_16 : decode cX9_range 16 = .ok (.if_icmp .ge 5, 3) := by decide +kernel
theorem dX9_range_19 : decode cX9_range 19 = .ok (.iconst (-1), 1) := by decide +kernel
theorem dX9_range_20 : decode cX9_range 20 = .ok (.ireturn, 1) := by decide +kernel
theorem dX9_range_21 : decode cX9_range 21 = .ok (.aload_n 0, 1) := by decide +kernel
theorem dX9_range_22 : decode cX9_range 22 = .ok (.getfield 178, 3) := by decide +kernel
theorem dX9_range_25 : decode cX9_range 25 = .ok (.bipush 8, 2) := by decide +kernel
theorem dX9_range_27 : decode cX9_range 27 = .ok (.if_icmp .ne 6, 3) := by decide +kernel
theorem dX9_range_30 : decode cX9_range 30 = .ok (.bipush (-2), 2) := by decide +kernel
theorem dX9_range_32 : decode cX9_range 32 = .ok (.ireturn, 1) := by decide +kernel
theorem dX9_range_33 : decode cX9_range 33 = .ok (.aload_n 0, 1) := by decide +kernel
theorem dX9_range_34 : decode cX9_range 34 = .ok (.getfield 43, 3) := by decide +kernel
theorem dX9_range_37 : decode cX9_range 37 = .ok (.aload_n 0, 1) := by decide +kernel
theorem dX9_range_38 : decode cX9_range 38 = .ok (.getfield 178, 3) := by decide +kernel
theorem dX9_range_41 : decode cX9_range 41 = .ok (.iload_n 1, 1) := by decide +kernel
theorem dX9_range_42 : decode cX9_range 42 = .ok (.iastore, 1) := by decide +kernel
theorem dX9_range_43 : decode cX9_range 43 = .ok (.aload_n 0, 1) := by decide +kernel
theorem dX9_range_44 : decode cX9_range 44 = .ok (.getfield 46, 3) := by decide +kernel
theorem dX9_range_47 : decode cX9_range 47 = .ok (.aload_n 0, 1) := by decide +kernel
theorem dX9_range_48 : decode cX9_range 48 = .ok (.getfield 178, 3) := by decide +kernel
theorem dX9_range_51 : decode cX9_range 51 = .ok (.iload_n 2, 1) := by decide +kernel
theorem dX9_range_52 : decode cX9_range 52 = .ok (.iastore, 1) := by decide +kernel
theorem dX9_range_53 : decode cX9_range 53 = .ok (.aload_n 0, 1) := by decide +kernel
theorem dX9_range_54 : decode cX9_range 54 = .ok (.dup, 1) := by decide +kernel
theorem dX9_range_55 : decode cX9_range 55 = .ok (.getfield 178, 3) := by decide +kernel
theorem dX9_range_58 : decode cX9_range 58 = .ok (.iconst 1, 1) := by decide +kernel
theorem dX9_range_59 : decode cX9_range 59 = .ok (.iadd, 1) := by decide +kernel
theorem dX9_range_60 : decode cX9_range 60 = .ok (.putfield 178, 3) := by decide +kernel
theorem dX9_range_63 : decode cX9_range 63 = .ok (.aload_n 0, 1) := by decide +kernel
theorem dX9_range_64 : decode cX9_range 64 = .ok (.getfield 178, 3) := by decide +kernel
theorem dX9_range_67 : decode cX9_range 67 = .ok (.ireturn, 1) := by decide +kernel
theorem dX9_isPlace_0 : decode cX9_isPlace 0 = .ok (.iload_n 0, 1) := by decide +kernel
theorem dX9_isPlace_1 : decode cX9_isPlace 1 = .ok (.iconst 0, 1) := by decide +kernel
theorem dX9_isPlace_2 : decode cX9_isPlace 2 = .ok (.bipush 7, 2) := by decide +kernel
theorem dX9_isPlace_4 : decode cX9_isPlace 4 = .ok (.invokestatic 111, 3) := by decide +kernel
theorem dX9_isPlace_7 : decode cX9_isPlace 7 = .ok (.ireturn, 1) := by decide +kernel
theorem dX9_filter_0 : decode cX9_filter 0 = .ok (.iload_n 2, 1) := by decide +kernel
theorem dX9_filter_1 : decode cX9_filter 1 = .ok (.iconst 0, 1) := by decide +kernel
theorem dX9_filter_2 : decode cX9_filter 2 = .ok (.bipush 6, 2) := by decide +kernel
theorem dX9_filter_4 : decode cX9_filter 4 = .ok (.invokestatic 111, 3) := by decide +kernel
theorem dX9_filter_7 : decode cX9_filter 7 = .ok (.ifCond .ne 5, 3) := by decide +kernel
theorem dX9_filter_10 : decode cX9_filter 10 = .ok (.iconst (-1), 1) := by decide +kernel
theorem dX9_filter_11 : decode cX9_filter 11 = .ok (.ireturn, 1) := by decide +kernel
theorem dX9_filter_12 : decode cX9_filter 12 = .ok (.iload_n 1, 1) := by decide +kernel
theorem dX9_filter_13 : decode cX9_filter 13 = .ok (.invokestatic 181, 3) := by decide +kernel
theorem dX9_filter_16 : decode cX9_filter 16 = .ok (.ifCond .ne 6, 3) := by decide +kernel
theorem dX9_filter_19 : decode cX9_filter 19 = .ok (.bipush (-13), 2) := by decide +kernel
theorem dX9_filter_21 : decode cX9_filter 21 = .ok (.ireturn, 1) := by decide +kernel
theorem dX9_filter_22 : decode cX9_filter 22 = .ok (.aload_n 0, 1) := by decide +kernel
theorem dX9_filter_23 : decode cX9_filter 23 = .ok (.getfield 61, 3) := by decide +kernel
theorem dX9_filter_26 : decode cX9_filter 26 = .ok (.iload_n 1, 1) := by decide +kernel
theorem dX9_filter_27 : decode cX9_filter 27 = .ok (.iload_n 2, 1) := by decide +kernel
theorem dX9_filter_28 : decode cX9_filter 28 = .ok (.iconst 1, 1) := by decide +kernel
theorem dX9_filter_29 : decode cX9_filter 29 = .ok (.iadd, 1) := by decide +kernel
theorem dX9_filter_30 : decode cX9_filter 30 = .ok (.iastore, 1) := by decide +kernel
theorem dX9_filter_31 : decode cX9_filter 31 = .ok (.aload_n 0, 1) := by decide +kernel
theorem dX9_filter_32 : decode cX9_filter 32 = .ok (.getfield 64, 3) := by decide +kernel
theorem dX9_filter_35 : decode cX9_filter 35 = .ok (.iload_n 1, 1) := by decide +kernel
theorem dX9_filter_36 : decode cX9_filter 36 = .ok (.iconst 0, 1) := by decide +kernel
theorem dX9_filter_37 : decode cX9_filter 37 = .ok (.iastore, 1) := by decide +kernel
theorem dX9_filter_38 : decode cX9_filter 38 = .ok (.aload_n 0, 1) := by decide +kernel
theorem dX9_filter_39 : decode cX9_filter 39 = .ok (.getfield 67, 3) := by decide +kernel
theorem dX9_filter_42 : decode cX9_filter 42 = .ok (.iload_n 1, 1) := by decide +kernel
theorem dX9_filter_43 : decode cX9_filter 43 = .ok (.iconst 0, 1) := by decide +kernel
theorem dX9_filter_44 : decode cX9_filter 44 = .ok (.iastore, 1) := by decide +kernel
theorem dX9_filter_45 : decode cX9_filter 45 = .ok (.aload_n 0, 1) := by decide +kernel
theorem dX9_filter_46 : decode cX9_filter 46 = .ok (.getfield 70, 3) := by decide +kernel
theorem dX9_filter_49 : decode cX9_filter 49 = .ok (.iload_n 1, 1) := by decide +kernel
theorem dX9_filter_50 : decode cX9_filter 50 = .ok (.iconst 0, 1) := by decide +kernel
theorem dX9_filter_51 : decode cX9_filter 51 = .ok (.iastore, 1) := by decide +kernel
theorem dX9_filter_52 : decode cX9_filter 52 = .ok (.iconst 0, 1) := by decide +kernel
theorem dX9_filter_53 : decode cX9_filter 53 = .ok (.ireturn, 1) := by decide +kernel
theorem dX9_drop_0 : decode cX9_drop 0 = .ok (.iload_n 1, 1) := by decide +kernel
theorem dX9_drop_1 : decode cX9_drop 1 = .ok (.invokestatic 181, 3) := by decide +kernel
theorem dX9_drop_4 : decode cX9_drop 4 = .ok (.ifCond .ne 6, 3) := by decide +kernel
theorem dX9_drop_7 : decode cX9_drop 7 = .ok (.bipush (-13), 2) := by decide +kernel
theorem dX9_drop_9 : decode cX9_drop 9 = .ok (.ireturn, 1) := by decide +kernel
theorem dX9_drop_10 : decode cX9_drop 10 = .ok (.aload_n 0, 1) := by decide +kernel
theorem dX9_drop_11 : decode cX9_drop 11 = .ok (.getfield 61, 3) := by decide +kernel
theorem dX9_drop_14 : decode cX9_drop 14 = .ok (.iload_n 1, 1) := by decide +kernel
theorem dX9_drop_15 : decode cX9_drop 15 = .ok (.iaload, 1) := by decide +kernel
theorem dX9_drop_16 : decode cX9_drop 16 = .ok (.ifCond .le 7, 3) := by decide +kernel
theorem dX9_drop_19 : decode cX9_drop 19 = .ok (.iconst 1, 1) := by decide +kernel
theorem dX9_drop_20 : decode cX9_drop 20 = .ok (.goto 4, 3) := by decide +kernel
theorem dX9_drop_23 : decode cX9_drop 23 = .ok (.iconst 0, 1) := by decide +kernel
theorem dX9_drop_24 : decode cX9_drop 24 = .ok (.istore_n 2, 1) := by decide +kernel
theorem dX9_drop_25 : decode cX9_drop 25 = .ok (.aload_n 0, 1) := by decide +kernel
theorem dX9_drop_26 : decode cX9_drop 26 = .ok (.getfield 61, 3) := by decide +kernel
theorem dX9_drop_29 : decode cX9_drop 29 = .ok (.iload_n 1, 1) := by decide +kernel
theorem dX9_drop_30 : decode cX9_drop 30 = .ok (.iconst 0, 1) := by decide +kernel
theorem dX9_drop_31 : decode cX9_drop 31 = .ok (.iastore, 1) := by decide +kernel
theorem dX9_drop_32 : decode cX9_drop 32 = .ok (.iload_n 2, 1) := by decide +kernel
theorem dX9_drop_33 : decode cX9_drop 33 = .ok (.ireturn, 1) := by decide +kernel
theorem dX9_rule_0 : decode cX9_rule 0 = .ok (.iload_n 2, 1) := by decide +kernel
theorem dX9_rule_1 : decode cX9_rule 1 = .ok (.iconst 0, 1) := by decide +kernel
theorem dX9_rule_2 : decode cX9_rule 2 = .ok (.iconst 2, 1) := by decide +kernel
theorem dX9_rule_3 : decode cX9_rule 3 = .ok (.invokestatic 111, 3) := by decide +kernel
theorem dX9_rule_6 : decode cX9_rule 6 = .ok (.ifCond .ne 5, 3) := by decide +kernel
theorem dX9_rule_9 : decode cX9_rule 9 = .ok (.iconst (-1), 1) := by decide +kernel
theorem dX9_rule_10 : decode cX9_rule 10 = .ok (.ireturn, 1) := by decide +kernel
theorem dX9_rule_11 : decode cX9_rule 11 = .ok (.iload_n 1, 1) := by decide +kernel
theorem dX9_rule_12 : decode cX9_rule 12 = .ok (.invokestatic 181, 3) := by decide +kernel
theorem dX9_rule_15 : decode cX9_rule 15 = .ok (.ifCond .ne 6, 3) := by decide +kernel
theorem dX9_rule_18 : decode cX9_rule 18 = .ok (.bipush (-13), 2) := by decide +kernel
theorem dX9_rule_20 : decode cX9_rule 20 = .ok (.ireturn, 1) := by decide +kernel
theorem dX9_rule_21 : decode cX9_rule 21 = .ok (.aload_n 0, 1) := by decide +kernel
theorem dX9_rule_22 : decode cX9_rule 22 = .ok (.getfield 61, 3) := by decide +kernel
theorem dX9_rule_25 : decode cX9_rule 25 = .ok (.iload_n 1, 1) := by decide +kernel
theorem dX9_rule_26 : decode cX9_rule 26 = .ok (.iaload, 1) := by decide +kernel
theorem dX9_rule_27 : decode cX9_rule 27 = .ok (.bipush 6, 2) := by decide +kernel
theorem dX9_rule_29 : decode cX9_rule 29 = .ok (.if_icmp .eq 20, 3) := by decide +kernel
theorem dX9_rule_32 : decode cX9_rule 32 = .ok (.aload_n 0, 1) := by decide +kernel
theorem dX9_rule_33 : decode cX9_rule 33 = .ok (.getfield 61, 3) := by decide +kernel
theorem dX9_rule_36 : decode cX9_rule 36 = .ok (.iload_n 1, 1) := by decide +kernel
theorem dX9_rule_37 : decode cX9_rule 37 = .ok (.iaload, 1) := by decide +kernel
theorem dX9_rule_38 : decode cX9_rule 38 = .ok (.ifCond .ne 8, 3) := by decide +kernel
theorem dX9_rule_41 : decode cX9_rule 41 = .ok (.bipush (-11), 2) := by decide +kernel
theorem dX9_rule_43 : decode cX9_rule 43 = .ok (.goto 5, 3) := by decide +kernel
theorem dX9_rule_46 : decode cX9_rule 46 = .ok (.bipush (-12), 2) := by decide +kernel
theorem dX9_rule_48 : decode cX9_rule 48 = .ok (.ireturn, 1) := by decide +kernel
theorem dX9_rule_49 : decode cX9_rule 49 = .ok (.aload_n 0, 1) := by decide +kernel
theorem dX9_rule_50 : decode cX9_rule 50 = .ok (.getfield 64, 3) := by decide +kernel
theorem dX9_rule_53 : decode cX9_rule 53 = .ok (.iload_n 1, 1) := by decide +kernel
theorem dX9_rule_54 : decode cX9_rule 54 = .ok (.iaload, 1) := by decide +kernel
theorem dX9_rule_55 : decode cX9_rule 55 = .ok (.istore_n 3, 1) := by decide +kernel
theorem dX9_rule_56 : decode cX9_rule 56 = .ok (.aload_n 0, 1) := by decide +kernel
theorem dX9_rule_57 : decode cX9_rule 57 = .ok (.getfield 64, 3) := by decide +kernel
theorem dX9_rule_60 : decode cX9_rule 60 = .ok (.iload_n 1, 1) := by decide +kernel
theorem dX9_rule_61 : decode cX9_rule 61 = .ok (.iload_n 2, 1) := by decide +kernel
theorem dX9_rule_62 : decode cX9_rule 62 = .ok (.iastore, 1) := by decide +kernel
theorem dX9_rule_63 : decode cX9_rule 63 = .ok (.iload_n 3, 1) := by decide +kernel
theorem dX9_rule_64 : decode cX9_rule 64 = .ok (.ireturn, 1) := by decide +kernel
theorem dX9_lay_0 : decode cX9_lay 0 = .ok (.aload_n 0, 1) := by decide +kernel
theorem dX9_lay_1 : decode cX9_lay 1 = .ok (.getfield 184, 3) := by decide +kernel
theorem dX9_lay_4 : decode cX9_lay 4 = .ok (.sipush 300, 3) := by decide +kernel
theorem dX9_lay_7 : decode cX9_lay 7 = .ok (.if_icmp .ge 33, 3) := by decide +kernel
theorem dX9_lay_10 : decode cX9_lay 10 = .ok (.aload_n 0, 1) := by decide +kernel
theorem dX9_lay_11 : decode cX9_lay 11 = .ok (.getfield 97, 3) := by decide +kernel
theorem dX9_lay_14 : decode cX9_lay 14 = .ok (.aload_n 0, 1) := by decide +kernel
theorem dX9_lay_15 : decode cX9_lay 15 = .ok (.getfield 184, 3) := by decide +kernel
theorem dX9_lay_18 : decode cX9_lay 18 = .ok (.iload_n 1, 1) := by decide +kernel
theorem dX9_lay_19 : decode cX9_lay 19 = .ok (.iastore, 1) := by decide +kernel
theorem dX9_lay_20 : decode cX9_lay 20 = .ok (.aload_n 0, 1) := by decide +kernel
theorem dX9_lay_21 : decode cX9_lay 21 = .ok (.getfield 100, 3) := by decide +kernel
theorem dX9_lay_24 : decode cX9_lay 24 = .ok (.aload_n 0, 1) := by decide +kernel
theorem dX9_lay_25 : decode cX9_lay 25 = .ok (.getfield 184, 3) := by decide +kernel
theorem dX9_lay_28 : decode cX9_lay 28 = .ok (.iload_n 2, 1) := by decide +kernel
theorem dX9_lay_29 : decode cX9_lay 29 = .ok (.iastore, 1) := by decide +kernel
theorem dX9_lay_30 : decode cX9_lay 30 = .ok (.aload_n 0, 1) := by decide +kernel
theorem dX9_lay_31 : decode cX9_lay 31 = .ok (.getfield 103, 3) := by decide +kernel
theorem dX9_lay_34 : decode cX9_lay 34 = .ok (.aload_n 0, 1) := by decide +kernel
theorem dX9_lay_35 : decode cX9_lay 35 = .ok (.getfield 184, 3) := by decide +kernel
theorem dX9_lay_38 : decode cX9_lay 38 = .ok (.iload_n 3, 1) := by decide +kernel
theorem dX9_lay_39 : decode cX9_lay 39 = .ok (.iastore, 1) := by decide +kernel
theorem dX9_lay_40 : decode cX9_lay 40 = .ok (.aload_n 0, 1) := by decide +kernel
theorem dX9_lay_41 : decode cX9_lay 41 = .ok (.dup, 1) := by decide +kernel
theorem dX9_lay_42 : decode cX9_lay 42 = .ok (.getfield 184, 3) := by decide +kernel
theorem dX9_lay_45 : decode cX9_lay 45 = .ok (.iconst 1, 1) := by decide +kernel
theorem dX9_lay_46 : decode cX9_lay 46 = .ok (.iadd, 1) := by decide +kernel
theorem dX9_lay_47 : decode cX9_lay 47 = .ok (.putfield 184, 3) := by decide +kernel
theorem dX9_lay_50 : decode cX9_lay 50 = .ok (.return_, 1) := by decide +kernel
theorem dX9_unitsOf_0 : decode cX9_unitsOf 0 = .ok (.iload_n 0, 1) := by decide +kernel
theorem dX9_unitsOf_1 : decode cX9_unitsOf 1 = .ok (.ldc 119, 2) := by decide +kernel
theorem dX9_unitsOf_3 : decode cX9_unitsOf 3 = .ok (.if_icmp .le 7, 3) := by decide +kernel
theorem dX9_unitsOf_6 : decode cX9_unitsOf 6 = .ok (.iconst 2, 1) := by decide +kernel
theorem dX9_unitsOf_7 : decode cX9_unitsOf 7 = .ok (.goto 4, 3) := by decide +kernel
theorem dX9_unitsOf_10 : decode cX9_unitsOf 10 = .ok (.iconst 1, 1) := by decide +kernel
theorem dX9_unitsOf_11 : decode cX9_unitsOf 11 = .ok (.ireturn, 1) := by decide +kernel
theorem dX9_folding_0 : decode cX9_folding 0 = .ok (.aload_n 0, 1) := by decide +kernel
theorem dX9_folding_1 : decode cX9_folding 1 = .ok (.aload_n 0, 1) := by decide +kernel
theorem dX9_folding_2 : decode cX9_folding 2 = .ok (.getfield 88, 3) := by decide +kernel
theorem dX9_folding_5 : decode cX9_folding 5 = .ok (.iload_n 2, 1) := by decide +kernel
theorem dX9_folding_6 : decode cX9_folding 6 = .ok (.iaload, 1) := by decide +kernel
theorem dX9_folding_7 : decode cX9_folding 7 = .ok (.invokevirtual 164, 3) := by decide +kernel
theorem dX9_folding_10 : decode cX9_folding 10 = .ok (.istore_n 3, 1) := by decide +kernel
theorem dX9_folding_11 : decode cX9_folding 11 = .ok (.iload_n 3, 1) := by decide +kernel
theorem dX9_folding_12 : decode cX9_folding 12 = .ok (.ifCond .ge 26, 3) := by decide +kernel
theorem dX9_folding_15 : decode cX9_folding 15 = .ok (.aload_n 0, 1) := by decide +kernel
theorem dX9_folding_16 : decode cX9_folding 16 = .ok (.aload_n 0, 1) := by decide +kernel
theorem dX9_folding_17 : decode cX9_folding 17 = .ok (.getfield 88, 3) := by decide +kernel
theorem dX9_folding_20 : decode cX9_folding 20 = .ok (.iload_n 2, 1) := by decide +kernel
theorem dX9_folding_21 : decode cX9_folding 21 = .ok (.iaload, 1) := by decide +kernel
theorem dX9_folding_22 : decode cX9_folding 22 = .ok (.aload_n 0, 1) := by decide +kernel
theorem dX9_folding_23 : decode cX9_folding 23 = .ok (.getfield 91, 3) := by decide +kernel
theorem dX9_folding_26 : decode cX9_folding 26 = .ok (.iload_n 2, 1) := by decide +kernel
theorem dX9_folding_27 : decode cX9_folding 27 = .ok (.iaload, 1) := by decide +kernel
theorem dX9_folding_28 : decode cX9_folding 28 = .ok (.aload_n 0, 1) := by decide +kernel
theorem dX9_folding_29 : decode cX9_folding 29 = .ok (.getfield 94, 3) := by decide +kernel
theorem dX9_folding_32 : decode cX9_folding 32 = .ok (.iload_n 2, 1) := by decide +kernel
theorem dX9_folding_33 : decode cX9_folding 33 = .ok (.iaload, 1) := by decide +kernel
theorem dX9_folding_34 : decode cX9_folding 34 = .ok (.invokevirtual 187, 3) := by decide +kernel
theorem dX9_folding_37 : decode cX9_folding 37 = .ok (.return_, 1) := by decide +kernel
theorem dX9_folding_38 : decode cX9_folding 38 = .ok (.aload_n 0, 1) := by decide +kernel
theorem dX9_folding_39 : decode cX9_folding 39 = .ok (.getfield 73, 3) := by decide +kernel
theorem dX9_folding_42 : decode cX9_folding 42 = .ok (.iload_n 1, 1) := by decide +kernel
theorem dX9_folding_43 : decode cX9_folding 43 = .ok (.dup2, 1) := by decide +kernel
theorem dX9_folding_44 : decode cX9_folding 44 = .ok (.iaload, 1) := by decide +kernel
theorem dX9_folding_45 : decode cX9_folding 45 = .ok (.iconst 1, 1) := by decide +kernel
theorem dX9_folding_46 : decode cX9_folding 46 = .ok (.iadd, 1) := by decide +kernel
theorem dX9_folding_47 : decode cX9_folding 47 = .ok (.iastore, 1) := by decide +kernel
theorem dX9_folding_48 : decode cX9_folding 48 = .ok (.aload_n 0, 1) := by decide +kernel
theorem dX9_folding_49 : decode cX9_folding 49 = .ok (.getfield 76, 3) := by decide +kernel
theorem dX9_folding_52 : decode cX9_folding 52 = .ok (.iload_n 1, 1) := by decide +kernel
theorem dX9_folding_53 : decode cX9_folding 53 = .ok (.dup2, 1) := by decide +kernel
theorem dX9_folding_54 : decode cX9_folding 54 = .ok (.iaload, 1) := by decide +kernel
theorem dX9_folding_55 : decode cX9_folding 55 = .ok (.aload_n 0, 1) := by decide +kernel
theorem dX9_folding_56 : decode cX9_folding 56 = .ok (.getfield 88, 3) := by decide +kernel
theorem dX9_folding_59 : decode cX9_folding 59 = .ok (.iload_n 2, 1) := by decide +kernel
theorem dX9_folding_60 : decode cX9_folding 60 = .ok (.iaload, 1) := by decide +kernel
theorem dX9_folding_61 : decode cX9_folding 61 = .ok (.invokestatic 191, 3) := by decide +kernel
theorem dX9_folding_64 : decode cX9_folding 64 = .ok (.isub, 1) := by decide +kernel
theorem dX9_folding_65 : decode cX9_folding 65 = .ok (.iastore, 1) := by decide +kernel
theorem dX9_folding_66 : decode cX9_folding 66 = .ok (.iconst 0, 1) := by decide +kernel
theorem dX9_folding_67 : decode cX9_folding 67 = .ok (.istore 4, 2) := by decide +kernel
theorem dX9_folding_69 : decode cX9_folding 69 = .ok (.iload 4, 2) := by decide +kernel
theorem dX9_folding_71 : decode cX9_folding 71 = .ok (.aload_n 0, 1) := by decide +kernel
theorem dX9_folding_72 : decode cX9_folding 72 = .ok (.getfield 25, 3) := by decide +kernel
theorem dX9_folding_75 : decode cX9_folding 75 = .ok (.iload_n 3, 1) := by decide +kernel
theorem dX9_folding_76 : decode cX9_folding 76 = .ok (.iaload, 1) := by decide +kernel
theorem dX9_folding_77 : decode cX9_folding 77 = .ok (.if_icmp .ge 59, 3) := by decide +kernel
theorem dX9_folding_80 : decode cX9_folding 80 = .ok (.aload_n 0, 1) := by decide +kernel
theorem dX9_folding_81 : decode cX9_folding 81 = .ok (.aload_n 0, 1) := by decide +kernel
theorem dX9_folding_82 : decode cX9_folding 82 = .ok (.getfield 28, 3) := by decide +kernel
theorem dX9_folding_85 : decode cX9_folding 85 = .ok (.iconst 3, 1) := by decide +kernel
theorem dX9_folding_86 : decode cX9_folding 86 = .ok (.iload_n 3, 1) := by decide +kernel
theorem dX9_folding_87 : decode cX9_folding 87 = .ok (.imul, 1) := by decide +kernel
theorem dX9_folding_88 : decode cX9_folding 88 = .ok (.iload 4, 2) := by decide +kernel
theorem dX9_folding_90 : decode cX9_folding 90 = .ok (.iadd, 1) := by decide +kernel
theorem dX9_folding_91 : decode cX9_folding 91 = .ok (.iaload, 1) := by decide +kernel
theorem dX9_folding_92 : decode cX9_folding 92 = .ok (.aload_n 0, 1) := by decide +kernel
theorem dX9_folding_93 : decode cX9_folding 93 = .ok (.getfield 91, 3) := by decide +kernel
end
section
theorem dX9_folding_96 : decode cX9_folding 96 = .ok (.iload_n 2, 1) := by decide +kernel
theorem dX9_folding_97 : decode cX9_folding 97 = .ok (.iaload, 1) := by decide +kernel
theorem dX9_folding_98 : decode cX9_folding 98 = .ok (.aload_n 0, 1) := by decide +kernel
theorem dX9_folding_99 : decode cX9_folding 99 = .ok (.getfield 94, 3) := by decide +kernel
theorem dX9_folding_102 : decode cX9_folding 102 = .ok (.iload_n 2, 1) := by decide +kernel
theorem dX9_folding_103 : decode cX9_folding 103 = .ok (.iaload, 1) := by decide +kernel
theorem dX9_folding_104 : decode cX9_folding 104 = .ok (.invokevirtual 187, 3) := by decide +kernel
theorem dX9_folding_107 : decode cX9_folding 107 = .ok (.aload_n 0, 1) := by decide +kernel
theorem dX9_folding_108 : decode cX9_folding 108 = .ok (.getfield 76, 3) := by decide +kernel
theorem dX9_folding_111 : decode cX9_folding 111 = .ok (.iload_n 1, 1) := by decide +kernel
theorem dX9_folding_112 : decode cX9_folding 112 = .ok (.dup2, 1) := by decide +kernel
theorem dX9_folding_113 : decode cX9_folding 113 = .ok (.iaload, 1) := by decide +kernel
theorem dX9_folding_114 : decode cX9_folding 114 = .ok (.aload_n 0, 1) := by decide +kernel
theorem dX9_folding_115 : decode cX9_folding 115 = .ok (.getfield 28, 3) := by decide +kernel
theorem dX9_folding_118 : decode cX9_folding 118 = .ok (.iconst 3, 1) := by decide +kernel
theorem dX9_folding_119 : decode cX9_folding 119 = .ok (.iload_n 3, 1) := by decide +kernel
theorem dX9_folding_120 : decode cX9_folding 120 = .ok (.imul, 1) := by decide +kernel
theorem dX9_folding_121 : decode cX9_folding 121 = .ok (.iload 4, 2) := by decide +kernel
theorem dX9_folding_123 : decode cX9_folding 123 = .ok (.iadd, 1) := by decide +kernel
theorem dX9_folding_124 : decode cX9_folding 124 = .ok (.iaload, 1) := by decide +kernel
theorem dX9_folding_125 : decode cX9_folding 125 = .ok (.invokestatic 191, 3) := by decide +kernel
theorem dX9_folding_128 : decode cX9_folding 128 = .ok (.iadd, 1) := by decide +kernel
theorem dX9_folding_129 : decode cX9_folding 129 = .ok (.iastore, 1) := by decide +kernel
theorem dX9_folding_130 : decode cX9_folding 130 = .ok (.iinc 4 1, 3) := by decide +kernel
theorem dX9_folding_133 : decode cX9_folding 133 = .ok (.goto (-64), 3) := by decide +kernel
theorem dX9_folding_136 : decode cX9_folding 136 = .ok (.return_, 1) := by decide +kernel
theorem dX9_composing_0 : decode cX9_composing 0 = .ok (.aload_n 0, 1) := by decide +kernel
theorem dX9_composing_1 : decode cX9_composing 1 = .ok (.getfield 184, 3) := by decide +kernel
theorem dX9_composing_4 : decode cX9_composing 4 = .ok (.ifCond .ne 7, 3) := by decide +kernel
theorem dX9_composing_7 : decode cX9_composing 7 = .ok (.iconst (-1), 1) := by decide +kernel
theorem dX9_composing_8 : decode cX9_composing 8 = .ok (.goto 24, 3) := by decide +kernel
theorem dX9_composing_11 : decode cX9_composing 11 = .ok (.aload_n 0, 1) := by decide +kernel
theorem dX9_composing_12 : decode cX9_composing 12 = .ok (.aload_n 0, 1) := by decide +kernel
theorem dX9_composing_13 : decode cX9_composing 13 = .ok (.getfield 97, 3) := by decide +kernel
theorem dX9_composing_16 : decode cX9_composing 16 = .ok (.aload_n 0, 1) := by decide +kernel
theorem dX9_composing_17 : decode cX9_composing 17 = .ok (.getfield 184, 3) := by decide +kernel
theorem dX9_composing_20 : decode cX9_composing 20 = .ok (.iconst 1, 1) := by decide +kernel
theorem dX9_composing_21 : decode cX9_composing 21 = .ok (.isub, 1) := by decide +kernel
theorem dX9_composing_22 : decode cX9_composing 22 = .ok (.iaload, 1) := by decide +kernel
theorem dX9_composing_23 : decode cX9_composing 23 = .ok (.aload_n 0, 1) := by decide +kernel
theorem dX9_composing_24 : decode cX9_composing 24 = .ok (.getfield 88, 3) := by decide +kernel
theorem dX9_composing_27 : decode cX9_composing 27 = .ok (.iload_n 2, 1) := by decide +kernel
theorem dX9_composing_28 : decode cX9_composing 28 = .ok (.iaload, 1) := by decide +kernel
theorem dX9_composing_29 : decode cX9_composing 29 = .ok (.invokevirtual 171, 3) := by decide +kernel
theorem dX9_composing_32 : decode cX9_composing 32 = .ok (.istore_n 3, 1) := by decide +kernel
theorem dX9_composing_33 : decode cX9_composing 33 = .ok (.iload_n 3, 1) := by decide +kernel
theorem dX9_composing_34 : decode cX9_composing 34 = .ok (.ifCond .ge 26, 3) := by decide +kernel
theorem dX9_composing_37 : decode cX9_composing 37 = .ok (.aload_n 0, 1) := by decide +kernel
theorem dX9_composing_38 : decode cX9_composing 38 = .ok (.aload_n 0, 1) := by decide +kernel
theorem dX9_composing_39 : decode cX9_composing 39 = .ok (.getfield 88, 3) := by decide +kernel
theorem dX9_composing_42 : decode cX9_composing 42 = .ok (.iload_n 2, 1) := by decide +kernel
theorem dX9_composing_43 : decode cX9_composing 43 = .ok (.iaload, 1) := by decide +kernel
theorem dX9_composing_44 : decode cX9_composing 44 = .ok (.aload_n 0, 1) := by decide +kernel
theorem dX9_composing_45 : decode cX9_composing 45 = .ok (.getfield 91, 3) := by decide +kernel
theorem dX9_composing_48 : decode cX9_composing 48 = .ok (.iload_n 2, 1) := by decide +kernel
theorem dX9_composing_49 : decode cX9_composing 49 = .ok (.iaload, 1) := by decide +kernel
theorem dX9_composing_50 : decode cX9_composing 50 = .ok (.aload_n 0, 1) := by decide +kernel
theorem dX9_composing_51 : decode cX9_composing 51 = .ok (.getfield 94, 3) := by decide +kernel
theorem dX9_composing_54 : decode cX9_composing 54 = .ok (.iload_n 2, 1) := by decide +kernel
theorem dX9_composing_55 : decode cX9_composing 55 = .ok (.iaload, 1) := by decide +kernel
theorem dX9_composing_56 : decode cX9_composing 56 = .ok (.invokevirtual 187, 3) := by decide +kernel
theorem dX9_composing_59 : decode cX9_composing 59 = .ok (.return_, 1) := by decide +kernel
theorem dX9_composing_60 : decode cX9_composing 60 = .ok (.aload_n 0, 1) := by decide +kernel
theorem dX9_composing_61 : decode cX9_composing 61 = .ok (.getfield 73, 3) := by decide +kernel
theorem dX9_composing_64 : decode cX9_composing 64 = .ok (.iload_n 1, 1) := by decide +kernel
theorem dX9_composing_65 : decode cX9_composing 65 = .ok (.dup2, 1) := by decide +kernel
theorem dX9_composing_66 : decode cX9_composing 66 = .ok (.iaload, 1) := by decide +kernel
theorem dX9_composing_67 : decode cX9_composing 67 = .ok (.iconst 1, 1) := by decide +kernel
theorem dX9_composing_68 : decode cX9_composing 68 = .ok (.iadd, 1) := by decide +kernel
theorem dX9_composing_69 : decode cX9_composing 69 = .ok (.iastore, 1) := by decide +kernel
theorem dX9_composing_70 : decode cX9_composing 70 = .ok (.aload_n 0, 1) := by decide +kernel
theorem dX9_composing_71 : decode cX9_composing 71 = .ok (.getfield 97, 3) := by decide +kernel
theorem dX9_composing_74 : decode cX9_composing 74 = .ok (.aload_n 0, 1) := by decide +kernel
theorem dX9_composing_75 : decode cX9_composing 75 = .ok (.getfield 184, 3) := by decide +kernel
theorem dX9_composing_78 : decode cX9_composing 78 = .ok (.iconst 1, 1) := by decide +kernel
theorem dX9_composing_79 : decode cX9_composing 79 = .ok (.isub, 1) := by decide +kernel
theorem dX9_composing_80 : decode cX9_composing 80 = .ok (.aload_n 0, 1) := by decide +kernel
theorem dX9_composing_81 : decode cX9_composing 81 = .ok (.getfield 37, 3) := by decide +kernel
theorem dX9_composing_84 : decode cX9_composing 84 = .ok (.iload_n 3, 1) := by decide +kernel
theorem dX9_composing_85 : decode cX9_composing 85 = .ok (.iaload, 1) := by decide +kernel
theorem dX9_composing_86 : decode cX9_composing 86 = .ok (.iastore, 1) := by decide +kernel
theorem dX9_composing_87 : decode cX9_composing 87 = .ok (.aload_n 0, 1) := by decide +kernel
theorem dX9_composing_88 : decode cX9_composing 88 = .ok (.getfield 103, 3) := by decide +kernel
theorem dX9_composing_91 : decode cX9_composing 91 = .ok (.aload_n 0, 1) := by decide +kernel
theorem dX9_composing_92 : decode cX9_composing 92 = .ok (.getfield 184, 3) := by decide +kernel
theorem dX9_composing_95 : decode cX9_composing 95 = .ok (.iconst 1, 1) := by decide +kernel
theorem dX9_composing_96 : decode cX9_composing 96 = .ok (.isub, 1) := by decide +kernel
theorem dX9_composing_97 : decode cX9_composing 97 = .ok (.aload_n 0, 1) := by decide +kernel
theorem dX9_composing_98 : decode cX9_composing 98 = .ok (.getfield 94, 3) := by decide +kernel
theorem dX9_composing_101 : decode cX9_composing 101 = .ok (.iload_n 2, 1) := by decide +kernel
theorem dX9_composing_102 : decode cX9_composing 102 = .ok (.iaload, 1) := by decide +kernel
theorem dX9_composing_103 : decode cX9_composing 103 = .ok (.iastore, 1) := by decide +kernel
theorem dX9_composing_104 : decode cX9_composing 104 = .ok (.return_, 1) := by decide +kernel
theorem dX9_digitOf_0 : decode cX9_digitOf 0 = .ok (.bipush (-9), 2) := by decide +kernel
theorem dX9_digitOf_2 : decode cX9_digitOf 2 = .ok (.istore_n 2, 1) := by decide +kernel
theorem dX9_digitOf_3 : decode cX9_digitOf 3 = .ok (.aload_n 0, 1) := by decide +kernel
theorem dX9_digitOf_4 : decode cX9_digitOf 4 = .ok (.getfield 175, 3) := by decide +kernel
theorem dX9_digitOf_7 : decode cX9_digitOf 7 = .ok (.iconst 1, 1) := by decide +kernel
theorem dX9_digitOf_8 : decode cX9_digitOf 8 = .ok (.isub, 1) := by decide +kernel
theorem dX9_digitOf_9 : decode cX9_digitOf 9 = .ok (.istore_n 3, 1) := by decide +kernel
theorem dX9_digitOf_10 : decode cX9_digitOf 10 = .ok (.iload_n 3, 1) := by decide +kernel
theorem dX9_digitOf_11 : decode cX9_digitOf 11 = .ok (.ifCond .lt 44, 3) := by decide +kernel
theorem dX9_digitOf_14 : decode cX9_digitOf 14 = .ok (.iload_n 1, 1) := by decide +kernel
theorem dX9_digitOf_15 : decode cX9_digitOf 15 = .ok (.aload_n 0, 1) := by decide +kernel
theorem dX9_digitOf_16 : decode cX9_digitOf 16 = .ok (.getfield 40, 3) := by decide +kernel
theorem dX9_digitOf_19 : decode cX9_digitOf 19 = .ok (.iload_n 3, 1) := by decide +kernel
theorem dX9_digitOf_20 : decode cX9_digitOf 20 = .ok (.iaload, 1) := by decide +kernel
theorem dX9_digitOf_21 : decode cX9_digitOf 21 = .ok (.aload_n 0, 1) := by decide +kernel
theorem dX9_digitOf_22 : decode cX9_digitOf 22 = .ok (.getfield 40, 3) := by decide +kernel
theorem dX9_digitOf_25 : decode cX9_digitOf 25 = .ok (.iload_n 3, 1) := by decide +kernel
theorem dX9_digitOf_26 : decode cX9_digitOf 26 = .ok (.iaload, 1) := by decide +kernel
theorem dX9_digitOf_27 : decode cX9_digitOf 27 = .ok (.bipush 9, 2) := by decide +kernel
theorem dX9_digitOf_29 : decode cX9_digitOf 29 = .ok (.iadd, 1) := by decide +kernel
theorem dX9_digitOf_30 : decode cX9_digitOf 30 = .ok (.invokestatic 111, 3) := by decide +kernel
theorem dX9_digitOf_33 : decode cX9_digitOf 33 = .ok (.ifCond .eq 14, 3) := by decide +kernel
theorem dX9_digitOf_36 : decode cX9_digitOf 36 = .ok (.iload_n 1, 1) := by decide +kernel
theorem dX9_digitOf_37 : decode cX9_digitOf 37 = .ok (.aload_n 0, 1) := by decide +kernel
theorem dX9_digitOf_38 : decode cX9_digitOf 38 = .ok (.getfield 40, 3) := by decide +kernel
theorem dX9_digitOf_41 : decode cX9_digitOf 41 = .ok (.iload_n 3, 1) := by decide +kernel
theorem dX9_digitOf_42 : decode cX9_digitOf 42 = .ok (.iaload, 1) := by decide +kernel
theorem dX9_digitOf_43 : decode cX9_digitOf 43 = .ok (.isub, 1) := by decide +kernel
theorem dX9_digitOf_44 : decode cX9_digitOf 44 = .ok (.goto 4, 3) := by decide +kernel
theorem dX9_digitOf_47 : decode cX9_digitOf 47 = .ok (.iload_n 2, 1) := by decide +kernel
theorem dX9_digitOf_48 : decode cX9_digitOf 48 = .ok (.istore_n 2, 1) := by decide +kernel
theorem dX9_digitOf_49 : decode cX9_digitOf 49 = .ok (.iinc 3 (-1), 3) := by decide +kernel
theorem dX9_digitOf_52 : decode cX9_digitOf 52 = .ok (.goto (-42), 3) := by decide +kernel
theorem dX9_digitOf_55 : decode cX9_digitOf 55 = .ok (.iload_n 2, 1) := by decide +kernel
theorem dX9_digitOf_56 : decode cX9_digitOf 56 = .ok (.ireturn, 1) := by decide +kernel
theorem dX9_isDropped_0 : decode cX9_isDropped 0 = .ok (.iconst 0, 1) := by decide +kernel
theorem dX9_isDropped_1 : decode cX9_isDropped 1 = .ok (.istore_n 2, 1) := by decide +kernel
theorem dX9_isDropped_2 : decode cX9_isDropped 2 = .ok (.iconst 0, 1) := by decide +kernel
theorem dX9_isDropped_3 : decode cX9_isDropped 3 = .ok (.istore_n 3, 1) := by decide +kernel
theorem dX9_isDropped_4 : decode cX9_isDropped 4 = .ok (.iload_n 3, 1) := by decide +kernel
theorem dX9_isDropped_5 : decode cX9_isDropped 5 = .ok (.aload_n 0, 1) := by decide +kernel
theorem dX9_isDropped_6 : decode cX9_isDropped 6 = .ok (.getfield 178, 3) := by decide +kernel
theorem dX9_isDropped_9 : decode cX9_isDropped 9 = .ok (.if_icmp .ge 28, 3) := by decide +kernel
theorem dX9_isDropped_12 : decode cX9_isDropped 12 = .ok (.iload_n 2, 1) := by decide +kernel
theorem dX9_isDropped_13 : decode cX9_isDropped 13 = .ok (.iload_n 1, 1) := by decide +kernel
theorem dX9_isDropped_14 : decode cX9_isDropped 14 = .ok (.aload_n 0, 1) := by decide +kernel
theorem dX9_isDropped_15 : decode cX9_isDropped 15 = .ok (.getfield 43, 3) := by decide +kernel
theorem dX9_isDropped_18 : decode cX9_isDropped 18 = .ok (.iload_n 3, 1) := by decide +kernel
theorem dX9_isDropped_19 : decode cX9_isDropped 19 = .ok (.iaload, 1) := by decide +kernel
theorem dX9_isDropped_20 : decode cX9_isDropped 20 = .ok (.aload_n 0, 1) := by decide +kernel
theorem dX9_isDropped_21 : decode cX9_isDropped 21 = .ok (.getfield 46, 3) := by decide +kernel
theorem dX9_isDropped_24 : decode cX9_isDropped 24 = .ok (.iload_n 3, 1) := by decide +kernel
theorem dX9_isDropped_25 : decode cX9_isDropped 25 = .ok (.iaload, 1) := by decide +kernel
theorem dX9_isDropped_26 : decode cX9_isDropped 26 = .ok (.invokestatic 111, 3) := by decide +kernel
theorem dX9_isDropped_29 : decode cX9_isDropped 29 = .ok (.ior, 1) := by decide +kernel
theorem dX9_isDropped_30 : decode cX9_isDropped 30 = .ok (.istore_n 2, 1) := by decide +kernel
theorem dX9_isDropped_31 : decode cX9_isDropped 31 = .ok (.iinc 3 1, 3) := by decide +kernel
theorem dX9_isDropped_34 : decode cX9_isDropped 34 = .ok (.goto (-30), 3) := by decide +kernel
theorem dX9_isDropped_37 : decode cX9_isDropped 37 = .ok (.iload_n 2, 1) := by decide +kernel
theorem dX9_isDropped_38 : decode cX9_isDropped 38 = .ok (.ireturn, 1) := by decide +kernel
theorem dX9_stringAt_0 : decode cX9_stringAt 0 = .ok (.iconst (-1), 1) := by decide +kernel
theorem dX9_stringAt_1 : decode cX9_stringAt 1 = .ok (.istore_n 2, 1) := by decide +kernel
theorem dX9_stringAt_2 : decode cX9_stringAt 2 = .ok (.iconst 0, 1) := by decide +kernel
theorem dX9_stringAt_3 : decode cX9_stringAt 3 = .ok (.istore_n 3, 1) := by decide +kernel
theorem dX9_stringAt_4 : decode cX9_stringAt 4 = .ok (.iload_n 3, 1) := by decide +kernel
theorem dX9_stringAt_5 : decode cX9_stringAt 5 = .ok (.aload_n 0, 1) := by decide +kernel
theorem dX9_stringAt_6 : decode cX9_stringAt 6 = .ok (.getfield 149, 3) := by decide +kernel
theorem dX9_stringAt_9 : decode cX9_stringAt 9 = .ok (.if_icmp .ge 117, 3) := by decide +kernel
theorem dX9_stringAt_12 : decode cX9_stringAt 12 = .ok (.iload_n 1, 1) := by decide +kernel
theorem dX9_stringAt_13 : decode cX9_stringAt 13 = .ok (.aload_n 0, 1) := by decide +kernel
theorem dX9_stringAt_14 : decode cX9_stringAt 14 = .ok (.getfield 49, 3) := by decide +kernel
theorem dX9_stringAt_17 : decode cX9_stringAt 17 = .ok (.iload_n 3, 1) := by decide +kernel
theorem dX9_stringAt_18 : decode cX9_stringAt 18 = .ok (.iaload, 1) := by decide +kernel
theorem dX9_stringAt_19 : decode cX9_stringAt 19 = .ok (.iadd, 1) := by decide +kernel
theorem dX9_stringAt_20 : decode cX9_stringAt 20 = .ok (.aload_n 0, 1) := by decide +kernel
theorem dX9_stringAt_21 : decode cX9_stringAt 21 = .ok (.getfield 194, 3) := by decide +kernel
theorem dX9_stringAt_24 : decode cX9_stringAt 24 = .ok (.if_icmp .gt 7, 3) := by decide +kernel
theorem dX9_stringAt_27 : decode cX9_stringAt 27 = .ok (.iconst 1, 1) := by decide +kernel
theorem dX9_stringAt_28 : decode cX9_stringAt 28 = .ok (.goto 4, 3) := by decide +kernel
theorem dX9_stringAt_31 : decode cX9_stringAt 31 = .ok (.iconst 0, 1) := by decide +kernel
theorem dX9_stringAt_32 : decode cX9_stringAt 32 = .ok (.istore 4, 2) := by decide +kernel
theorem dX9_stringAt_34 : decode cX9_stringAt 34 = .ok (.iconst 0, 1) := by decide +kernel
theorem dX9_stringAt_35 : decode cX9_stringAt 35 = .ok (.istore 5, 2) := by decide +kernel
theorem dX9_stringAt_37 : decode cX9_stringAt 37 = .ok (.iload 5, 2) := by decide +kernel
theorem dX9_stringAt_39 : decode cX9_stringAt 39 = .ok (.aload_n 0, 1) := by decide +kernel
theorem dX9_stringAt_40 : decode cX9_stringAt 40 = .ok (.getfield 49, 3) := by decide +kernel
theorem dX9_stringAt_43 : decode cX9_stringAt 43 = .ok (.iload_n 3, 1) := by decide +kernel
theorem dX9_stringAt_44 : decode cX9_stringAt 44 = .ok (.iaload, 1) := by decide +kernel
theorem dX9_stringAt_45 : decode cX9_stringAt 45 = .ok (.if_icmp .ge 45, 3) := by decide +kernel
theorem dX9_stringAt_48 : decode cX9_stringAt 48 = .ok (.iload 4, 2) := by decide +kernel
theorem dX9_stringAt_50 : decode cX9_stringAt 50 = .ok (.ifCond .eq 40, 3) := by decide +kernel
theorem dX9_stringAt_53 : decode cX9_stringAt 53 = .ok (.aload_n 0, 1) := by decide +kernel
theorem dX9_stringAt_54 : decode cX9_stringAt 54 = .ok (.getfield 55, 3) := by decide +kernel
theorem dX9_stringAt_57 : decode cX9_stringAt 57 = .ok (.bipush 100, 2) := by decide +kernel
theorem dX9_stringAt_59 : decode cX9_stringAt 59 = .ok (.iload_n 3, 1) := by decide +kernel
theorem dX9_stringAt_60 : decode cX9_stringAt 60 = .ok (.imul, 1) := by decide +kernel
theorem dX9_stringAt_61 : decode cX9_stringAt 61 = .ok (.iload 5, 2) := by decide +kernel
theorem dX9_stringAt_63 : decode cX9_stringAt 63 = .ok (.iadd, 1) := by decide +kernel
theorem dX9_stringAt_64 : decode cX9_stringAt 64 = .ok (.iaload, 1) := by decide +kernel
theorem dX9_stringAt_65 : decode cX9_stringAt 65 = .ok (.aload_n 0, 1) := by decide +kernel
theorem dX9_stringAt_66 : decode cX9_stringAt 66 = .ok (.getfield 88, 3) := by decide +kernel
theorem dX9_stringAt_69 : decode cX9_stringAt 69 = .ok (.iload_n 1, 1) := by decide +kernel
theorem dX9_stringAt_70 : decode cX9_stringAt 70 = .ok (.iload 5, 2) := by decide +kernel
theorem dX9_stringAt_72 : decode cX9_stringAt 72 = .ok (.iadd, 1) := by decide +kernel
theorem dX9_stringAt_73 : decode cX9_stringAt 73 = .ok (.iaload, 1) := by decide +kernel
theorem dX9_stringAt_74 : decode cX9_stringAt 74 = .ok (.if_icmp .ne 7, 3) := by decide +kernel
theorem dX9_stringAt_77 : decode cX9_stringAt 77 = .ok (.iconst 1, 1) := by decide +kernel
theorem dX9_stringAt_78 : decode cX9_stringAt 78 = .ok (.goto 4, 3) := by decide +kernel
theorem dX9_stringAt_81 : decode cX9_stringAt 81 = .ok (.iconst 0, 1) := by decide +kernel
theorem dX9_stringAt_82 : decode cX9_stringAt 82 = .ok (.istore 4, 2) := by decide +kernel
theorem dX9_stringAt_84 : decode cX9_stringAt 84 = .ok (.iinc 5 1, 3) := by decide +kernel
theorem dX9_stringAt_87 : decode cX9_stringAt 87 = .ok (.goto (-50), 3) := by decide +kernel
theorem dX9_stringAt_90 : decode cX9_stringAt 90 = .ok (.iload 4, 2) := by decide +kernel
theorem dX9_stringAt_92 : decode cX9_stringAt 92 = .ok (.ifCond .eq 26, 3) := by decide +kernel
theorem dX9_stringAt_95 : decode cX9_stringAt 95 = .ok (.iload_n 2, 1) := by decide +kernel
theorem dX9_stringAt_96 : decode cX9_stringAt 96 = .ok (.ifCond .lt 18, 3) := by decide +kernel
theorem dX9_stringAt_99 : decode cX9_stringAt 99 = .ok (.aload_n 0, 1) := by decide +kernel
theorem dX9_stringAt_100 : decode cX9_stringAt 100 = .ok (.getfield 49, 3) := by decide +kernel
theorem dX9_stringAt_103 : decode cX9_stringAt 103 = .ok (.iload_n 3, 1) := by decide +kernel
theorem dX9_stringAt_104 : decode cX9_stringAt 104 = .ok (.iaload, 1) := by decide +kernel
theorem dX9_stringAt_105 : decode cX9_stringAt 105 = .ok (.aload_n 0, 1) := by decide +kernel
theorem dX9_stringAt_106 : decode cX9_stringAt 106 = .ok (.getfield 49, 3) := by decide +kernel
theorem dX9_stringAt_109 : decode cX9_stringAt 109 = .ok (.iload_n 2, 1) := by decide +kernel
theorem dX9_stringAt_110 : decode cX9_stringAt 110 = .ok (.iaload, 1) := by decide +kernel
theorem dX9_stringAt_111 : decode cX9_stringAt 111 = .ok (.if_icmp .le 7, 3) := by decide +kernel
theorem dX9_stringAt_114 : decode cX9_stringAt 114 = .ok (.iload_n 3, 1) := by decide +kernel
theorem dX9_stringAt_115 : decode cX9_stringAt 115 = .ok (.goto 4, 3) := by decide +kernel
theorem dX9_stringAt_118 : decode cX9_stringAt 118 = .ok (.iload_n 2, 1) := by decide +kernel
theorem dX9_stringAt_119 : decode cX9_stringAt 119 = .ok (.istore_n 2, 1) := by decide +kernel
theorem dX9_stringAt_120 : decode cX9_stringAt 120 = .ok (.iinc 3 1, 3) := by decide +kernel
theorem dX9_stringAt_123 : decode cX9_stringAt 123 = .ok (.goto (-119), 3) := by decide +kernel
theorem dX9_stringAt_126 : decode cX9_stringAt 126 = .ok (.iload_n 2, 1) := by decide +kernel
theorem dX9_stringAt_127 : decode cX9_stringAt 127 = .ok (.ireturn, 1) := by decide +kernel
theorem dX9_replacing_0 : decode cX9_replacing 0 = .ok (.aload_n 0, 1) := by decide +kernel
theorem dX9_replacing_1 : decode cX9_replacing 1 = .ok (.iload_n 2, 1) := by decide +kernel
theorem dX9_replacing_2 : decode cX9_replacing 2 = .ok (.invokevirtual 197, 3) := by decide +kernel
theorem dX9_replacing_5 : decode cX9_replacing 5 = .ok (.istore_n 3, 1) := by decide +kernel
theorem dX9_replacing_6 : decode cX9_replacing 6 = .ok (.iload_n 3, 1) := by decide +kernel
theorem dX9_replacing_7 : decode cX9_replacing 7 = .ok (.ifCond .ge 27, 3) := by decide +kernel
theorem dX9_replacing_10 : decode cX9_replacing 10 = .ok (.aload_n 0, 1) := by decide +kernel
theorem dX9_replacing_11 : decode cX9_replacing 11 = .ok (.aload_n 0, 1) := by decide +kernel
theorem dX9_replacing_12 : decode cX9_replacing 12 = .ok (.getfield 88, 3) := by decide +kernel
theorem dX9_replacing_15 : decode cX9_replacing 15 = .ok (.iload_n 2, 1) := by decide +kernel
theorem dX9_replacing_16 : decode cX9_replacing 16 = .ok (.iaload, 1) := by decide +kernel
theorem dX9_replacing_17 : decode cX9_replacing 17 = .ok (.aload_n 0, 1) := by decide +kernel
theorem dX9_replacing_18 : decode cX9_replacing 18 = .ok (.getfield 91, 3) := by decide +kernel
theorem dX9_replacing_21 : decode cX9_replacing 21 = .ok (.iload_n 2, 1) := by decide +kernel
theorem dX9_replacing_22 : decode cX9_replacing 22 = .ok (.iaload, 1) := by decide +kernel
theorem dX9_replacing_23 : decode cX9_replacing 23 = .ok (.aload_n 0, 1) := by decide +kernel
theorem dX9_replacing_24 : decode cX9_replacing 24 = .ok (.getfield 94, 3) := by decide +kernel
theorem dX9_replacing_27 : decode cX9_replacing 27 = .ok (.iload_n 2, 1) := by decide +kernel
theorem dX9_replacing_28 : decode cX9_replacing 28 = .ok (.iaload, 1) := by decide +kernel
theorem dX9_replacing_29 : decode cX9_replacing 29 = .ok (.invokevirtual 187, 3) := by decide +kernel
theorem dX9_replacing_32 : decode cX9_replacing 32 = .ok (.iconst 1, 1) := by decide +kernel
theorem dX9_replacing_33 : decode cX9_replacing 33 = .ok (.ireturn, 1) := by decide +kernel
theorem dX9_replacing_34 : decode cX9_replacing 34 = .ok (.aload_n 0, 1) := by decide +kernel
theorem dX9_replacing_35 : decode cX9_replacing 35 = .ok (.getfield 73, 3) := by decide +kernel
theorem dX9_replacing_38 : decode cX9_replacing 38 = .ok (.iload_n 1, 1) := by decide +kernel
theorem dX9_replacing_39 : decode cX9_replacing 39 = .ok (.dup2, 1) := by decide +kernel
theorem dX9_replacing_40 : decode cX9_replacing 40 = .ok (.iaload, 1) := by decide +kernel
theorem dX9_replacing_41 : decode cX9_replacing 41 = .ok (.iconst 1, 1) := by decide +kernel
theorem dX9_replacing_42 : decode cX9_replacing 42 = .ok (.iadd, 1) := by decide +kernel
theorem dX9_replacing_43 : decode cX9_replacing 43 = .ok (.iastore, 1) := by decide +kernel
theorem dX9_replacing_44 : decode cX9_replacing 44 = .ok (.aload_n 0, 1) := by decide +kernel
theorem dX9_replacing_45 : decode cX9_replacing 45 = .ok (.getfield 94, 3) := by decide +kernel
theorem dX9_replacing_48 : decode cX9_replacing 48 = .ok (.iload_n 2, 1) := by decide +kernel
theorem dX9_replacing_49 : decode cX9_replacing 49 = .ok (.aload_n 0, 1) := by decide +kernel
theorem dX9_replacing_50 : decode cX9_replacing 50 = .ok (.getfield 49, 3) := by decide +kernel
theorem dX9_replacing_53 : decode cX9_replacing 53 = .ok (.iload_n 3, 1) := by decide +kernel
theorem dX9_replacing_54 : decode cX9_replacing 54 = .ok (.iaload, 1) := by decide +kernel
theorem dX9_replacing_55 : decode cX9_replacing 55 = .ok (.iadd, 1) := by decide +kernel
theorem dX9_replacing_56 : decode cX9_replacing 56 = .ok (.iconst 1, 1) := by decide +kernel
theorem dX9_replacing_57 : decode cX9_replacing 57 = .ok (.isub, 1) := by decide +kernel
theorem dX9_replacing_58 : decode cX9_replacing 58 = .ok (.iaload, 1) := by decide +kernel
theorem dX9_replacing_59 : decode cX9_replacing 59 = .ok (.istore 4, 2) := by decide +kernel
theorem dX9_replacing_61 : decode cX9_replacing 61 = .ok (.iconst 0, 1) := by decide +kernel
theorem dX9_replacing_62 : decode cX9_replacing 62 = .ok (.istore 5, 2) := by decide +kernel
theorem dX9_replacing_64 : decode cX9_replacing 64 = .ok (.iload 5, 2) := by decide +kernel
theorem dX9_replacing_66 : decode cX9_replacing 66 = .ok (.aload_n 0, 1) := by decide +kernel
theorem dX9_replacing_67 : decode cX9_replacing 67 = .ok (.getfield 52, 3) := by decide +kernel
theorem dX9_replacing_70 : decode cX9_replacing 70 = .ok (.iload_n 3, 1) := by decide +kernel
theorem dX9_replacing_71 : decode cX9_replacing 71 = .ok (.iaload, 1) := by decide +kernel
theorem dX9_replacing_72 : decode cX9_replacing 72 = .ok (.if_icmp .ge 33, 3) := by decide +kernel
theorem dX9_replacing_75 : decode cX9_replacing 75 = .ok (.aload_n 0, 1) := by decide +kernel
theorem dX9_replacing_76 : decode cX9_replacing 76 = .ok (.aload_n 0, 1) := by decide +kernel
theorem dX9_replacing_77 : decode cX9_replacing 77 = .ok (.getfield 58, 3) := by decide +kernel
theorem dX9_replacing_80 : decode cX9_replacing 80 = .ok (.bipush 100, 2) := by decide +kernel
theorem dX9_replacing_82 : decode cX9_replacing 82 = .ok (.iload_n 3, 1) := by decide +kernel
theorem dX9_replacing_83 : decode cX9_replacing 83 = .ok (.imul, 1) := by decide +kernel
theorem dX9_replacing_84 : decode cX9_replacing 84 = .ok (.iload 5, 2) := by decide +kernel
theorem dX9_replacing_86 : decode cX9_replacing 86 = .ok (.iadd, 1) := by decide +kernel
theorem dX9_replacing_87 : decode cX9_replacing 87 = .ok (.iaload, 1) := by decide +kernel
theorem dX9_replacing_88 : decode cX9_replacing 88 = .ok (.aload_n 0, 1) := by decide +kernel
theorem dX9_replacing_89 : decode cX9_replacing 89 = .ok (.getfield 91, 3) := by decide +kernel
theorem dX9_replacing_92 : decode cX9_replacing 92 = .ok (.iload_n 2, 1) := by decide +kernel
theorem dX9_replacing_93 : decode cX9_replacing 93 = .ok (.iaload, 1) := by decide +kernel
theorem dX9_replacing_94 : decode cX9_replacing 94 = .ok (.iload 4, 2) := by decide +kernel
theorem dX9_replacing_96 : decode cX9_replacing 96 = .ok (.invokevirtual 187, 3) := by decide +kernel
theorem dX9_replacing_99 : decode cX9_replacing 99 = .ok (.iinc 5 1, 3) := by decide +kernel
theorem dX9_replacing_102 : decode cX9_replacing 102 = .ok (.goto (-38), 3) := by decide +kernel
theorem dX9_replacing_105 : decode cX9_replacing 105 = .ok (.aload_n 0, 1) := by decide +kernel
theorem dX9_replacing_106 : decode cX9_replacing 106 = .ok (.getfield 49, 3) := by decide +kernel
theorem dX9_replacing_109 : decode cX9_replacing 109 = .ok (.iload_n 3, 1) := by decide +kernel
theorem dX9_replacing_110 : decode cX9_replacing 110 = .ok (.iaload, 1) := by decide +kernel
theorem dX9_replacing_111 : decode cX9_replacing 111 = .ok (.ireturn, 1) := by decide +kernel
theorem dX9_changed_0 : decode cX9_changed 0 = .ok (.aload_n 0, 1) := by decide +kernel
theorem dX9_changed_1 : decode cX9_changed 1 = .ok (.getfield 88, 3) := by decide +kernel
theorem dX9_changed_4 : decode cX9_changed 4 = .ok (.iload_n 2, 1) := by decide +kernel
theorem dX9_changed_5 : decode cX9_changed 5 = .ok (.iaload, 1) := by decide +kernel
theorem dX9_changed_6 : decode cX9_changed 6 = .ok (.istore_n 3, 1) := by decide +kernel
theorem dX9_changed_7 : decode cX9_changed 7 = .ok (.iload_n 3, 1) := by decide +kernel
theorem dX9_changed_8 : decode cX9_changed 8 = .ok (.istore 4, 2) := by decide +kernel
theorem dX9_changed_10 : decode cX9_changed 10 = .ok (.iconst 0, 1) := by decide +kernel
theorem dX9_changed_11 : decode cX9_changed 11 = .ok (.istore 5, 2) := by decide +kernel
theorem dX9_changed_13 : decode cX9_changed 13 = .ok (.iconst 0, 1) := by decide +kernel
theorem dX9_changed_14 : decode cX9_changed 14 = .ok (.istore 6, 2) := by decide +kernel
theorem dX9_changed_16 : decode cX9_changed 16 = .ok (.aload_n 0, 1) := by decide +kernel
theorem dX9_changed_17 : decode cX9_changed 17 = .ok (.getfield 61, 3) := by decide +kernel
theorem dX9_changed_20 : decode cX9_changed 20 = .ok (.iload_n 1, 1) := by decide +kernel
theorem dX9_changed_21 : decode cX9_changed 21 = .ok (.iaload, 1) := by decide +kernel
theorem dX9_changed_22 : decode cX9_changed 22 = .ok (.iconst 1, 1) := by decide +kernel
theorem dX9_changed_23 : decode cX9_changed 23 = .ok (.isub, 1) := by decide +kernel
theorem dX9_changed_24 : decode cX9_changed 24 = .ok (.tableswitch 141 2 5 #[32, 69, 141, 83], 32) := by decide +kernel
theorem dX9_changed_56 : decode cX9_changed 56 = .ok (.aload_n 0, 1) := by decide +kernel
theorem dX9_changed_57 : decode cX9_changed 57 = .ok (.iload_n 3, 1) := by decide +kernel
theorem dX9_changed_58 : decode cX9_changed 58 = .ok (.invokevirtual 200, 3) := by decide +kernel
theorem dX9_changed_61 : decode cX9_changed 61 = .ok (.ifCond .lt 7, 3) := by decide +kernel
theorem dX9_changed_64 : decode cX9_changed 64 = .ok (.iconst 1, 1) := by decide +kernel
theorem dX9_changed_65 : decode cX9_changed 65 = .ok (.goto 4, 3) := by decide +kernel
theorem dX9_changed_68 : decode cX9_changed 68 = .ok (.iconst 0, 1) := by decide +kernel
theorem dX9_changed_69 : decode cX9_changed 69 = .ok (.istore 6, 2) := by decide +kernel
theorem dX9_changed_71 : decode cX9_changed 71 = .ok (.iload 6, 2) := by decide +kernel
theorem dX9_changed_73 : decode cX9_changed 73 = .ok (.ifCond .eq 14, 3) := by decide +kernel
theorem dX9_changed_76 : decode cX9_changed 76 = .ok (.bipush 48, 2) := by decide +kernel
theorem dX9_changed_78 : decode cX9_changed 78 = .ok (.aload_n 0, 1) := by decide +kernel
theorem dX9_changed_79 : decode cX9_changed 79 = .ok (.iload_n 3, 1) := by decide +kernel
theorem dX9_changed_80 : decode cX9_changed 80 = .ok (.invokevirtual 200, 3) := by decide +kernel
theorem dX9_changed_83 : decode cX9_changed 83 = .ok (.iadd, 1) := by decide +kernel
theorem dX9_changed_84 : decode cX9_changed 84 = .ok (.goto 4, 3) := by decide +kernel
theorem dX9_changed_87 : decode cX9_changed 87 = .ok (.iload_n 3, 1) := by decide +kernel
theorem dX9_changed_88 : decode cX9_changed 88 = .ok (.istore 4, 2) := by decide +kernel
theorem dX9_changed_90 : decode cX9_changed 90 = .ok (.goto 127, 3) := by decide +kernel
theorem dX9_changed_93 : decode cX9_changed 93 = .ok (.aload_n 0, 1) := by decide +kernel
theorem dX9_changed_94 : decode cX9_changed 94 = .ok (.iload_n 3, 1) := by decide +kernel
theorem dX9_changed_95 : decode cX9_changed 95 = .ok (.invokevirtual 203, 3) := by decide +kernel
theorem dX9_changed_98 : decode cX9_changed 98 = .ok (.istore 6, 2) := by decide +kernel
theorem dX9_changed_100 : decode cX9_changed 100 = .ok (.iload 6, 2) := by decide +kernel
theorem dX9_changed_102 : decode cX9_changed 102 = .ok (.istore 5, 2) := by decide +kernel
theorem dX9_changed_104 : decode cX9_changed 104 = .ok (.goto 113, 3) := by decide +kernel
theorem dX9_changed_107 : decode cX9_changed 107 = .ok (.iload_n 3, 1) := by decide +kernel
theorem dX9_changed_108 : decode cX9_changed 108 = .ok (.ldc 115, 2) := by decide +kernel
theorem dX9_changed_110 : decode cX9_changed 110 = .ok (.ldc 118, 2) := by decide +kernel
theorem dX9_changed_112 : decode cX9_changed 112 = .ok (.invokestatic 111, 3) := by decide +kernel
theorem dX9_changed_115 : decode cX9_changed 115 = .ok (.istore 6, 2) := by decide +kernel
theorem dX9_changed_117 : decode cX9_changed 117 = .ok (.iload 6, 2) := by decide +kernel
theorem dX9_changed_119 : decode cX9_changed 119 = .ok (.ifCond .eq 18, 3) := by decide +kernel
theorem dX9_changed_122 : decode cX9_changed 122 = .ok (.aload_n 0, 1) := by decide +kernel
theorem dX9_changed_123 : decode cX9_changed 123 = .ok (.getfield 64, 3) := by decide +kernel
theorem dX9_changed_126 : decode cX9_changed 126 = .ok (.iload_n 1, 1) := by decide +kernel
theorem dX9_changed_127 : decode cX9_changed 127 = .ok (.iaload, 1) := by decide +kernel
theorem dX9_changed_128 : decode cX9_changed 128 = .ok (.iconst 1, 1) := by decide +kernel
theorem dX9_changed_129 : decode cX9_changed 129 = .ok (.if_icmp .ne 8, 3) := by decide +kernel
theorem dX9_changed_132 : decode cX9_changed 132 = .ok (.ldc 206, 2) := by decide +kernel
theorem dX9_changed_134 : decode cX9_changed 134 = .ok (.goto 4, 3) := by decide +kernel
theorem dX9_changed_137 : decode cX9_changed 137 = .ok (.iload_n 3, 1) := by decide +kernel
theorem dX9_changed_138 : decode cX9_changed 138 = .ok (.istore 4, 2) := by decide +kernel
theorem dX9_changed_140 : decode cX9_changed 140 = .ok (.iload 6, 2) := by decide +kernel
theorem dX9_changed_142 : decode cX9_changed 142 = .ok (.ifCond .eq 17, 3) := by decide +kernel
theorem dX9_changed_145 : decode cX9_changed 145 = .ok (.aload_n 0, 1) := by decide +kernel
theorem dX9_changed_146 : decode cX9_changed 146 = .ok (.getfield 64, 3) := by decide +kernel
theorem dX9_changed_149 : decode cX9_changed 149 = .ok (.iload_n 1, 1) := by decide +kernel
theorem dX9_changed_150 : decode cX9_changed 150 = .ok (.iaload, 1) := by decide +kernel
theorem dX9_changed_151 : decode cX9_changed 151 = .ok (.iconst 2, 1) := by decide +kernel
theorem dX9_changed_152 : decode cX9_changed 152 = .ok (.if_icmp .ne 7, 3) := by decide +kernel
theorem dX9_changed_155 : decode cX9_changed 155 = .ok (.iconst 1, 1) := by decide +kernel
theorem dX9_changed_156 : decode cX9_changed 156 = .ok (.goto 4, 3) := by decide +kernel
theorem dX9_changed_159 : decode cX9_changed 159 = .ok (.iconst 0, 1) := by decide +kernel
theorem dX9_changed_160 : decode cX9_changed 160 = .ok (.istore 5, 2) := by decide +kernel
theorem dX9_changed_162 : decode cX9_changed 162 = .ok (.goto 55, 3) := by decide +kernel
theorem dX9_changed_165 : decode cX9_changed 165 = .ok (.iload_n 3, 1) := by decide +kernel
theorem dX9_changed_166 : decode cX9_changed 166 = .ok (.ldc 207, 2) := by decide +kernel
theorem dX9_changed_168 : decode cX9_changed 168 = .ok (.ldc 208, 2) := by decide +kernel
theorem dX9_changed_170 : decode cX9_changed 170 = .ok (.invokestatic 111, 3) := by decide +kernel
theorem dX9_changed_173 : decode cX9_changed 173 = .ok (.ifCond .ne 10, 3) := by decide +kernel
theorem dX9_changed_176 : decode cX9_changed 176 = .ok (.iload_n 3, 1) := by decide +kernel
theorem dX9_changed_177 : decode cX9_changed 177 = .ok (.sipush 12288, 3) := by decide +kernel
theorem dX9_changed_180 : decode cX9_changed 180 = .ok (.if_icmp .ne 7, 3) := by decide +kernel
theorem dX9_changed_183 : decode cX9_changed 183 = .ok (.iconst 1, 1) := by decide +kernel
theorem dX9_changed_184 : decode cX9_changed 184 = .ok (.goto 4, 3) := by decide +kernel
theorem dX9_changed_187 : decode cX9_changed 187 = .ok (.iconst 0, 1) := by decide +kernel
theorem dX9_changed_188 : decode cX9_changed 188 = .ok (.istore 6, 2) := by decide +kernel
theorem dX9_changed_190 : decode cX9_changed 190 = .ok (.iload 6, 2) := by decide +kernel
theorem dX9_changed_192 : decode cX9_changed 192 = .ok (.ifCond .ne 7, 3) := by decide +kernel
theorem dX9_changed_195 : decode cX9_changed 195 = .ok (.iload_n 3, 1) := by decide +kernel
theorem dX9_changed_196 : decode cX9_changed 196 = .ok (.goto 19, 3) := by decide +kernel
theorem dX9_changed_199 : decode cX9_changed 199 = .ok (.iload_n 3, 1) := by decide +kernel
theorem dX9_changed_200 : decode cX9_changed 200 = .ok (.sipush 12288, 3) := by decide +kernel
theorem dX9_changed_203 : decode cX9_changed 203 = .ok (.if_icmp .ne 8, 3) := by decide +kernel
theorem dX9_changed_206 : decode cX9_changed 206 = .ok (.bipush 32, 2) := by decide +kernel
theorem dX9_changed_208 : decode cX9_changed 208 = .ok (.goto 7, 3) := by decide +kernel
theorem dX9_changed_211 : decode cX9_changed 211 = .ok (.iload_n 3, 1) := by decide +kernel
theorem dX9_changed_212 : decode cX9_changed 212 = .ok (.ldc 209, 2) := by decide +kernel
theorem dX9_changed_214 : decode cX9_changed 214 = .ok (.isub, 1) := by decide +kernel
theorem dX9_changed_215 : decode cX9_changed 215 = .ok (.istore 4, 2) := by decide +kernel
theorem dX9_changed_217 : decode cX9_changed 217 = .ok (.aload_n 0, 1) := by decide +kernel
theorem dX9_changed_218 : decode cX9_changed 218 = .ok (.getfield 73, 3) := by decide +kernel
theorem dX9_changed_221 : decode cX9_changed 221 = .ok (.iload_n 1, 1) := by decide +kernel
theorem dX9_changed_222 : decode cX9_changed 222 = .ok (.dup2, 1) := by decide +kernel
theorem dX9_changed_223 : decode cX9_changed 223 = .ok (.iaload, 1) := by decide +kernel
theorem dX9_changed_224 : decode cX9_changed 224 = .ok (.iload 6, 2) := by decide +kernel
theorem dX9_changed_226 : decode cX9_changed 226 = .ok (.ifCond .eq 7, 3) := by decide +kernel
theorem dX9_changed_229 : decode cX9_changed 229 = .ok (.iconst 1, 1) := by decide +kernel
theorem dX9_changed_230 : decode cX9_changed 230 = .ok (.goto 4, 3) := by decide +kernel
theorem dX9_changed_233 : decode cX9_changed 233 = .ok (.iconst 0, 1) := by decide +kernel
theorem dX9_changed_234 : decode cX9_changed 234 = .ok (.iadd, 1) := by decide +kernel
theorem dX9_changed_235 : decode cX9_changed 235 = .ok (.iastore, 1) := by decide +kernel
theorem dX9_changed_236 : decode cX9_changed 236 = .ok (.iload 5, 2) := by decide +kernel
theorem dX9_changed_238 : decode cX9_changed 238 = .ok (.ifCond .ne 21, 3) := by decide +kernel
theorem dX9_changed_241 : decode cX9_changed 241 = .ok (.aload_n 0, 1) := by decide +kernel
theorem dX9_changed_242 : decode cX9_changed 242 = .ok (.iload 4, 2) := by decide +kernel
theorem dX9_changed_244 : decode cX9_changed 244 = .ok (.aload_n 0, 1) := by decide +kernel
theorem dX9_changed_245 : decode cX9_changed 245 = .ok (.getfield 91, 3) := by decide +kernel
theorem dX9_changed_248 : decode cX9_changed 248 = .ok (.iload_n 2, 1) := by decide +kernel
theorem dX9_changed_249 : decode cX9_changed 249 = .ok (.iaload, 1) := by decide +kernel
theorem dX9_changed_250 : decode cX9_changed 250 = .ok (.aload_n 0, 1) := by decide +kernel
theorem dX9_changed_251 : decode cX9_changed 251 = .ok (.getfield 94, 3) := by decide +kernel
theorem dX9_changed_254 : decode cX9_changed 254 = .ok (.iload_n 2, 1) := by decide +kernel
theorem dX9_changed_255 : decode cX9_changed 255 = .ok (.iaload, 1) := by decide +kernel
theorem dX9_changed_256 : decode cX9_changed 256 = .ok (.invokevirtual 187, 3) := by decide +kernel
theorem dX9_changed_259 : decode cX9_changed 259 = .ok (.return_, 1) := by decide +kernel
theorem dX9_goesThrough_0 : decode cX9_goesThrough 0 = .ok (.aload_n 0, 1) := by decide +kernel
theorem dX9_goesThrough_1 : decode cX9_goesThrough 1 = .ok (.iconst 0, 1) := by decide +kernel
theorem dX9_goesThrough_2 : decode cX9_goesThrough 2 = .ok (.putfield 184, 3) := by decide +kernel
theorem dX9_goesThrough_5 : decode cX9_goesThrough 5 = .ok (.iconst 0, 1) := by decide +kernel
theorem dX9_goesThrough_6 : decode cX9_goesThrough 6 = .ok (.istore_n 2, 1) := by decide +kernel
theorem dX9_goesThrough_7 : decode cX9_goesThrough 7 = .ok (.iload_n 2, 1) := by decide +kernel
theorem dX9_goesThrough_8 : decode cX9_goesThrough 8 = .ok (.aload_n 0, 1) := by decide +kernel
theorem dX9_goesThrough_9 : decode cX9_goesThrough 9 = .ok (.getfield 194, 3) := by decide +kernel
theorem dX9_goesThrough_12 : decode cX9_goesThrough 12 = .ok (.if_icmp .ge 89, 3) := by decide +kernel
theorem dX9_goesThrough_15 : decode cX9_goesThrough 15 = .ok (.iconst 1, 1) := by decide +kernel
theorem dX9_goesThrough_16 : decode cX9_goesThrough 16 = .ok (.istore_n 3, 1) := by decide +kernel
theorem dX9_goesThrough_17 : decode cX9_goesThrough 17 = .ok (.aload_n 0, 1) := by decide +kernel
theorem dX9_goesThrough_18 : decode cX9_goesThrough 18 = .ok (.getfield 61, 3) := by decide +kernel
theorem dX9_goesThrough_21 : decode cX9_goesThrough 21 = .ok (.iload_n 1, 1) := by decide +kernel
theorem dX9_goesThrough_22 : decode cX9_goesThrough 22 = .ok (.iaload, 1) := by decide +kernel
theorem dX9_goesThrough_23 : decode cX9_goesThrough 23 = .ok (.iconst 1, 1) := by decide +kernel
theorem dX9_goesThrough_24 : decode cX9_goesThrough 24 = .ok (.isub, 1) := by decide +kernel
theorem dX9_goesThrough_25 : decode cX9_goesThrough 25 = .ok (.tableswitch 63 0 4 #[35, 44, 63, 63, 53], 35) := by decide +kernel
theorem dX9_goesThrough_60 : decode cX9_goesThrough 60 = .ok (.aload_n 0, 1) := by decide +kernel
theorem dX9_goesThrough_61 : decode cX9_goesThrough 61 = .ok (.iload_n 1, 1) := by decide +kernel
theorem dX9_goesThrough_62 : decode cX9_goesThrough 62 = .ok (.iload_n 2, 1) := by decide +kernel
theorem dX9_goesThrough_63 : decode cX9_goesThrough 63 = .ok (.invokevirtual 210, 3) := by decide +kernel
theorem dX9_goesThrough_66 : decode cX9_goesThrough 66 = .ok (.goto 28, 3) := by decide +kernel
theorem dX9_goesThrough_69 : decode cX9_goesThrough 69 = .ok (.aload_n 0, 1) := by decide +kernel
theorem dX9_goesThrough_70 : decode cX9_goesThrough 70 = .ok (.iload_n 1, 1) := by decide +kernel
theorem dX9_goesThrough_71 : decode cX9_goesThrough 71 = .ok (.iload_n 2, 1) := by decide +kernel
theorem dX9_goesThrough_72 : decode cX9_goesThrough 72 = .ok (.invokevirtual 214, 3) := by decide +kernel
theorem dX9_goesThrough_75 : decode cX9_goesThrough 75 = .ok (.goto 19, 3) := by decide +kernel
theorem dX9_goesThrough_78 : decode cX9_goesThrough 78 = .ok (.aload_n 0, 1) := by decide +kernel
theorem dX9_goesThrough_79 : decode cX9_goesThrough 79 = .ok (.iload_n 1, 1) := by decide +kernel
theorem dX9_goesThrough_80 : decode cX9_goesThrough 80 = .ok (.iload_n 2, 1) := by decide +kernel
theorem dX9_goesThrough_81 : decode cX9_goesThrough 81 = .ok (.invokevirtual 217, 3) := by decide +kernel
theorem dX9_goesThrough_84 : decode cX9_goesThrough 84 = .ok (.istore_n 3, 1) := by decide +kernel
theorem dX9_goesThrough_85 : decode cX9_goesThrough 85 = .ok (.goto 9, 3) := by decide +kernel
theorem dX9_goesThrough_88 : decode cX9_goesThrough 88 = .ok (.aload_n 0, 1) := by decide +kernel
theorem dX9_goesThrough_89 : decode cX9_goesThrough 89 = .ok (.iload_n 1, 1) := by decide +kernel
theorem dX9_goesThrough_90 : decode cX9_goesThrough 90 = .ok (.iload_n 2, 1) := by decide +kernel
theorem dX9_goesThrough_91 : decode cX9_goesThrough 91 = .ok (.invokevirtual 220, 3) := by decide +kernel
theorem dX9_goesThrough_94 : decode cX9_goesThrough 94 = .ok (.iload_n 2, 1) := by decide +kernel
theorem dX9_goesThrough_95 : decode cX9_goesThrough 95 = .ok (.iload_n 3, 1) := by decide +kernel
theorem dX9_goesThrough_96 : decode cX9_goesThrough 96 = .ok (.iadd, 1) := by decide +kernel
theorem dX9_goesThrough_97 : decode cX9_goesThrough 97 = .ok (.istore_n 2, 1) := by decide +kernel
theorem dX9_goesThrough_98 : decode cX9_goesThrough 98 = .ok (.goto (-91), 3) := by decide +kernel
theorem dX9_goesThrough_101 : decode cX9_goesThrough 101 = .ok (.aload_n 0, 1) := by decide +kernel
theorem dX9_goesThrough_102 : decode cX9_goesThrough 102 = .ok (.getfield 184, 3) := by decide +kernel
theorem dX9_goesThrough_105 : decode cX9_goesThrough 105 = .ok (.sipush 300, 3) := by decide +kernel
theorem dX9_goesThrough_108 : decode cX9_goesThrough 108 = .ok (.if_icmp .le 5, 3) := by decide +kernel
theorem dX9_goesThrough_111 : decode cX9_goesThrough 111 = .ok (.iconst 0, 1) := by decide +kernel
theorem dX9_goesThrough_112 : decode cX9_goesThrough 112 = .ok (.ireturn, 1) := by decide +kernel
theorem dX9_goesThrough_113 : decode cX9_goesThrough 113 = .ok (.aload_n 0, 1) := by decide +kernel
theorem dX9_goesThrough_114 : decode cX9_goesThrough 114 = .ok (.aload_n 0, 1) := by decide +kernel
theorem dX9_goesThrough_115 : decode cX9_goesThrough 115 = .ok (.getfield 184, 3) := by decide +kernel
theorem dX9_goesThrough_118 : decode cX9_goesThrough 118 = .ok (.putfield 194, 3) := by decide +kernel
theorem dX9_goesThrough_121 : decode cX9_goesThrough 121 = .ok (.iconst 0, 1) := by decide +kernel
theorem dX9_goesThrough_122 : decode cX9_goesThrough 122 = .ok (.istore_n 3, 1) := by decide +kernel
theorem dX9_goesThrough_123 : decode cX9_goesThrough 123 = .ok (.iload_n 3, 1) := by decide +kernel
theorem dX9_goesThrough_124 : decode cX9_goesThrough 124 = .ok (.aload_n 0, 1) := by decide +kernel
theorem dX9_goesThrough_125 : decode cX9_goesThrough 125 = .ok (.getfield 184, 3) := by decide +kernel
theorem dX9_goesThrough_128 : decode cX9_goesThrough 128 = .ok (.if_icmp .ge 45, 3) := by decide +kernel
theorem dX9_goesThrough_131 : decode cX9_goesThrough 131 = .ok (.aload_n 0, 1) := by decide +kernel
theorem dX9_goesThrough_132 : decode cX9_goesThrough 132 = .ok (.getfield 88, 3) := by decide +kernel
theorem dX9_goesThrough_135 : decode cX9_goesThrough 135 = .ok (.iload_n 3, 1) := by decide +kernel
theorem dX9_goesThrough_136 : decode cX9_goesThrough 136 = .ok (.aload_n 0, 1) := by decide +kernel
theorem dX9_goesThrough_137 : decode cX9_goesThrough 137 = .ok (.getfield 97, 3) := by decide +kernel
theorem dX9_goesThrough_140 : decode cX9_goesThrough 140 = .ok (.iload_n 3, 1) := by decide +kernel
theorem dX9_goesThrough_141 : decode cX9_goesThrough 141 = .ok (.iaload, 1) := by decide +kernel
theorem dX9_goesThrough_142 : decode cX9_goesThrough 142 = .ok (.iastore, 1) := by decide +kernel
theorem dX9_goesThrough_143 : decode cX9_goesThrough 143 = .ok (.aload_n 0, 1) := by decide +kernel
theorem dX9_goesThrough_144 : decode cX9_goesThrough 144 = .ok (.getfield 91, 3) := by decide +kernel
theorem dX9_goesThrough_147 : decode cX9_goesThrough 147 = .ok (.iload_n 3, 1) := by decide +kernel
theorem dX9_goesThrough_148 : decode cX9_goesThrough 148 = .ok (.aload_n 0, 1) := by decide +kernel
theorem dX9_goesThrough_149 : decode cX9_goesThrough 149 = .ok (.getfield 100, 3) := by decide +kernel
theorem dX9_goesThrough_152 : decode cX9_goesThrough 152 = .ok (.iload_n 3, 1) := by decide +kernel
theorem dX9_goesThrough_153 : decode cX9_goesThrough 153 = .ok (.iaload, 1) := by decide +kernel
theorem dX9_goesThrough_154 : decode cX9_goesThrough 154 = .ok (.iastore, 1) := by decide +kernel
theorem dX9_goesThrough_155 : decode cX9_goesThrough 155 = .ok (.aload_n 0, 1) := by decide +kernel
theorem dX9_goesThrough_156 : decode cX9_goesThrough 156 = .ok (.getfield 94, 3) := by decide +kernel
theorem dX9_goesThrough_159 : decode cX9_goesThrough 159 = .ok (.iload_n 3, 1) := by decide +kernel
theorem dX9_goesThrough_160 : decode cX9_goesThrough 160 = .ok (.aload_n 0, 1) := by decide +kernel
theorem dX9_goesThrough_161 : decode cX9_goesThrough 161 = .ok (.getfield 103, 3) := by decide +kernel
theorem dX9_goesThrough_164 : decode cX9_goesThrough 164 = .ok (.iload_n 3, 1) := by decide +kernel
theorem dX9_goesThrough_165 : decode cX9_goesThrough 165 = .ok (.iaload, 1) := by decide +kernel
theorem dX9_goesThrough_166 : decode cX9_goesThrough 166 = .ok (.iastore, 1) := by decide +kernel
theorem dX9_goesThrough_167 : decode cX9_goesThrough 167 = .ok (.iinc 3 1, 3) := by decide +kernel
theorem dX9_goesThrough_170 : decode cX9_goesThrough 170 = .ok (.goto (-47), 3) := by decide +kernel
theorem dX9_goesThrough_173 : decode cX9_goesThrough 173 = .ok (.iconst 1, 1) := by decide +kernel
theorem dX9_goesThrough_174 : decode cX9_goesThrough 174 = .ok (.ireturn, 1) := by decide +kernel
theorem dX9_run_0 : decode cX9_run 0 = .ok (.aload_n 0, 1) := by decide +kernel
theorem dX9_run_1 : decode cX9_run 1 = .ok (.aload_n 0, 1) := by decide +kernel
theorem dX9_run_2 : decode cX9_run 2 = .ok (.getfield 135, 3) := by decide +kernel
theorem dX9_run_5 : decode cX9_run 5 = .ok (.putfield 194, 3) := by decide +kernel
theorem dX9_run_8 : decode cX9_run 8 = .ok (.iconst 0, 1) := by decide +kernel
theorem dX9_run_9 : decode cX9_run 9 = .ok (.istore_n 1, 1) := by decide +kernel
theorem dX9_run_10 : decode cX9_run 10 = .ok (.iload_n 1, 1) := by decide +kernel
theorem dX9_run_11 : decode cX9_run 11 = .ok (.aload_n 0, 1) := by decide +kernel
theorem dX9_run_12 : decode cX9_run 12 = .ok (.getfield 135, 3) := by decide +kernel
theorem dX9_run_15 : decode cX9_run 15 = .ok (.if_icmp .ge 45, 3) := by decide +kernel
theorem dX9_run_18 : decode cX9_run 18 = .ok (.aload_n 0, 1) := by decide +kernel
theorem dX9_run_19 : decode cX9_run 19 = .ok (.getfield 88, 3) := by decide +kernel
theorem dX9_run_22 : decode cX9_run 22 = .ok (.iload_n 1, 1) := by decide +kernel
theorem dX9_run_23 : decode cX9_run 23 = .ok (.aload_n 0, 1) := by decide +kernel
theorem dX9_run_24 : decode cX9_run 24 = .ok (.getfield 13, 3) := by decide +kernel
theorem dX9_run_27 : decode cX9_run 27 = .ok (.iload_n 1, 1) := by decide +kernel
theorem dX9_run_28 : decode cX9_run 28 = .ok (.iaload, 1) := by decide +kernel
theorem dX9_run_29 : decode cX9_run 29 = .ok (.iastore, 1) := by decide +kernel
theorem dX9_run_30 : decode cX9_run 30 = .ok (.aload_n 0, 1) := by decide +kernel
theorem dX9_run_31 : decode cX9_run 31 = .ok (.getfield 91, 3) := by decide +kernel
theorem dX9_run_34 : decode cX9_run 34 = .ok (.iload_n 1, 1) := by decide +kernel
theorem dX9_run_35 : decode cX9_run 35 = .ok (.aload_n 0, 1) := by decide +kernel
theorem dX9_run_36 : decode cX9_run 36 = .ok (.getfield 16, 3) := by decide +kernel
theorem dX9_run_39 : decode cX9_run 39 = .ok (.iload_n 1, 1) := by decide +kernel
theorem dX9_run_40 : decode cX9_run 40 = .ok (.iaload, 1) := by decide +kernel
theorem dX9_run_41 : decode cX9_run 41 = .ok (.iastore, 1) := by decide +kernel
theorem dX9_run_42 : decode cX9_run 42 = .ok (.aload_n 0, 1) := by decide +kernel
theorem dX9_run_43 : decode cX9_run 43 = .ok (.getfield 94, 3) := by decide +kernel
theorem dX9_run_46 : decode cX9_run 46 = .ok (.iload_n 1, 1) := by decide +kernel
theorem dX9_run_47 : decode cX9_run 47 = .ok (.aload_n 0, 1) := by decide +kernel
theorem dX9_run_48 : decode cX9_run 48 = .ok (.getfield 19, 3) := by decide +kernel
theorem dX9_run_51 : decode cX9_run 51 = .ok (.iload_n 1, 1) := by decide +kernel
theorem dX9_run_52 : decode cX9_run 52 = .ok (.iaload, 1) := by decide +kernel
theorem dX9_run_53 : decode cX9_run 53 = .ok (.iastore, 1) := by decide +kernel
theorem dX9_run_54 : decode cX9_run 54 = .ok (.iinc 1 1, 3) := by decide +kernel
theorem dX9_run_57 : decode cX9_run 57 = .ok (.goto (-47), 3) := by decide +kernel
theorem dX9_run_60 : decode cX9_run 60 = .ok (.iconst 0, 1) := by decide +kernel
theorem dX9_run_61 : decode cX9_run 61 = .ok (.istore_n 1, 1) := by decide +kernel
theorem dX9_run_62 : decode cX9_run 62 = .ok (.iload_n 1, 1) := by decide +kernel
theorem dX9_run_63 : decode cX9_run 63 = .ok (.bipush 8, 2) := by decide +kernel
theorem dX9_run_65 : decode cX9_run 65 = .ok (.if_icmp .ge 43, 3) := by decide +kernel
theorem dX9_run_68 : decode cX9_run 68 = .ok (.aload_n 0, 1) := by decide +kernel
theorem dX9_run_69 : decode cX9_run 69 = .ok (.getfield 73, 3) := by decide +kernel
theorem dX9_run_72 : decode cX9_run 72 = .ok (.iload_n 1, 1) := by decide +kernel
theorem dX9_run_73 : decode cX9_run 73 = .ok (.iconst 0, 1) := by decide +kernel
theorem dX9_run_74 : decode cX9_run 74 = .ok (.iastore, 1) := by decide +kernel
theorem dX9_run_75 : decode cX9_run 75 = .ok (.aload_n 0, 1) := by decide +kernel
theorem dX9_run_76 : decode cX9_run 76 = .ok (.getfield 76, 3) := by decide +kernel
theorem dX9_run_79 : decode cX9_run 79 = .ok (.iload_n 1, 1) := by decide +kernel
theorem dX9_run_80 : decode cX9_run 80 = .ok (.iconst 0, 1) := by decide +kernel
theorem dX9_run_81 : decode cX9_run 81 = .ok (.iastore, 1) := by decide +kernel
theorem dX9_run_82 : decode cX9_run 82 = .ok (.aload_n 0, 1) := by decide +kernel
theorem dX9_run_83 : decode cX9_run 83 = .ok (.getfield 61, 3) := by decide +kernel
theorem dX9_run_86 : decode cX9_run 86 = .ok (.iload_n 1, 1) := by decide +kernel
theorem dX9_run_87 : decode cX9_run 87 = .ok (.iaload, 1) := by decide +kernel
theorem dX9_run_88 : decode cX9_run 88 = .ok (.ifCond .le 14, 3) := by decide +kernel
theorem dX9_run_91 : decode cX9_run 91 = .ok (.aload_n 0, 1) := by decide +kernel
theorem dX9_run_92 : decode cX9_run 92 = .ok (.iload_n 1, 1) := by decide +kernel
theorem dX9_run_93 : decode cX9_run 93 = .ok (.invokevirtual 223, 3) := by decide +kernel
theorem dX9_run_96 : decode cX9_run 96 = .ok (.ifCond .ne 6, 3) := by decide +kernel
theorem dX9_run_99 : decode cX9_run 99 = .ok (.bipush (-3), 2) := by decide +kernel
theorem dX9_run_101 : decode cX9_run 101 = .ok (.ireturn, 1) := by decide +kernel
theorem dX9_run_102 : decode cX9_run 102 = .ok (.iinc 1 1, 3) := by decide +kernel
theorem dX9_run_105 : decode cX9_run 105 = .ok (.goto (-43), 3) := by decide +kernel
theorem dX9_run_108 : decode cX9_run 108 = .ok (.iconst 0, 1) := by decide +kernel
theorem dX9_run_109 : decode cX9_run 109 = .ok (.istore_n 1, 1) := by decide +kernel
theorem dX9_run_110 : decode cX9_run 110 = .ok (.iload_n 1, 1) := by decide +kernel
theorem dX9_run_111 : decode cX9_run 111 = .ok (.bipush 8, 2) := by decide +kernel
theorem dX9_run_113 : decode cX9_run 113 = .ok (.if_icmp .ge 33, 3) := by decide +kernel
theorem dX9_run_116 : decode cX9_run 116 = .ok (.aload_n 0, 1) := by decide +kernel
theorem dX9_run_117 : decode cX9_run 117 = .ok (.getfield 67, 3) := by decide +kernel
theorem dX9_run_120 : decode cX9_run 120 = .ok (.iload_n 1, 1) := by decide +kernel
theorem dX9_run_121 : decode cX9_run 121 = .ok (.aload_n 0, 1) := by decide +kernel
theorem dX9_run_122 : decode cX9_run 122 = .ok (.getfield 73, 3) := by decide +kernel
theorem dX9_run_125 : decode cX9_run 125 = .ok (.iload_n 1, 1) := by decide +kernel
theorem dX9_run_126 : decode cX9_run 126 = .ok (.iaload, 1) := by decide +kernel
theorem dX9_run_127 : decode cX9_run 127 = .ok (.iastore, 1) := by decide +kernel
theorem dX9_run_128 : decode cX9_run 128 = .ok (.aload_n 0, 1) := by decide +kernel
theorem dX9_run_129 : decode cX9_run 129 = .ok (.getfield 70, 3) := by decide +kernel
theorem dX9_run_132 : decode cX9_run 132 = .ok (.iload_n 1, 1) := by decide +kernel
theorem dX9_run_133 : decode cX9_run 133 = .ok (.aload_n 0, 1) := by decide +kernel
theorem dX9_run_134 : decode cX9_run 134 = .ok (.getfield 76, 3) := by decide +kernel
theorem dX9_run_137 : decode cX9_run 137 = .ok (.iload_n 1, 1) := by decide +kernel
theorem dX9_run_138 : decode cX9_run 138 = .ok (.iaload, 1) := by decide +kernel
theorem dX9_run_139 : decode cX9_run 139 = .ok (.iastore, 1) := by decide +kernel
theorem dX9_run_140 : decode cX9_run 140 = .ok (.iinc 1 1, 3) := by decide +kernel
theorem dX9_run_143 : decode cX9_run 143 = .ok (.goto (-33), 3) := by decide +kernel
theorem dX9_run_146 : decode cX9_run 146 = .ok (.aload_n 0, 1) := by decide +kernel
theorem dX9_run_147 : decode cX9_run 147 = .ok (.aload_n 0, 1) := by decide +kernel
theorem dX9_run_148 : decode cX9_run 148 = .ok (.getfield 194, 3) := by decide +kernel
theorem dX9_run_151 : decode cX9_run 151 = .ok (.putfield 226, 3) := by decide +kernel
theorem dX9_run_154 : decode cX9_run 154 = .ok (.iconst 0, 1) := by decide +kernel
theorem dX9_run_155 : decode cX9_run 155 = .ok (.istore_n 1, 1) := by decide +kernel
theorem dX9_run_156 : decode cX9_run 156 = .ok (.iload_n 1, 1) := by decide +kernel
theorem dX9_run_157 : decode cX9_run 157 = .ok (.aload_n 0, 1) := by decide +kernel
theorem dX9_run_158 : decode cX9_run 158 = .ok (.getfield 194, 3) := by decide +kernel
theorem dX9_run_161 : decode cX9_run 161 = .ok (.if_icmp .ge 45, 3) := by decide +kernel
theorem dX9_run_164 : decode cX9_run 164 = .ok (.aload_n 0, 1) := by decide +kernel
theorem dX9_run_165 : decode cX9_run 165 = .ok (.getfield 79, 3) := by decide +kernel
theorem dX9_run_168 : decode cX9_run 168 = .ok (.iload_n 1, 1) := by decide +kernel
theorem dX9_run_169 : decode cX9_run 169 = .ok (.aload_n 0, 1) := by decide +kernel
theorem dX9_run_170 : decode cX9_run 170 = .ok (.getfield 88, 3) := by decide +kernel
theorem dX9_run_173 : decode cX9_run 173 = .ok (.iload_n 1, 1) := by decide +kernel
theorem dX9_run_174 : decode cX9_run 174 = .ok (.iaload, 1) := by decide +kernel
theorem dX9_run_175 : decode cX9_run 175 = .ok (.iastore, 1) := by decide +kernel
theorem dX9_run_176 : decode cX9_run 176 = .ok (.aload_n 0, 1) := by decide +kernel
theorem dX9_run_177 : decode cX9_run 177 = .ok (.getfield 82, 3) := by decide +kernel
theorem dX9_run_180 : decode cX9_run 180 = .ok (.iload_n 1, 1) := by decide +kernel
theorem dX9_run_181 : decode cX9_run 181 = .ok (.aload_n 0, 1) := by decide +kernel
theorem dX9_run_182 : decode cX9_run 182 = .ok (.getfield 91, 3) := by decide +kernel
theorem dX9_run_185 : decode cX9_run 185 = .ok (.iload_n 1, 1) := by decide +kernel
theorem dX9_run_186 : decode cX9_run 186 = .ok (.iaload, 1) := by decide +kernel
theorem dX9_run_187 : decode cX9_run 187 = .ok (.iastore, 1) := by decide +kernel
theorem dX9_run_188 : decode cX9_run 188 = .ok (.aload_n 0, 1) := by decide +kernel
theorem dX9_run_189 : decode cX9_run 189 = .ok (.getfield 85, 3) := by decide +kernel
theorem dX9_run_192 : decode cX9_run 192 = .ok (.iload_n 1, 1) := by decide +kernel
theorem dX9_run_193 : decode cX9_run 193 = .ok (.aload_n 0, 1) := by decide +kernel
theorem dX9_run_194 : decode cX9_run 194 = .ok (.getfield 94, 3) := by decide +kernel
theorem dX9_run_197 : decode cX9_run 197 = .ok (.iload_n 1, 1) := by decide +kernel
theorem dX9_run_198 : decode cX9_run 198 = .ok (.iaload, 1) := by decide +kernel
theorem dX9_run_199 : decode cX9_run 199 = .ok (.iastore, 1) := by decide +kernel
theorem dX9_run_200 : decode cX9_run 200 = .ok (.iinc 1 1, 3) := by decide +kernel
theorem dX9_run_203 : decode cX9_run 203 = .ok (.goto (-47), 3) := by decide +kernel
theorem dX9_run_206 : decode cX9_run 206 = .ok (.aload_n 0, 1) := by decide +kernel
theorem dX9_run_207 : decode cX9_run 207 = .ok (.getfield 226, 3) := by decide +kernel
theorem dX9_run_210 : decode cX9_run 210 = .ok (.ireturn, 1) := by decide +kernel
theorem dX9_isOut_0 : decode cX9_isOut 0 = .ok (.iload_n 1, 1) := by decide +kernel
theorem dX9_isOut_1 : decode cX9_isOut 1 = .ok (.iconst 0, 1) := by decide +kernel
theorem dX9_isOut_2 : decode cX9_isOut 2 = .ok (.aload_n 0, 1) := by decide +kernel
theorem dX9_isOut_3 : decode cX9_isOut 3 = .ok (.getfield 226, 3) := by decide +kernel
theorem dX9_isOut_6 : decode cX9_isOut 6 = .ok (.iconst 1, 1) := by decide +kernel
theorem dX9_isOut_7 : decode cX9_isOut 7 = .ok (.isub, 1) := by decide +kernel
theorem dX9_isOut_8 : decode cX9_isOut 8 = .ok (.invokestatic 111, 3) := by decide +kernel
theorem dX9_isOut_11 : decode cX9_isOut 11 = .ok (.ireturn, 1) := by decide +kernel
theorem dX9_sign_0 : decode cX9_sign 0 = .ok (.aload_n 0, 1) := by decide +kernel
theorem dX9_sign_1 : decode cX9_sign 1 = .ok (.iload_n 1, 1) := by decide +kernel
theorem dX9_sign_2 : decode cX9_sign 2 = .ok (.invokevirtual 229, 3) := by decide +kernel
theorem dX9_sign_5 : decode cX9_sign 5 = .ok (.ifCond .eq 12, 3) := by decide +kernel
theorem dX9_sign_8 : decode cX9_sign 8 = .ok (.aload_n 0, 1) := by decide +kernel
theorem dX9_sign_9 : decode cX9_sign 9 = .ok (.getfield 79, 3) := by decide +kernel
theorem dX9_sign_12 : decode cX9_sign 12 = .ok (.iload_n 1, 1) := by decide +kernel
theorem dX9_sign_13 : decode cX9_sign 13 = .ok (.iaload, 1) := by decide +kernel
theorem dX9_sign_14 : decode cX9_sign 14 = .ok (.goto 5, 3) := by decide +kernel
theorem dX9_sign_17 : decode cX9_sign 17 = .ok (.bipush (-13), 2) := by decide +kernel
theorem dX9_sign_19 : decode cX9_sign 19 = .ok (.ireturn, 1) := by decide +kernel
theorem dX9_place_0 : decode cX9_place 0 = .ok (.aload_n 0, 1) := by decide +kernel
theorem dX9_place_1 : decode cX9_place 1 = .ok (.iload_n 1, 1) := by decide +kernel
theorem dX9_place_2 : decode cX9_place 2 = .ok (.invokevirtual 229, 3) := by decide +kernel
theorem dX9_place_5 : decode cX9_place 5 = .ok (.ifCond .ne 8, 3) := by decide +kernel
theorem dX9_place_8 : decode cX9_place 8 = .ok (.bipush (-13), 2) := by decide +kernel
theorem dX9_place_10 : decode cX9_place 10 = .ok (.goto 22, 3) := by decide +kernel
theorem dX9_place_13 : decode cX9_place 13 = .ok (.iload_n 2, 1) := by decide +kernel
theorem dX9_place_14 : decode cX9_place 14 = .ok (.ifCond .eq 12, 3) := by decide +kernel
theorem dX9_place_17 : decode cX9_place 17 = .ok (.aload_n 0, 1) := by decide +kernel
theorem dX9_place_18 : decode cX9_place 18 = .ok (.getfield 85, 3) := by decide +kernel
theorem dX9_place_21 : decode cX9_place 21 = .ok (.iload_n 1, 1) := by decide +kernel
theorem dX9_place_22 : decode cX9_place 22 = .ok (.iaload, 1) := by decide +kernel
theorem dX9_place_23 : decode cX9_place 23 = .ok (.goto 9, 3) := by decide +kernel
theorem dX9_place_26 : decode cX9_place 26 = .ok (.aload_n 0, 1) := by decide +kernel
theorem dX9_place_27 : decode cX9_place 27 = .ok (.getfield 82, 3) := by decide +kernel
theorem dX9_place_30 : decode cX9_place 30 = .ok (.iload_n 1, 1) := by decide +kernel
theorem dX9_place_31 : decode cX9_place 31 = .ok (.iaload, 1) := by decide +kernel
theorem dX9_place_32 : decode cX9_place 32 = .ok (.ireturn, 1) := by decide +kernel
theorem dX9_units_0 : decode cX9_units 0 = .ok (.iconst 0, 1) := by decide +kernel
theorem dX9_units_1 : decode cX9_units 1 = .ok (.istore_n 1, 1) := by decide +kernel
theorem dX9_units_2 : decode cX9_units 2 = .ok (.iconst 0, 1) := by decide +kernel
theorem dX9_units_3 : decode cX9_units 3 = .ok (.istore_n 2, 1) := by decide +kernel
theorem dX9_units_4 : decode cX9_units 4 = .ok (.iload_n 2, 1) := by decide +kernel
theorem dX9_units_5 : decode cX9_units 5 = .ok (.aload_n 0, 1) := by decide +kernel
theorem dX9_units_6 : decode cX9_units 6 = .ok (.getfield 226, 3) := by decide +kernel
theorem dX9_units_9 : decode cX9_units 9 = .ok (.if_icmp .ge 21, 3) := by decide +kernel
theorem dX9_units_12 : decode cX9_units 12 = .ok (.iload_n 1, 1) := by decide +kernel
theorem dX9_units_13 : decode cX9_units 13 = .ok (.aload_n 0, 1) := by decide +kernel
theorem dX9_units_14 : decode cX9_units 14 = .ok (.getfield 79, 3) := by decide +kernel
theorem dX9_units_17 : decode cX9_units 17 = .ok (.iload_n 2, 1) := by decide +kernel
theorem dX9_units_18 : decode cX9_units 18 = .ok (.iaload, 1) := by decide +kernel
theorem dX9_units_19 : decode cX9_units 19 = .ok (.invokestatic 191, 3) := by decide +kernel
theorem dX9_units_22 : decode cX9_units 22 = .ok (.iadd, 1) := by decide +kernel
theorem dX9_units_23 : decode cX9_units 23 = .ok (.istore_n 1, 1) := by decide +kernel
theorem dX9_units_24 : decode cX9_units 24 = .ok (.iinc 2 1, 3) := by decide +kernel
theorem dX9_units_27 : decode cX9_units 27 = .ok (.goto (-23), 3) := by decide +kernel
theorem dX9_units_30 : decode cX9_units 30 = .ok (.iload_n 1, 1) := by decide +kernel
theorem dX9_units_31 : decode cX9_units 31 = .ok (.ireturn, 1) := by decide +kernel
theorem dX9_unitAt_0 : decode cX9_unitAt 0 = .ok (.iload_n 1, 1) := by decide +kernel
theorem dX9_unitAt_1 : decode cX9_unitAt 1 = .ok (.istore_n 2, 1) := by decide +kernel
theorem dX9_unitAt_2 : decode cX9_unitAt 2 = .ok (.iconst 0, 1) := by decide +kernel
theorem dX9_unitAt_3 : decode cX9_unitAt 3 = .ok (.istore_n 3, 1) := by decide +kernel
theorem dX9_unitAt_4 : decode cX9_unitAt 4 = .ok (.iload_n 3, 1) := by decide +kernel
theorem dX9_unitAt_5 : decode cX9_unitAt 5 = .ok (.aload_n 0, 1) := by decide +kernel
theorem dX9_unitAt_6 : decode cX9_unitAt 6 = .ok (.getfield 226, 3) := by decide +kernel
theorem dX9_unitAt_9 : decode cX9_unitAt 9 = .ok (.if_icmp .ge 87, 3) := by decide +kernel
theorem dX9_unitAt_12 : decode cX9_unitAt 12 = .ok (.iload_n 1, 1) := by decide +kernel
theorem dX9_unitAt_13 : decode cX9_unitAt 13 = .ok (.ifCond .lt 83, 3) := by decide +kernel
theorem dX9_unitAt_16 : decode cX9_unitAt 16 = .ok (.aload_n 0, 1) := by decide +kernel
theorem dX9_unitAt_17 : decode cX9_unitAt 17 = .ok (.getfield 79, 3) := by decide +kernel
theorem dX9_unitAt_20 : decode cX9_unitAt 20 = .ok (.iload_n 3, 1) := by decide +kernel
theorem dX9_unitAt_21 : decode cX9_unitAt 21 = .ok (.iaload, 1) := by decide +kernel
theorem dX9_unitAt_22 : decode cX9_unitAt 22 = .ok (.invokestatic 191, 3) := by decide +kernel
theorem dX9_unitAt_25 : decode cX9_unitAt 25 = .ok (.istore 4, 2) := by decide +kernel
theorem dX9_unitAt_27 : decode cX9_unitAt 27 = .ok (.iload_n 2, 1) := by decide +kernel
theorem dX9_unitAt_28 : decode cX9_unitAt 28 = .ok (.iload 4, 2) := by decide +kernel
theorem dX9_unitAt_30 : decode cX9_unitAt 30 = .ok (.if_icmp .ge 55, 3) := by decide +kernel
theorem dX9_unitAt_33 : decode cX9_unitAt 33 = .ok (.aload_n 0, 1) := by decide +kernel
theorem dX9_unitAt_34 : decode cX9_unitAt 34 = .ok (.getfield 79, 3) := by decide +kernel
theorem dX9_unitAt_37 : decode cX9_unitAt 37 = .ok (.iload_n 3, 1) := by decide +kernel
theorem dX9_unitAt_38 : decode cX9_unitAt 38 = .ok (.iaload, 1) := by decide +kernel
theorem dX9_unitAt_39 : decode cX9_unitAt 39 = .ok (.ldc 134, 2) := by decide +kernel
theorem dX9_unitAt_41 : decode cX9_unitAt 41 = .ok (.isub, 1) := by decide +kernel
theorem dX9_unitAt_42 : decode cX9_unitAt 42 = .ok (.istore 5, 2) := by decide +kernel
theorem dX9_unitAt_44 : decode cX9_unitAt 44 = .ok (.iload 4, 2) := by decide +kernel
theorem dX9_unitAt_46 : decode cX9_unitAt 46 = .ok (.iconst 1, 1) := by decide +kernel
theorem dX9_unitAt_47 : decode cX9_unitAt 47 = .ok (.if_icmp .ne 12, 3) := by decide +kernel
theorem dX9_unitAt_50 : decode cX9_unitAt 50 = .ok (.aload_n 0, 1) := by decide +kernel
theorem dX9_unitAt_51 : decode cX9_unitAt 51 = .ok (.getfield 79, 3) := by decide +kernel
theorem dX9_unitAt_54 : decode cX9_unitAt 54 = .ok (.iload_n 3, 1) := by decide +kernel
theorem dX9_unitAt_55 : decode cX9_unitAt 55 = .ok (.iaload, 1) := by decide +kernel
theorem dX9_unitAt_56 : decode cX9_unitAt 56 = .ok (.goto 28, 3) := by decide +kernel
theorem dX9_unitAt_59 : decode cX9_unitAt 59 = .ok (.iload_n 2, 1) := by decide +kernel
theorem dX9_unitAt_60 : decode cX9_unitAt 60 = .ok (.ifCond .ne 15, 3) := by decide +kernel
theorem dX9_unitAt_63 : decode cX9_unitAt 63 = .ok (.ldc 115, 2) := by decide +kernel
theorem dX9_unitAt_65 : decode cX9_unitAt 65 = .ok (.iload 5, 2) := by decide +kernel
theorem dX9_unitAt_67 : decode cX9_unitAt 67 = .ok (.sipush 1024, 3) := by decide +kernel
theorem dX9_unitAt_70 : decode cX9_unitAt 70 = .ok (.idiv, 1) := by decide +kernel
theorem dX9_unitAt_71 : decode cX9_unitAt 71 = .ok (.iadd, 1) := by decide +kernel
theorem dX9_unitAt_72 : decode cX9_unitAt 72 = .ok (.goto 12, 3) := by decide +kernel
theorem dX9_unitAt_75 : decode cX9_unitAt 75 = .ok (.ldc 117, 2) := by decide +kernel
theorem dX9_unitAt_77 : decode cX9_unitAt 77 = .ok (.iload 5, 2) := by decide +kernel
theorem dX9_unitAt_79 : decode cX9_unitAt 79 = .ok (.sipush 1024, 3) := by decide +kernel
theorem dX9_unitAt_82 : decode cX9_unitAt 82 = .ok (.irem, 1) := by decide +kernel
theorem dX9_unitAt_83 : decode cX9_unitAt 83 = .ok (.iadd, 1) := by decide +kernel
theorem dX9_unitAt_84 : decode cX9_unitAt 84 = .ok (.ireturn, 1) := by decide +kernel
theorem dX9_unitAt_85 : decode cX9_unitAt 85 = .ok (.iload_n 2, 1) := by decide +kernel
theorem dX9_unitAt_86 : decode cX9_unitAt 86 = .ok (.iload 4, 2) := by decide +kernel
theorem dX9_unitAt_88 : decode cX9_unitAt 88 = .ok (.isub, 1) := by decide +kernel
theorem dX9_unitAt_89 : decode cX9_unitAt 89 = .ok (.istore_n 2, 1) := by decide +kernel
theorem dX9_unitAt_90 : decode cX9_unitAt 90 = .ok (.iinc 3 1, 3) := by decide +kernel
theorem dX9_unitAt_93 : decode cX9_unitAt 93 = .ok (.goto (-89), 3) := by decide +kernel
theorem dX9_unitAt_96 : decode cX9_unitAt 96 = .ok (.bipush (-13), 2) := by decide +kernel
theorem dX9_unitAt_98 : decode cX9_unitAt 98 = .ok (.ireturn, 1) := by decide +kernel
theorem dX9_classOf_0 : decode cX9_classOf 0 = .ok (.iload_n 0, 1) := by decide +kernel
theorem dX9_classOf_1 : decode cX9_classOf 1 = .ok (.bipush 127, 2) := by decide +kernel
theorem dX9_classOf_3 : decode cX9_classOf 3 = .ok (.if_icmp .gt 25, 3) := by decide +kernel
theorem dX9_classOf_6 : decode cX9_classOf 6 = .ok (.iload_n 0, 1) := by decide +kernel
theorem dX9_classOf_7 : decode cX9_classOf 7 = .ok (.bipush 65, 2) := by decide +kernel
theorem dX9_classOf_9 : decode cX9_classOf 9 = .ok (.bipush 90, 2) := by decide +kernel
theorem dX9_classOf_11 : decode cX9_classOf 11 = .ok (.invokestatic 111, 3) := by decide +kernel
theorem dX9_classOf_14 : decode cX9_classOf 14 = .ok (.ifCond .ne 14, 3) := by decide +kernel
theorem dX9_classOf_17 : decode cX9_classOf 17 = .ok (.iload_n 0, 1) := by decide +kernel
theorem dX9_classOf_18 : decode cX9_classOf 18 = .ok (.bipush 97, 2) := by decide +kernel
theorem dX9_classOf_20 : decode cX9_classOf 20 = .ok (.bipush 122, 2) := by decide +kernel
theorem dX9_classOf_22 : decode cX9_classOf 22 = .ok (.invokestatic 111, 3) := by decide +kernel
theorem dX9_classOf_25 : decode cX9_classOf 25 = .ok (.ifCond .eq 5, 3) := by decide +kernel
theorem dX9_classOf_28 : decode cX9_classOf 28 = .ok (.iconst 1, 1) := by decide +kernel
theorem dX9_classOf_29 : decode cX9_classOf 29 = .ok (.ireturn, 1) := by decide +kernel
theorem dX9_classOf_30 : decode cX9_classOf 30 = .ok (.iload_n 0, 1) := by decide +kernel
theorem dX9_classOf_31 : decode cX9_classOf 31 = .ok (.bipush 48, 2) := by decide +kernel
theorem dX9_classOf_33 : decode cX9_classOf 33 = .ok (.bipush 57, 2) := by decide +kernel
theorem dX9_classOf_35 : decode cX9_classOf 35 = .ok (.invokestatic 111, 3) := by decide +kernel
theorem dX9_classOf_38 : decode cX9_classOf 38 = .ok (.ifCond .eq 5, 3) := by decide +kernel
theorem dX9_classOf_41 : decode cX9_classOf 41 = .ok (.iconst 2, 1) := by decide +kernel
theorem dX9_classOf_42 : decode cX9_classOf 42 = .ok (.ireturn, 1) := by decide +kernel
theorem dX9_classOf_43 : decode cX9_classOf 43 = .ok (.iload_n 0, 1) := by decide +kernel
theorem dX9_classOf_44 : decode cX9_classOf 44 = .ok (.bipush 9, 2) := by decide +kernel
theorem dX9_classOf_46 : decode cX9_classOf 46 = .ok (.if_icmp .eq 21, 3) := by decide +kernel
theorem dX9_classOf_49 : decode cX9_classOf 49 = .ok (.iload_n 0, 1) := by decide +kernel
theorem dX9_classOf_50 : decode cX9_classOf 50 = .ok (.bipush 10, 2) := by decide +kernel
theorem dX9_classOf_52 : decode cX9_classOf 52 = .ok (.if_icmp .eq 15, 3) := by decide +kernel
theorem dX9_classOf_55 : decode cX9_classOf 55 = .ok (.iload_n 0, 1) := by decide +kernel
theorem dX9_classOf_56 : decode cX9_classOf 56 = .ok (.bipush 13, 2) := by decide +kernel
theorem dX9_classOf_58 : decode cX9_classOf 58 = .ok (.if_icmp .eq 9, 3) := by decide +kernel
theorem dX9_classOf_61 : decode cX9_classOf 61 = .ok (.iload_n 0, 1) := by decide +kernel
theorem dX9_classOf_62 : decode cX9_classOf 62 = .ok (.bipush 32, 2) := by decide +kernel
theorem dX9_classOf_64 : decode cX9_classOf 64 = .ok (.if_icmp .ne 5, 3) := by decide +kernel
theorem dX9_classOf_67 : decode cX9_classOf 67 = .ok (.iconst 3, 1) := by decide +kernel
theorem dX9_classOf_68 : decode cX9_classOf 68 = .ok (.ireturn, 1) := by decide +kernel
theorem dX9_classOf_69 : decode cX9_classOf 69 = .ok (.iload_n 0, 1) := by decide +kernel
theorem dX9_classOf_70 : decode cX9_classOf 70 = .ok (.bipush 33, 2) := by decide +kernel
theorem dX9_classOf_72 : decode cX9_classOf 72 = .ok (.bipush 126, 2) := by decide +kernel
theorem dX9_classOf_74 : decode cX9_classOf 74 = .ok (.invokestatic 111, 3) := by decide +kernel
theorem dX9_classOf_77 : decode cX9_classOf 77 = .ok (.ifCond .eq 7, 3) := by decide +kernel
theorem dX9_classOf_80 : decode cX9_classOf 80 = .ok (.iconst 4, 1) := by decide +kernel
theorem dX9_classOf_81 : decode cX9_classOf 81 = .ok (.goto 4, 3) := by decide +kernel
theorem dX9_classOf_84 : decode cX9_classOf 84 = .ok (.iconst 0, 1) := by decide +kernel
theorem dX9_classOf_85 : decode cX9_classOf 85 = .ok (.ireturn, 1) := by decide +kernel
theorem dX9_broken_0 : decode cX9_broken 0 = .ok (.iload_n 1, 1) := by decide +kernel
theorem dX9_broken_1 : decode cX9_broken 1 = .ok (.iconst 0, 1) := by decide +kernel
theorem dX9_broken_2 : decode cX9_broken 2 = .ok (.aload_n 0, 1) := by decide +kernel
theorem dX9_broken_3 : decode cX9_broken 3 = .ok (.getfield 226, 3) := by decide +kernel
theorem dX9_broken_6 : decode cX9_broken 6 = .ok (.invokestatic 111, 3) := by decide +kernel
theorem dX9_broken_9 : decode cX9_broken 9 = .ok (.ifCond .ne 6, 3) := by decide +kernel
theorem dX9_broken_12 : decode cX9_broken 12 = .ok (.bipush (-13), 2) := by decide +kernel
theorem dX9_broken_14 : decode cX9_broken 14 = .ok (.ireturn, 1) := by decide +kernel
theorem dX9_broken_15 : decode cX9_broken 15 = .ok (.iload_n 1, 1) := by decide +kernel
theorem dX9_broken_16 : decode cX9_broken 16 = .ok (.ifCond .eq 11, 3) := by decide +kernel
theorem dX9_broken_19 : decode cX9_broken 19 = .ok (.iload_n 1, 1) := by decide +kernel
theorem dX9_broken_20 : decode cX9_broken 20 = .ok (.aload_n 0, 1) := by decide +kernel
theorem dX9_broken_21 : decode cX9_broken 21 = .ok (.getfield 226, 3) := by decide +kernel
theorem dX9_broken_24 : decode cX9_broken 24 = .ok (.if_icmp .ne 5, 3) := by decide +kernel
theorem dX9_broken_27 : decode cX9_broken 27 = .ok (.iconst 1, 1) := by decide +kernel
theorem dX9_broken_28 : decode cX9_broken 28 = .ok (.ireturn, 1) := by decide +kernel
theorem dX9_broken_29 : decode cX9_broken 29 = .ok (.aload_n 0, 1) := by decide +kernel
theorem dX9_broken_30 : decode cX9_broken 30 = .ok (.getfield 79, 3) := by decide +kernel
theorem dX9_broken_33 : decode cX9_broken 33 = .ok (.iload_n 1, 1) := by decide +kernel
theorem dX9_broken_34 : decode cX9_broken 34 = .ok (.iconst 1, 1) := by decide +kernel
theorem dX9_broken_35 : decode cX9_broken 35 = .ok (.isub, 1) := by decide +kernel
theorem dX9_broken_36 : decode cX9_broken 36 = .ok (.iaload, 1) := by decide +kernel
theorem dX9_broken_37 : decode cX9_broken 37 = .ok (.invokestatic 232, 3) := by decide +kernel
theorem dX9_broken_40 : decode cX9_broken 40 = .ok (.istore_n 2, 1) := by decide +kernel
theorem dX9_broken_41 : decode cX9_broken 41 = .ok (.aload_n 0, 1) := by decide +kernel
theorem dX9_broken_42 : decode cX9_broken 42 = .ok (.getfield 79, 3) := by decide +kernel
theorem dX9_broken_45 : decode cX9_broken 45 = .ok (.iload_n 1, 1) := by decide +kernel
theorem dX9_broken_46 : decode cX9_broken 46 = .ok (.iaload, 1) := by decide +kernel
theorem dX9_broken_47 : decode cX9_broken 47 = .ok (.invokestatic 232, 3) := by decide +kernel
theorem dX9_broken_50 : decode cX9_broken 50 = .ok (.istore_n 3, 1) := by decide +kernel
theorem dX9_broken_51 : decode cX9_broken 51 = .ok (.iload_n 2, 1) := by decide +kernel
theorem dX9_broken_52 : decode cX9_broken 52 = .ok (.iload_n 3, 1) := by decide +kernel
theorem dX9_broken_53 : decode cX9_broken 53 = .ok (.if_icmp .ne 12, 3) := by decide +kernel
theorem dX9_broken_56 : decode cX9_broken 56 = .ok (.iload_n 2, 1) := by decide +kernel
theorem dX9_broken_57 : decode cX9_broken 57 = .ok (.ifCond .eq 8, 3) := by decide +kernel
theorem dX9_broken_60 : decode cX9_broken 60 = .ok (.iload_n 2, 1) := by decide +kernel
theorem dX9_broken_61 : decode cX9_broken 61 = .ok (.iconst 4, 1) := by decide +kernel
theorem dX9_broken_62 : decode cX9_broken 62 = .ok (.if_icmp .ne 7, 3) := by decide +kernel
theorem dX9_broken_65 : decode cX9_broken 65 = .ok (.iconst 1, 1) := by decide +kernel
theorem dX9_broken_66 : decode cX9_broken 66 = .ok (.goto 4, 3) := by decide +kernel
theorem dX9_broken_69 : decode cX9_broken 69 = .ok (.iconst 0, 1) := by decide +kernel
theorem dX9_broken_70 : decode cX9_broken 70 = .ok (.ireturn, 1) := by decide +kernel
theorem dX9_met_0 : decode cX9_met 0 = .ok (.iload_n 1, 1) := by decide +kernel
theorem dX9_met_1 : decode cX9_met 1 = .ok (.invokestatic 181, 3) := by decide +kernel
theorem dX9_met_4 : decode cX9_met 4 = .ok (.ifCond .ne 8, 3) := by decide +kernel
theorem dX9_met_7 : decode cX9_met 7 = .ok (.bipush (-13), 2) := by decide +kernel
theorem dX9_met_9 : decode cX9_met 9 = .ok (.goto 23, 3) := by decide +kernel
theorem dX9_met_12 : decode cX9_met 12 = .ok (.aload_n 0, 1) := by decide +kernel
theorem dX9_met_13 : decode cX9_met 13 = .ok (.getfield 61, 3) := by decide +kernel
theorem dX9_met_16 : decode cX9_met 16 = .ok (.iload_n 1, 1) := by decide +kernel
theorem dX9_met_17 : decode cX9_met 17 = .ok (.iaload, 1) := by decide +kernel
theorem dX9_met_18 : decode cX9_met 18 = .ok (.ifCond .ne 8, 3) := by decide +kernel
theorem dX9_met_21 : decode cX9_met 21 = .ok (.bipush (-11), 2) := by decide +kernel
theorem dX9_met_23 : decode cX9_met 23 = .ok (.goto 9, 3) := by decide +kernel
theorem dX9_met_26 : decode cX9_met 26 = .ok (.aload_n 0, 1) := by decide +kernel
theorem dX9_met_27 : decode cX9_met 27 = .ok (.getfield 67, 3) := by decide +kernel
theorem dX9_met_30 : decode cX9_met 30 = .ok (.iload_n 1, 1) := by decide +kernel
theorem dX9_met_31 : decode cX9_met 31 = .ok (.iaload, 1) := by decide +kernel
theorem dX9_met_32 : decode cX9_met 32 = .ok (.ireturn, 1) := by decide +kernel
theorem dX9_grown_0 : decode cX9_grown 0 = .ok (.iload_n 1, 1) := by decide +kernel
theorem dX9_grown_1 : decode cX9_grown 1 = .ok (.invokestatic 181, 3) := by decide +kernel
theorem dX9_grown_4 : decode cX9_grown 4 = .ok (.ifCond .ne 8, 3) := by decide +kernel
theorem dX9_grown_7 : decode cX9_grown 7 = .ok (.bipush (-13), 2) := by decide +kernel
theorem dX9_grown_9 : decode cX9_grown 9 = .ok (.goto 38, 3) := by decide +kernel
theorem dX9_grown_12 : decode cX9_grown 12 = .ok (.aload_n 0, 1) := by decide +kernel
theorem dX9_grown_13 : decode cX9_grown 13 = .ok (.getfield 61, 3) := by decide +kernel
theorem dX9_grown_16 : decode cX9_grown 16 = .ok (.iload_n 1, 1) := by decide +kernel
theorem dX9_grown_17 : decode cX9_grown 17 = .ok (.iaload, 1) := by decide +kernel
theorem dX9_grown_18 : decode cX9_grown 18 = .ok (.ifCond .ne 8, 3) := by decide +kernel
theorem dX9_grown_21 : decode cX9_grown 21 = .ok (.bipush (-11), 2) := by decide +kernel
theorem dX9_grown_23 : decode cX9_grown 23 = .ok (.goto 24, 3) := by decide +kernel
theorem dX9_grown_26 : decode cX9_grown 26 = .ok (.aload_n 0, 1) := by decide +kernel
theorem dX9_grown_27 : decode cX9_grown 27 = .ok (.getfield 61, 3) := by decide +kernel
theorem dX9_grown_30 : decode cX9_grown 30 = .ok (.iload_n 1, 1) := by decide +kernel
theorem dX9_grown_31 : decode cX9_grown 31 = .ok (.iaload, 1) := by decide +kernel
theorem dX9_grown_32 : decode cX9_grown 32 = .ok (.iconst 1, 1) := by decide +kernel
theorem dX9_grown_33 : decode cX9_grown 33 = .ok (.if_icmp .eq 8, 3) := by decide +kernel
theorem dX9_grown_36 : decode cX9_grown 36 = .ok (.bipush (-12), 2) := by decide +kernel
theorem dX9_grown_38 : decode cX9_grown 38 = .ok (.goto 9, 3) := by decide +kernel
theorem dX9_grown_41 : decode cX9_grown 41 = .ok (.aload_n 0, 1) := by decide +kernel
theorem dX9_grown_42 : decode cX9_grown 42 = .ok (.getfield 70, 3) := by decide +kernel
theorem dX9_grown_45 : decode cX9_grown 45 = .ok (.iload_n 1, 1) := by decide +kernel
theorem dX9_grown_46 : decode cX9_grown 46 = .ok (.iaload, 1) := by decide +kernel
theorem dX9_grown_47 : decode cX9_grown 47 = .ok (.ireturn, 1) := by decide +kernel
theorem dX9_table_0 : decode cX9_table 0 = .ok (.iload_n 1, 1) := by decide +kernel
theorem dX9_table_1 : decode cX9_table 1 = .ok (.iconst 0, 1) := by decide +kernel
theorem dX9_table_2 : decode cX9_table 2 = .ok (.bipush 127, 2) := by decide +kernel
theorem dX9_table_4 : decode cX9_table 4 = .ok (.invokestatic 111, 3) := by decide +kernel
theorem dX9_table_7 : decode cX9_table 7 = .ok (.ifCond .eq 10, 3) := by decide +kernel
theorem dX9_table_10 : decode cX9_table 10 = .ok (.iload_n 1, 1) := by decide +kernel
theorem dX9_table_11 : decode cX9_table 11 = .ok (.invokestatic 232, 3) := by decide +kernel
theorem dX9_table_14 : decode cX9_table 14 = .ok (.goto 5, 3) := by decide +kernel
theorem dX9_table_17 : decode cX9_table 17 = .ok (.bipush (-13), 2) := by decide +kernel
theorem dX9_table_19 : decode cX9_table 19 = .ok (.ireturn, 1) := by decide +kernel
theorem dX9_digit_0 : decode cX9_digit 0 = .ok (.aload_n 0, 1) := by decide +kernel
theorem dX9_digit_1 : decode cX9_digit 1 = .ok (.iload_n 1, 1) := by decide +kernel
theorem dX9_digit_2 : decode cX9_digit 2 = .ok (.invokevirtual 200, 3) := by decide +kernel
theorem dX9_digit_5 : decode cX9_digit 5 = .ok (.ireturn, 1) := by decide +kernel
theorem dX9_count_0 : decode cX9_count 0 = .ok (.iload_n 1, 1) := by decide +kernel
theorem dX9_count_1 : decode cX9_count 1 = .ok (.tableswitch 126 0 8 #[51, 56, 61, 66, 71, 76, 81, 86, 121], 51) := by decide +kernel
theorem dX9_count_52 : decode cX9_count 52 = .ok (.aload_n 0, 1) := by decide +kernel
theorem dX9_count_53 : decode cX9_count 53 = .ok (.getfield 106, 3) := by decide +kernel
theorem dX9_count_56 : decode cX9_count 56 = .ok (.ireturn, 1) := by decide +kernel
theorem dX9_count_57 : decode cX9_count 57 = .ok (.aload_n 0, 1) := by decide +kernel
theorem dX9_count_58 : decode cX9_count 58 = .ok (.getfield 135, 3) := by decide +kernel
theorem dX9_count_61 : decode cX9_count 61 = .ok (.ireturn, 1) := by decide +kernel
theorem dX9_count_62 : decode cX9_count 62 = .ok (.aload_n 0, 1) := by decide +kernel
theorem dX9_count_63 : decode cX9_count 63 = .ok (.getfield 155, 3) := by decide +kernel
theorem dX9_count_66 : decode cX9_count 66 = .ok (.ireturn, 1) := by decide +kernel
theorem dX9_count_67 : decode cX9_count 67 = .ok (.aload_n 0, 1) := by decide +kernel
theorem dX9_count_68 : decode cX9_count 68 = .ok (.getfield 168, 3) := by decide +kernel
theorem dX9_count_71 : decode cX9_count 71 = .ok (.ireturn, 1) := by decide +kernel
theorem dX9_count_72 : decode cX9_count 72 = .ok (.aload_n 0, 1) := by decide +kernel
theorem dX9_count_73 : decode cX9_count 73 = .ok (.getfield 175, 3) := by decide +kernel
theorem dX9_count_76 : decode cX9_count 76 = .ok (.ireturn, 1) := by decide +kernel
theorem dX9_count_77 : decode cX9_count 77 = .ok (.aload_n 0, 1) := by decide +kernel
theorem dX9_count_78 : decode cX9_count 78 = .ok (.getfield 178, 3) := by decide +kernel
theorem dX9_count_81 : decode cX9_count 81 = .ok (.ireturn, 1) := by decide +kernel
theorem dX9_count_82 : decode cX9_count 82 = .ok (.aload_n 0, 1) := by decide +kernel
theorem dX9_count_83 : decode cX9_count 83 = .ok (.getfield 149, 3) := by decide +kernel
theorem dX9_count_86 : decode cX9_count 86 = .ok (.ireturn, 1) := by decide +kernel
theorem dX9_count_87 : decode cX9_count 87 = .ok (.iconst 0, 1) := by decide +kernel
theorem dX9_count_88 : decode cX9_count 88 = .ok (.istore_n 2, 1) := by decide +kernel
theorem dX9_count_89 : decode cX9_count 89 = .ok (.iconst 0, 1) := by decide +kernel
theorem dX9_count_90 : decode cX9_count 90 = .ok (.istore_n 3, 1) := by decide +kernel
theorem dX9_count_91 : decode cX9_count 91 = .ok (.iload_n 3, 1) := by decide +kernel
theorem dX9_count_92 : decode cX9_count 92 = .ok (.bipush 8, 2) := by decide +kernel
theorem dX9_count_94 : decode cX9_count 94 = .ok (.if_icmp .ge 26, 3) := by decide +kernel
theorem dX9_count_97 : decode cX9_count 97 = .ok (.iload_n 2, 1) := by decide +kernel
theorem dX9_count_98 : decode cX9_count 98 = .ok (.aload_n 0, 1) := by decide +kernel
theorem dX9_count_99 : decode cX9_count 99 = .ok (.getfield 61, 3) := by decide +kernel
theorem dX9_count_102 : decode cX9_count 102 = .ok (.iload_n 3, 1) := by decide +kernel
theorem dX9_count_103 : decode cX9_count 103 = .ok (.iaload, 1) := by decide +kernel
theorem dX9_count_104 : decode cX9_count 104 = .ok (.ifCond .le 7, 3) := by decide +kernel
theorem dX9_count_107 : decode cX9_count 107 = .ok (.iconst 1, 1) := by decide +kernel
theorem dX9_count_108 : decode cX9_count 108 = .ok (.goto 4, 3) := by decide +kernel
theorem dX9_count_111 : decode cX9_count 111 = .ok (.iconst 0, 1) := by decide +kernel
theorem dX9_count_112 : decode cX9_count 112 = .ok (.iadd, 1) := by decide +kernel
theorem dX9_count_113 : decode cX9_count 113 = .ok (.istore_n 2, 1) := by decide +kernel
theorem dX9_count_114 : decode cX9_count 114 = .ok (.iinc 3 1, 3) := by decide +kernel
theorem dX9_count_117 : decode cX9_count 117 = .ok (.goto (-26), 3) := by decide +kernel
theorem dX9_count_120 : decode cX9_count 120 = .ok (.iload_n 2, 1) := by decide +kernel
theorem dX9_count_121 : decode cX9_count 121 = .ok (.ireturn, 1) := by decide +kernel
theorem dX9_count_122 : decode cX9_count 122 = .ok (.aload_n 0, 1) := by decide +kernel
theorem dX9_count_123 : decode cX9_count 123 = .ok (.getfield 226, 3) := by decide +kernel
theorem dX9_count_126 : decode cX9_count 126 = .ok (.ireturn, 1) := by decide +kernel
theorem dX9_count_127 : decode cX9_count 127 = .ok (.iconst (-1), 1) := by decide +kernel
theorem dX9_count_128 : decode cX9_count 128 = .ok (.ireturn, 1) := by decide +kernel
end
section
theorem dL_law_0 : decode cL_law 0 = .ok (.new 7, 3) := by decide +kernel
theorem dL_law_3 : decode cL_law 3 = .ok (.dup, 1) := by decide +kernel
theorem dL_law_4 : decode cL_law 4 = .ok (.invokespecial 9, 3) := by decide +kernel
theorem dL_law_7 : decode cL_law 7 = .ok (.astore_n 1, 1) := by decide +kernel
theorem dL_law_8 : decode cL_law 8 = .ok (.new 10, 3) := by decide +kernel
theorem dL_law_11 : decode cL_law 11 = .ok (.dup, 1) := by decide +kernel
theorem dL_law_12 : decode cL_law 12 = .ok (.invokespecial 12, 3) := by decide +kernel
theorem dL_law_15 : decode cL_law 15 = .ok (.astore_n 2, 1) := by decide +kernel
theorem dL_law_16 : decode cL_law 16 = .ok (.iconst 0, 1) := by decide +kernel
theorem dL_law_17 : decode cL_law 17 = .ok (.istore_n 3, 1) := by decide +kernel
theorem dL_law_18 : decode cL_law 18 = .ok (.iload_n 3, 1) := by decide +kernel
theorem dL_law_19 : decode cL_law 19 = .ok (.aload_n 0, 1) := by decide +kernel
theorem dL_law_20 : decode cL_law 20 = .ok (.arraylength, 1) := by decide +kernel
theorem dL_law_21 : decode cL_law 21 = .ok (.iconst 5, 1) := by decide +kernel
theorem dL_law_22 : decode cL_law 22 = .ok (.isub, 1) := by decide +kernel
theorem dL_law_23 : decode cL_law 23 = .ok (.if_icmp .gt 681, 3) := by decide +kernel
theorem dL_law_26 : decode cL_law 26 = .ok (.aload_n 0, 1) := by decide +kernel
theorem dL_law_27 : decode cL_law 27 = .ok (.iload_n 3, 1) := by decide +kernel
theorem dL_law_28 : decode cL_law 28 = .ok (.iaload, 1) := by decide +kernel
theorem dL_law_29 : decode cL_law 29 = .ok (.bipush 31, 2) := by decide +kernel
theorem dL_law_31 : decode cL_law 31 = .ok (.iand, 1) := by decide +kernel
theorem dL_law_32 : decode cL_law 32 = .ok (.tableswitch 666 0 21 #[104, 127, 140, 153, 166, 219, 262, 285, 318, 351, 374, 407, 420, 443, 492, 515, 528, 551, 574, 597, 620, 643], 104) := by decide +kernel
theorem dL_law_136 : decode cL_law 136 = .ok (.aload_n 1, 1) := by decide +kernel
theorem dL_law_137 : decode cL_law 137 = .ok (.aload_n 0, 1) := by decide +kernel
theorem dL_law_138 : decode cL_law 138 = .ok (.iload_n 3, 1) := by decide +kernel
theorem dL_law_139 : decode cL_law 139 = .ok (.iconst 1, 1) := by decide +kernel
theorem dL_law_140 : decode cL_law 140 = .ok (.iadd, 1) := by decide +kernel
theorem dL_law_141 : decode cL_law 141 = .ok (.iaload, 1) := by decide +kernel
theorem dL_law_142 : decode cL_law 142 = .ok (.invokevirtual 13, 3) := by decide +kernel
theorem dL_law_145 : decode cL_law 145 = .ok (.aload_n 2, 1) := by decide +kernel
theorem dL_law_146 : decode cL_law 146 = .ok (.aload_n 0, 1) := by decide +kernel
theorem dL_law_147 : decode cL_law 147 = .ok (.iload_n 3, 1) := by decide +kernel
theorem dL_law_148 : decode cL_law 148 = .ok (.iconst 1, 1) := by decide +kernel
theorem dL_law_149 : decode cL_law 149 = .ok (.iadd, 1) := by decide +kernel
theorem dL_law_150 : decode cL_law 150 = .ok (.iaload, 1) := by decide +kernel
theorem dL_law_151 : decode cL_law 151 = .ok (.invokevirtual 17, 3) := by decide +kernel
theorem dL_law_154 : decode cL_law 154 = .ok (.if_icmp .eq 544, 3) := by decide +kernel
theorem dL_law_157 : decode cL_law 157 = .ok (.iconst 0, 1) := by decide +kernel
theorem dL_law_158 : decode cL_law 158 = .ok (.ireturn, 1) := by decide +kernel
theorem dL_law_159 : decode cL_law 159 = .ok (.aload_n 1, 1) := by decide +kernel
theorem dL_law_160 : decode cL_law 160 = .ok (.invokevirtual 18, 3) := by decide +kernel
theorem dL_law_163 : decode cL_law 163 = .ok (.aload_n 2, 1) := by decide +kernel
theorem dL_law_164 : decode cL_law 164 = .ok (.invokevirtual 22, 3) := by decide +kernel
theorem dL_law_167 : decode cL_law 167 = .ok (.if_icmp .eq 531, 3) := by decide +kernel
theorem dL_law_170 : decode cL_law 170 = .ok (.iconst 0, 1) := by decide +kernel
theorem dL_law_171 : decode cL_law 171 = .ok (.ireturn, 1) := by decide +kernel
theorem dL_law_172 : decode cL_law 172 = .ok (.aload_n 1, 1) := by decide +kernel
theorem dL_law_173 : decode cL_law 173 = .ok (.invokevirtual 23, 3) := by decide +kernel
theorem dL_law_176 : decode cL_law 176 = .ok (.aload_n 2, 1) := by decide +kernel
theorem dL_law_177 : decode cL_law 177 = .ok (.invokevirtual 26, 3) := by decide +kernel
theorem dL_law_180 : decode cL_law 180 = .ok (.if_icmp .eq 518, 3) := by decide +kernel
theorem dL_law_183 : decode cL_law 183 = .ok (.iconst 0, 1) := by decide +kernel
theorem dL_law_184 : decode cL_law 184 = .ok (.ireturn, 1) := by decide +kernel
theorem dL_law_185 : decode cL_law 185 = .ok (.aload_n 1, 1) := by decide +kernel
theorem dL_law_186 : decode cL_law 186 = .ok (.invokevirtual 27, 3) := by decide +kernel
theorem dL_law_189 : decode cL_law 189 = .ok (.aload_n 2, 1) := by decide +kernel
theorem dL_law_190 : decode cL_law 190 = .ok (.invokevirtual 30, 3) := by decide +kernel
theorem dL_law_193 : decode cL_law 193 = .ok (.if_icmp .eq 505, 3) := by decide +kernel
theorem dL_law_196 : decode cL_law 196 = .ok (.iconst 0, 1) := by decide +kernel
theorem dL_law_197 : decode cL_law 197 = .ok (.ireturn, 1) := by decide +kernel
theorem dL_law_198 : decode cL_law 198 = .ok (.aload_n 1, 1) := by decide +kernel
theorem dL_law_199 : decode cL_law 199 = .ok (.aload_n 0, 1) := by decide +kernel
theorem dL_law_200 : decode cL_law 200 = .ok (.iload_n 3, 1) := by decide +kernel
theorem dL_law_201 : decode cL_law 201 = .ok (.iconst 1, 1) := by decide +kernel
theorem dL_law_202 : decode cL_law 202 = .ok (.iadd, 1) := by decide +kernel
theorem dL_law_203 : decode cL_law 203 = .ok (.iaload, 1) := by decide +kernel
theorem dL_law_204 : decode cL_law 204 = .ok (.aload_n 0, 1) := by decide +kernel
theorem dL_law_205 : decode cL_law 205 = .ok (.iload_n 3, 1) := by decide +kernel
theorem dL_law_206 : decode cL_law 206 = .ok (.iconst 2, 1) := by decide +kernel
theorem dL_law_207 : decode cL_law 207 = .ok (.iadd, 1) := by decide +kernel
theorem dL_law_208 : decode cL_law 208 = .ok (.iaload, 1) := by decide +kernel
theorem dL_law_209 : decode cL_law 209 = .ok (.aload_n 0, 1) := by decide +kernel
theorem dL_law_210 : decode cL_law 210 = .ok (.iload_n 3, 1) := by decide +kernel
theorem dL_law_211 : decode cL_law 211 = .ok (.iconst 3, 1) := by decide +kernel
theorem dL_law_212 : decode cL_law 212 = .ok (.iadd, 1) := by decide +kernel
theorem dL_law_213 : decode cL_law 213 = .ok (.iaload, 1) := by decide +kernel
theorem dL_law_214 : decode cL_law 214 = .ok (.aload_n 0, 1) := by decide +kernel
theorem dL_law_215 : decode cL_law 215 = .ok (.iload_n 3, 1) := by decide +kernel
theorem dL_law_216 : decode cL_law 216 = .ok (.iconst 4, 1) := by decide +kernel
theorem dL_law_217 : decode cL_law 217 = .ok (.iadd, 1) := by decide +kernel
theorem dL_law_218 : decode cL_law 218 = .ok (.iaload, 1) := by decide +kernel
theorem dL_law_219 : decode cL_law 219 = .ok (.invokevirtual 31, 3) := by decide +kernel
theorem dL_law_222 : decode cL_law 222 = .ok (.aload_n 2, 1) := by decide +kernel
theorem dL_law_223 : decode cL_law 223 = .ok (.aload_n 0, 1) := by decide +kernel
theorem dL_law_224 : decode cL_law 224 = .ok (.iload_n 3, 1) := by decide +kernel
theorem dL_law_225 : decode cL_law 225 = .ok (.iconst 1, 1) := by decide +kernel
theorem dL_law_226 : decode cL_law 226 = .ok (.iadd, 1) := by decide +kernel
theorem dL_law_227 : decode cL_law 227 = .ok (.iaload, 1) := by decide +kernel
theorem dL_law_228 : decode cL_law 228 = .ok (.aload_n 0, 1) := by decide +kernel
theorem dL_law_229 : decode cL_law 229 = .ok (.iload_n 3, 1) := by decide +kernel
theorem dL_law_230 : decode cL_law 230 = .ok (.iconst 2, 1) := by decide +kernel
theorem dL_law_231 : decode cL_law 231 = .ok (.iadd, 1) := by decide +kernel
theorem dL_law_232 : decode cL_law 232 = .ok (.iaload, 1) := by decide +kernel
theorem dL_law_233 : decode cL_law 233 = .ok (.aload_n 0, 1) := by decide +kernel
theorem dL_law_234 : decode cL_law 234 = .ok (.iload_n 3, 1) := by decide +kernel
theorem dL_law_235 : decode cL_law 235 = .ok (.iconst 3, 1) := by decide +kernel
theorem dL_law_236 : decode cL_law 236 = .ok (.iadd, 1) := by decide +kernel
theorem dL_law_237 : decode cL_law 237 = .ok (.iaload, 1) := by decide +kernel
theorem dL_law_238 : decode cL_law 238 = .ok (.aload_n 0, 1) := by decide +kernel
theorem dL_law_239 : decode cL_law 239 = .ok (.iload_n 3, 1) := by decide +kernel
theorem dL_law_240 : decode cL_law 240 = .ok (.iconst 4, 1) := by decide +kernel
theorem dL_law_241 : decode cL_law 241 = .ok (.iadd, 1) := by decide +kernel
theorem dL_law_242 : decode cL_law 242 = .ok (.iaload, 1) := by decide +kernel
theorem dL_law_243 : decode cL_law 243 = .ok (.invokevirtual 35, 3) := by decide +kernel
theorem dL_law_246 : decode cL_law 246 = .ok (.if_icmp .eq 452, 3) := by decide +kernel
theorem dL_law_249 : decode cL_law 249 = .ok (.iconst 0, 1) := by decide +kernel
theorem dL_law_250 : decode cL_law 250 = .ok (.ireturn, 1) := by decide +kernel
theorem dL_law_251 : decode cL_law 251 = .ok (.aload_n 1, 1) := by decide +kernel
theorem dL_law_252 : decode cL_law 252 = .ok (.aload_n 0, 1) := by decide +kernel
theorem dL_law_253 : decode cL_law 253 = .ok (.iload_n 3, 1) := by decide +kernel
theorem dL_law_254 : decode cL_law 254 = .ok (.iconst 1, 1) := by decide +kernel
theorem dL_law_255 : decode cL_law 255 = .ok (.iadd, 1) := by decide +kernel
theorem dL_law_256 : decode cL_law 256 = .ok (.iaload, 1) := by decide +kernel
theorem dL_law_257 : decode cL_law 257 = .ok (.aload_n 0, 1) := by decide +kernel
theorem dL_law_258 : decode cL_law 258 = .ok (.iload_n 3, 1) := by decide +kernel
theorem dL_law_259 : decode cL_law 259 = .ok (.iconst 2, 1) := by decide +kernel
theorem dL_law_260 : decode cL_law 260 = .ok (.iadd, 1) := by decide +kernel
theorem dL_law_261 : decode cL_law 261 = .ok (.iaload, 1) := by decide +kernel
theorem dL_law_262 : decode cL_law 262 = .ok (.aload_n 0, 1) := by decide +kernel
theorem dL_law_263 : decode cL_law 263 = .ok (.iload_n 3, 1) := by decide +kernel
theorem dL_law_264 : decode cL_law 264 = .ok (.iconst 3, 1) := by decide +kernel
theorem dL_law_265 : decode cL_law 265 = .ok (.iadd, 1) := by decide +kernel
theorem dL_law_266 : decode cL_law 266 = .ok (.iaload, 1) := by decide +kernel
theorem dL_law_267 : decode cL_law 267 = .ok (.invokevirtual 36, 3) := by decide +kernel
theorem dL_law_270 : decode cL_law 270 = .ok (.aload_n 2, 1) := by decide +kernel
theorem dL_law_271 : decode cL_law 271 = .ok (.aload_n 0, 1) := by decide +kernel
theorem dL_law_272 : decode cL_law 272 = .ok (.iload_n 3, 1) := by decide +kernel
theorem dL_law_273 : decode cL_law 273 = .ok (.iconst 1, 1) := by decide +kernel
theorem dL_law_274 : decode cL_law 274 = .ok (.iadd, 1) := by decide +kernel
theorem dL_law_275 : decode cL_law 275 = .ok (.iaload, 1) := by decide +kernel
theorem dL_law_276 : decode cL_law 276 = .ok (.aload_n 0, 1) := by decide +kernel
theorem dL_law_277 : decode cL_law 277 = .ok (.iload_n 3, 1) := by decide +kernel
theorem dL_law_278 : decode cL_law 278 = .ok (.iconst 2, 1) := by decide +kernel
theorem dL_law_279 : decode cL_law 279 = .ok (.iadd, 1) := by decide +kernel
theorem dL_law_280 : decode cL_law 280 = .ok (.iaload, 1) := by decide +kernel
theorem dL_law_281 : decode cL_law 281 = .ok (.aload_n 0, 1) := by decide +kernel
theorem dL_law_282 : decode cL_law 282 = .ok (.iload_n 3, 1) := by decide +kernel
theorem dL_law_283 : decode cL_law 283 = .ok (.iconst 3, 1) := by decide +kernel
theorem dL_law_284 : decode cL_law 284 = .ok (.iadd, 1) := by decide +kernel
theorem dL_law_285 : decode cL_law 285 = .ok (.iaload, 1) := by decide +kernel
theorem dL_law_286 : decode cL_law 286 = .ok (.invokevirtual 40, 3) := by decide +kernel
theorem dL_law_289 : decode cL_law 289 = .ok (.if_icmp .eq 409, 3) := by decide +kernel
theorem dL_law_292 : decode cL_law 292 = .ok (.iconst 0, 1) := by decide +kernel
theorem dL_law_293 : decode cL_law 293 = .ok (.ireturn, 1) := by decide +kernel
theorem dL_law_294 : decode cL_law 294 = .ok (.aload_n 1, 1) := by decide +kernel
theorem dL_law_295 : decode cL_law 295 = .ok (.aload_n 0, 1) := by decide +kernel
theorem dL_law_296 : decode cL_law 296 = .ok (.iload_n 3, 1) := by decide +kernel
theorem dL_law_297 : decode cL_law 297 = .ok (.iconst 1, 1) := by decide +kernel
theorem dL_law_298 : decode cL_law 298 = .ok (.iadd, 1) := by decide +kernel
theorem dL_law_299 : decode cL_law 299 = .ok (.iaload, 1) := by decide +kernel
theorem dL_law_300 : decode cL_law 300 = .ok (.invokevirtual 41, 3) := by decide +kernel
theorem dL_law_303 : decode cL_law 303 = .ok (.aload_n 2, 1) := by decide +kernel
theorem dL_law_304 : decode cL_law 304 = .ok (.aload_n 0, 1) := by decide +kernel
theorem dL_law_305 : decode cL_law 305 = .ok (.iload_n 3, 1) := by decide +kernel
theorem dL_law_306 : decode cL_law 306 = .ok (.iconst 1, 1) := by decide +kernel
theorem dL_law_307 : decode cL_law 307 = .ok (.iadd, 1) := by decide +kernel
theorem dL_law_308 : decode cL_law 308 = .ok (.iaload, 1) := by decide +kernel
theorem dL_law_309 : decode cL_law 309 = .ok (.invokevirtual 44, 3) := by decide +kernel
theorem dL_law_312 : decode cL_law 312 = .ok (.if_icmp .eq 386, 3) := by decide +kernel
theorem dL_law_315 : decode cL_law 315 = .ok (.iconst 0, 1) := by decide +kernel
theorem dL_law_316 : decode cL_law 316 = .ok (.ireturn, 1) := by decide +kernel
theorem dL_law_317 : decode cL_law 317 = .ok (.aload_n 1, 1) := by decide +kernel
theorem dL_law_318 : decode cL_law 318 = .ok (.aload_n 0, 1) := by decide +kernel
theorem dL_law_319 : decode cL_law 319 = .ok (.iload_n 3, 1) := by decide +kernel
theorem dL_law_320 : decode cL_law 320 = .ok (.iconst 1, 1) := by decide +kernel
theorem dL_law_321 : decode cL_law 321 = .ok (.iadd, 1) := by decide +kernel
theorem dL_law_322 : decode cL_law 322 = .ok (.iaload, 1) := by decide +kernel
theorem dL_law_323 : decode cL_law 323 = .ok (.aload_n 0, 1) := by decide +kernel
theorem dL_law_324 : decode cL_law 324 = .ok (.iload_n 3, 1) := by decide +kernel
theorem dL_law_325 : decode cL_law 325 = .ok (.iconst 2, 1) := by decide +kernel
theorem dL_law_326 : decode cL_law 326 = .ok (.iadd, 1) := by decide +kernel
theorem dL_law_327 : decode cL_law 327 = .ok (.iaload, 1) := by decide +kernel
theorem dL_law_328 : decode cL_law 328 = .ok (.invokevirtual 45, 3) := by decide +kernel
theorem dL_law_331 : decode cL_law 331 = .ok (.aload_n 2, 1) := by decide +kernel
theorem dL_law_332 : decode cL_law 332 = .ok (.aload_n 0, 1) := by decide +kernel
theorem dL_law_333 : decode cL_law 333 = .ok (.iload_n 3, 1) := by decide +kernel
theorem dL_law_334 : decode cL_law 334 = .ok (.iconst 1, 1) := by decide +kernel
theorem dL_law_335 : decode cL_law 335 = .ok (.iadd, 1) := by decide +kernel
theorem dL_law_336 : decode cL_law 336 = .ok (.iaload, 1) := by decide +kernel
theorem dL_law_337 : decode cL_law 337 = .ok (.aload_n 0, 1) := by decide +kernel
theorem dL_law_338 : decode cL_law 338 = .ok (.iload_n 3, 1) := by decide +kernel
theorem dL_law_339 : decode cL_law 339 = .ok (.iconst 2, 1) := by decide +kernel
theorem dL_law_340 : decode cL_law 340 = .ok (.iadd, 1) := by decide +kernel
theorem dL_law_341 : decode cL_law 341 = .ok (.iaload, 1) := by decide +kernel
theorem dL_law_342 : decode cL_law 342 = .ok (.invokevirtual 49, 3) := by decide +kernel
theorem dL_law_345 : decode cL_law 345 = .ok (.if_icmp .eq 353, 3) := by decide +kernel
theorem dL_law_348 : decode cL_law 348 = .ok (.iconst 0, 1) := by decide +kernel
theorem dL_law_349 : decode cL_law 349 = .ok (.ireturn, 1) := by decide +kernel
theorem dL_law_350 : decode cL_law 350 = .ok (.aload_n 1, 1) := by decide +kernel
theorem dL_law_351 : decode cL_law 351 = .ok (.aload_n 0, 1) := by decide +kernel
theorem dL_law_352 : decode cL_law 352 = .ok (.iload_n 3, 1) := by decide +kernel
theorem dL_law_353 : decode cL_law 353 = .ok (.iconst 1, 1) := by decide +kernel
theorem dL_law_354 : decode cL_law 354 = .ok (.iadd, 1) := by decide +kernel
theorem dL_law_355 : decode cL_law 355 = .ok (.iaload, 1) := by decide +kernel
theorem dL_law_356 : decode cL_law 356 = .ok (.aload_n 0, 1) := by decide +kernel
theorem dL_law_357 : decode cL_law 357 = .ok (.iload_n 3, 1) := by decide +kernel
theorem dL_law_358 : decode cL_law 358 = .ok (.iconst 2, 1) := by decide +kernel
theorem dL_law_359 : decode cL_law 359 = .ok (.iadd, 1) := by decide +kernel
theorem dL_law_360 : decode cL_law 360 = .ok (.iaload, 1) := by decide +kernel
theorem dL_law_361 : decode cL_law 361 = .ok (.invokevirtual 50, 3) := by decide +kernel
theorem dL_law_364 : decode cL_law 364 = .ok (.aload_n 2, 1) := by decide +kernel
theorem dL_law_365 : decode cL_law 365 = .ok (.aload_n 0, 1) := by decide +kernel
theorem dL_law_366 : decode cL_law 366 = .ok (.iload_n 3, 1) := by decide +kernel
theorem dL_law_367 : decode cL_law 367 = .ok (.iconst 1, 1) := by decide +kernel
theorem dL_law_368 : decode cL_law 368 = .ok (.iadd, 1) := by decide +kernel
theorem dL_law_369 : decode cL_law 369 = .ok (.iaload, 1) := by decide +kernel
theorem dL_law_370 : decode cL_law 370 = .ok (.aload_n 0, 1) := by decide +kernel
theorem dL_law_371 : decode cL_law 371 = .ok (.iload_n 3, 1) := by decide +kernel
theorem dL_law_372 : decode cL_law 372 = .ok (.iconst 2, 1) := by decide +kernel
theorem dL_law_373 : decode cL_law 373 = .ok (.iadd, 1) := by decide +kernel
theorem dL_law_374 : decode cL_law 374 = .ok (.iaload, 1) := by decide +kernel
theorem dL_law_375 : decode cL_law 375 = .ok (.invokevirtual 53, 3) := by decide +kernel
theorem dL_law_378 : decode cL_law 378 = .ok (.if_icmp .eq 320, 3) := by decide +kernel
theorem dL_law_381 : decode cL_law 381 = .ok (.iconst 0, 1) := by decide +kernel
theorem dL_law_382 : decode cL_law 382 = .ok (.ireturn, 1) := by decide +kernel
theorem dL_law_383 : decode cL_law 383 = .ok (.aload_n 1, 1) := by decide +kernel
theorem dL_law_384 : decode cL_law 384 = .ok (.aload_n 0, 1) := by decide +kernel
theorem dL_law_385 : decode cL_law 385 = .ok (.iload_n 3, 1) := by decide +kernel
theorem dL_law_386 : decode cL_law 386 = .ok (.iconst 1, 1) := by decide +kernel
theorem dL_law_387 : decode cL_law 387 = .ok (.iadd, 1) := by decide +kernel
theorem dL_law_388 : decode cL_law 388 = .ok (.iaload, 1) := by decide +kernel
theorem dL_law_389 : decode cL_law 389 = .ok (.invokevirtual 54, 3) := by decide +kernel
theorem dL_law_392 : decode cL_law 392 = .ok (.aload_n 2, 1) := by decide +kernel
theorem dL_law_393 : decode cL_law 393 = .ok (.aload_n 0, 1) := by decide +kernel
theorem dL_law_394 : decode cL_law 394 = .ok (.iload_n 3, 1) := by decide +kernel
theorem dL_law_395 : decode cL_law 395 = .ok (.iconst 1, 1) := by decide +kernel
theorem dL_law_396 : decode cL_law 396 = .ok (.iadd, 1) := by decide +kernel
theorem dL_law_397 : decode cL_law 397 = .ok (.iaload, 1) := by decide +kernel
theorem dL_law_398 : decode cL_law 398 = .ok (.invokevirtual 57, 3) := by decide +kernel
theorem dL_law_401 : decode cL_law 401 = .ok (.if_icmp .eq 297, 3) := by decide +kernel
theorem dL_law_404 : decode cL_law 404 = .ok (.iconst 0, 1) := by decide +kernel
theorem dL_law_405 : decode cL_law 405 = .ok (.ireturn, 1) := by decide +kernel
theorem dL_law_406 : decode cL_law 406 = .ok (.aload_n 1, 1) := by decide +kernel
theorem dL_law_407 : decode cL_law 407 = .ok (.aload_n 0, 1) := by decide +kernel
theorem dL_law_408 : decode cL_law 408 = .ok (.iload_n 3, 1) := by decide +kernel
theorem dL_law_409 : decode cL_law 409 = .ok (.iconst 1, 1) := by decide +kernel
theorem dL_law_410 : decode cL_law 410 = .ok (.iadd, 1) := by decide +kernel
theorem dL_law_411 : decode cL_law 411 = .ok (.iaload, 1) := by decide +kernel
theorem dL_law_412 : decode cL_law 412 = .ok (.aload_n 0, 1) := by decide +kernel
theorem dL_law_413 : decode cL_law 413 = .ok (.iload_n 3, 1) := by decide +kernel
theorem dL_law_414 : decode cL_law 414 = .ok (.iconst 2, 1) := by decide +kernel
theorem dL_law_415 : decode cL_law 415 = .ok (.iadd, 1) := by decide +kernel
theorem dL_law_416 : decode cL_law 416 = .ok (.iaload, 1) := by decide +kernel
theorem dL_law_417 : decode cL_law 417 = .ok (.invokevirtual 58, 3) := by decide +kernel
theorem dL_law_420 : decode cL_law 420 = .ok (.aload_n 2, 1) := by decide +kernel
theorem dL_law_421 : decode cL_law 421 = .ok (.aload_n 0, 1) := by decide +kernel
theorem dL_law_422 : decode cL_law 422 = .ok (.iload_n 3, 1) := by decide +kernel
theorem dL_law_423 : decode cL_law 423 = .ok (.iconst 1, 1) := by decide +kernel
theorem dL_law_424 : decode cL_law 424 = .ok (.iadd, 1) := by decide +kernel
theorem dL_law_425 : decode cL_law 425 = .ok (.iaload, 1) := by decide +kernel
theorem dL_law_426 : decode cL_law 426 = .ok (.aload_n 0, 1) := by decide +kernel
theorem dL_law_427 : decode cL_law 427 = .ok (.iload_n 3, 1) := by decide +kernel
theorem dL_law_428 : decode cL_law 428 = .ok (.iconst 2, 1) := by decide +kernel
theorem dL_law_429 : decode cL_law 429 = .ok (.iadd, 1) := by decide +kernel
theorem dL_law_430 : decode cL_law 430 = .ok (.iaload, 1) := by decide +kernel
theorem dL_law_431 : decode cL_law 431 = .ok (.invokevirtual 61, 3) := by decide +kernel
theorem dL_law_434 : decode cL_law 434 = .ok (.if_icmp .eq 264, 3) := by decide +kernel
theorem dL_law_437 : decode cL_law 437 = .ok (.iconst 0, 1) := by decide +kernel
theorem dL_law_438 : decode cL_law 438 = .ok (.ireturn, 1) := by decide +kernel
theorem dL_law_439 : decode cL_law 439 = .ok (.aload_n 1, 1) := by decide +kernel
theorem dL_law_440 : decode cL_law 440 = .ok (.invokevirtual 62, 3) := by decide +kernel
theorem dL_law_443 : decode cL_law 443 = .ok (.aload_n 2, 1) := by decide +kernel
theorem dL_law_444 : decode cL_law 444 = .ok (.invokevirtual 65, 3) := by decide +kernel
theorem dL_law_447 : decode cL_law 447 = .ok (.if_icmp .eq 251, 3) := by decide +kernel
theorem dL_law_450 : decode cL_law 450 = .ok (.iconst 0, 1) := by decide +kernel
theorem dL_law_451 : decode cL_law 451 = .ok (.ireturn, 1) := by decide +kernel
theorem dL_law_452 : decode cL_law 452 = .ok (.aload_n 1, 1) := by decide +kernel
theorem dL_law_453 : decode cL_law 453 = .ok (.aload_n 0, 1) := by decide +kernel
theorem dL_law_454 : decode cL_law 454 = .ok (.iload_n 3, 1) := by decide +kernel
theorem dL_law_455 : decode cL_law 455 = .ok (.iconst 1, 1) := by decide +kernel
theorem dL_law_456 : decode cL_law 456 = .ok (.iadd, 1) := by decide +kernel
theorem dL_law_457 : decode cL_law 457 = .ok (.iaload, 1) := by decide +kernel
theorem dL_law_458 : decode cL_law 458 = .ok (.invokevirtual 66, 3) := by decide +kernel
theorem dL_law_461 : decode cL_law 461 = .ok (.aload_n 2, 1) := by decide +kernel
theorem dL_law_462 : decode cL_law 462 = .ok (.aload_n 0, 1) := by decide +kernel
theorem dL_law_463 : decode cL_law 463 = .ok (.iload_n 3, 1) := by decide +kernel
theorem dL_law_464 : decode cL_law 464 = .ok (.iconst 1, 1) := by decide +kernel
theorem dL_law_465 : decode cL_law 465 = .ok (.iadd, 1) := by decide +kernel
theorem dL_law_466 : decode cL_law 466 = .ok (.iaload, 1) := by decide +kernel
theorem dL_law_467 : decode cL_law 467 = .ok (.invokevirtual 69, 3) := by decide +kernel
theorem dL_law_470 : decode cL_law 470 = .ok (.if_icmp .eq 228, 3) := by decide +kernel
theorem dL_law_473 : decode cL_law 473 = .ok (.iconst 0, 1) := by decide +kernel
theorem dL_law_474 : decode cL_law 474 = .ok (.ireturn, 1) := by decide +kernel
theorem dL_law_475 : decode cL_law 475 = .ok (.aload_n 1, 1) := by decide +kernel
theorem dL_law_476 : decode cL_law 476 = .ok (.aload_n 0, 1) := by decide +kernel
theorem dL_law_477 : decode cL_law 477 = .ok (.iload_n 3, 1) := by decide +kernel
theorem dL_law_478 : decode cL_law 478 = .ok (.iconst 1, 1) := by decide +kernel
theorem dL_law_479 : decode cL_law 479 = .ok (.iadd, 1) := by decide +kernel
theorem dL_law_480 : decode cL_law 480 = .ok (.iaload, 1) := by decide +kernel
theorem dL_law_481 : decode cL_law 481 = .ok (.aload_n 0, 1) := by decide +kernel
theorem dL_law_482 : decode cL_law 482 = .ok (.iload_n 3, 1) := by decide +kernel
theorem dL_law_483 : decode cL_law 483 = .ok (.iconst 2, 1) := by decide +kernel
theorem dL_law_484 : decode cL_law 484 = .ok (.iadd, 1) := by decide +kernel
theorem dL_law_485 : decode cL_law 485 = .ok (.iaload, 1) := by decide +kernel
theorem dL_law_486 : decode cL_law 486 = .ok (.ifCond .eq 7, 3) := by decide +kernel
theorem dL_law_489 : decode cL_law 489 = .ok (.iconst 1, 1) := by decide +kernel
theorem dL_law_490 : decode cL_law 490 = .ok (.goto 4, 3) := by decide +kernel
theorem dL_law_493 : decode cL_law 493 = .ok (.iconst 0, 1) := by decide +kernel
theorem dL_law_494 : decode cL_law 494 = .ok (.invokevirtual 70, 3) := by decide +kernel
theorem dL_law_497 : decode cL_law 497 = .ok (.aload_n 2, 1) := by decide +kernel
theorem dL_law_498 : decode cL_law 498 = .ok (.aload_n 0, 1) := by decide +kernel
theorem dL_law_499 : decode cL_law 499 = .ok (.iload_n 3, 1) := by decide +kernel
theorem dL_law_500 : decode cL_law 500 = .ok (.iconst 1, 1) := by decide +kernel
theorem dL_law_501 : decode cL_law 501 = .ok (.iadd, 1) := by decide +kernel
theorem dL_law_502 : decode cL_law 502 = .ok (.iaload, 1) := by decide +kernel
theorem dL_law_503 : decode cL_law 503 = .ok (.aload_n 0, 1) := by decide +kernel
theorem dL_law_504 : decode cL_law 504 = .ok (.iload_n 3, 1) := by decide +kernel
theorem dL_law_505 : decode cL_law 505 = .ok (.iconst 2, 1) := by decide +kernel
theorem dL_law_506 : decode cL_law 506 = .ok (.iadd, 1) := by decide +kernel
theorem dL_law_507 : decode cL_law 507 = .ok (.iaload, 1) := by decide +kernel
theorem dL_law_508 : decode cL_law 508 = .ok (.ifCond .eq 7, 3) := by decide +kernel
theorem dL_law_511 : decode cL_law 511 = .ok (.iconst 1, 1) := by decide +kernel
theorem dL_law_512 : decode cL_law 512 = .ok (.goto 4, 3) := by decide +kernel
theorem dL_law_515 : decode cL_law 515 = .ok (.iconst 0, 1) := by decide +kernel
theorem dL_law_516 : decode cL_law 516 = .ok (.invokevirtual 74, 3) := by decide +kernel
theorem dL_law_519 : decode cL_law 519 = .ok (.if_icmp .eq 179, 3) := by decide +kernel
theorem dL_law_522 : decode cL_law 522 = .ok (.iconst 0, 1) := by decide +kernel
theorem dL_law_523 : decode cL_law 523 = .ok (.ireturn, 1) := by decide +kernel
theorem dL_law_524 : decode cL_law 524 = .ok (.aload_n 1, 1) := by decide +kernel
theorem dL_law_525 : decode cL_law 525 = .ok (.aload_n 0, 1) := by decide +kernel
theorem dL_law_526 : decode cL_law 526 = .ok (.iload_n 3, 1) := by decide +kernel
theorem dL_law_527 : decode cL_law 527 = .ok (.iconst 1, 1) := by decide +kernel
theorem dL_law_528 : decode cL_law 528 = .ok (.iadd, 1) := by decide +kernel
theorem dL_law_529 : decode cL_law 529 = .ok (.iaload, 1) := by decide +kernel
theorem dL_law_530 : decode cL_law 530 = .ok (.invokevirtual 75, 3) := by decide +kernel
theorem dL_law_533 : decode cL_law 533 = .ok (.aload_n 2, 1) := by decide +kernel
theorem dL_law_534 : decode cL_law 534 = .ok (.aload_n 0, 1) := by decide +kernel
theorem dL_law_535 : decode cL_law 535 = .ok (.iload_n 3, 1) := by decide +kernel
theorem dL_law_536 : decode cL_law 536 = .ok (.iconst 1, 1) := by decide +kernel
theorem dL_law_537 : decode cL_law 537 = .ok (.iadd, 1) := by decide +kernel
theorem dL_law_538 : decode cL_law 538 = .ok (.iaload, 1) := by decide +kernel
theorem dL_law_539 : decode cL_law 539 = .ok (.invokevirtual 78, 3) := by decide +kernel
theorem dL_law_542 : decode cL_law 542 = .ok (.if_icmp .eq 156, 3) := by decide +kernel
theorem dL_law_545 : decode cL_law 545 = .ok (.iconst 0, 1) := by decide +kernel
theorem dL_law_546 : decode cL_law 546 = .ok (.ireturn, 1) := by decide +kernel
theorem dL_law_547 : decode cL_law 547 = .ok (.aload_n 1, 1) := by decide +kernel
theorem dL_law_548 : decode cL_law 548 = .ok (.invokevirtual 79, 3) := by decide +kernel
theorem dL_law_551 : decode cL_law 551 = .ok (.aload_n 2, 1) := by decide +kernel
theorem dL_law_552 : decode cL_law 552 = .ok (.invokevirtual 82, 3) := by decide +kernel
theorem dL_law_555 : decode cL_law 555 = .ok (.if_icmp .eq 143, 3) := by decide +kernel
theorem dL_law_558 : decode cL_law 558 = .ok (.iconst 0, 1) := by decide +kernel
theorem dL_law_559 : decode cL_law 559 = .ok (.ireturn, 1) := by decide +kernel
theorem dL_law_560 : decode cL_law 560 = .ok (.aload_n 1, 1) := by decide +kernel
theorem dL_law_561 : decode cL_law 561 = .ok (.aload_n 0, 1) := by decide +kernel
theorem dL_law_562 : decode cL_law 562 = .ok (.iload_n 3, 1) := by decide +kernel
theorem dL_law_563 : decode cL_law 563 = .ok (.iconst 1, 1) := by decide +kernel
theorem dL_law_564 : decode cL_law 564 = .ok (.iadd, 1) := by decide +kernel
theorem dL_law_565 : decode cL_law 565 = .ok (.iaload, 1) := by decide +kernel
theorem dL_law_566 : decode cL_law 566 = .ok (.invokevirtual 83, 3) := by decide +kernel
theorem dL_law_569 : decode cL_law 569 = .ok (.aload_n 2, 1) := by decide +kernel
theorem dL_law_570 : decode cL_law 570 = .ok (.aload_n 0, 1) := by decide +kernel
theorem dL_law_571 : decode cL_law 571 = .ok (.iload_n 3, 1) := by decide +kernel
theorem dL_law_572 : decode cL_law 572 = .ok (.iconst 1, 1) := by decide +kernel
theorem dL_law_573 : decode cL_law 573 = .ok (.iadd, 1) := by decide +kernel
theorem dL_law_574 : decode cL_law 574 = .ok (.iaload, 1) := by decide +kernel
theorem dL_law_575 : decode cL_law 575 = .ok (.invokevirtual 86, 3) := by decide +kernel
theorem dL_law_578 : decode cL_law 578 = .ok (.if_icmp .eq 120, 3) := by decide +kernel
theorem dL_law_581 : decode cL_law 581 = .ok (.iconst 0, 1) := by decide +kernel
theorem dL_law_582 : decode cL_law 582 = .ok (.ireturn, 1) := by decide +kernel
theorem dL_law_583 : decode cL_law 583 = .ok (.aload_n 1, 1) := by decide +kernel
theorem dL_law_584 : decode cL_law 584 = .ok (.aload_n 0, 1) := by decide +kernel
theorem dL_law_585 : decode cL_law 585 = .ok (.iload_n 3, 1) := by decide +kernel
theorem dL_law_586 : decode cL_law 586 = .ok (.iconst 1, 1) := by decide +kernel
theorem dL_law_587 : decode cL_law 587 = .ok (.iadd, 1) := by decide +kernel
theorem dL_law_588 : decode cL_law 588 = .ok (.iaload, 1) := by decide +kernel
theorem dL_law_589 : decode cL_law 589 = .ok (.invokevirtual 87, 3) := by decide +kernel
theorem dL_law_592 : decode cL_law 592 = .ok (.aload_n 2, 1) := by decide +kernel
theorem dL_law_593 : decode cL_law 593 = .ok (.aload_n 0, 1) := by decide +kernel
theorem dL_law_594 : decode cL_law 594 = .ok (.iload_n 3, 1) := by decide +kernel
theorem dL_law_595 : decode cL_law 595 = .ok (.iconst 1, 1) := by decide +kernel
theorem dL_law_596 : decode cL_law 596 = .ok (.iadd, 1) := by decide +kernel
theorem dL_law_597 : decode cL_law 597 = .ok (.iaload, 1) := by decide +kernel
theorem dL_law_598 : decode cL_law 598 = .ok (.invokevirtual 90, 3) := by decide +kernel
theorem dL_law_601 : decode cL_law 601 = .ok (.if_icmp .eq 97, 3) := by decide +kernel
theorem dL_law_604 : decode cL_law 604 = .ok (.iconst 0, 1) := by decide +kernel
theorem dL_law_605 : decode cL_law 605 = .ok (.ireturn, 1) := by decide +kernel
theorem dL_law_606 : decode cL_law 606 = .ok (.aload_n 1, 1) := by decide +kernel
theorem dL_law_607 : decode cL_law 607 = .ok (.aload_n 0, 1) := by decide +kernel
theorem dL_law_608 : decode cL_law 608 = .ok (.iload_n 3, 1) := by decide +kernel
theorem dL_law_609 : decode cL_law 609 = .ok (.iconst 1, 1) := by decide +kernel
theorem dL_law_610 : decode cL_law 610 = .ok (.iadd, 1) := by decide +kernel
theorem dL_law_611 : decode cL_law 611 = .ok (.iaload, 1) := by decide +kernel
theorem dL_law_612 : decode cL_law 612 = .ok (.invokevirtual 91, 3) := by decide +kernel
theorem dL_law_615 : decode cL_law 615 = .ok (.aload_n 2, 1) := by decide +kernel
theorem dL_law_616 : decode cL_law 616 = .ok (.aload_n 0, 1) := by decide +kernel
theorem dL_law_617 : decode cL_law 617 = .ok (.iload_n 3, 1) := by decide +kernel
theorem dL_law_618 : decode cL_law 618 = .ok (.iconst 1, 1) := by decide +kernel
theorem dL_law_619 : decode cL_law 619 = .ok (.iadd, 1) := by decide +kernel
theorem dL_law_620 : decode cL_law 620 = .ok (.iaload, 1) := by decide +kernel
theorem dL_law_621 : decode cL_law 621 = .ok (.invokevirtual 94, 3) := by decide +kernel
theorem dL_law_624 : decode cL_law 624 = .ok (.if_icmp .eq 74, 3) := by decide +kernel
theorem dL_law_627 : decode cL_law 627 = .ok (.iconst 0, 1) := by decide +kernel
theorem dL_law_628 : decode cL_law 628 = .ok (.ireturn, 1) := by decide +kernel
theorem dL_law_629 : decode cL_law 629 = .ok (.aload_n 1, 1) := by decide +kernel
theorem dL_law_630 : decode cL_law 630 = .ok (.aload_n 0, 1) := by decide +kernel
theorem dL_law_631 : decode cL_law 631 = .ok (.iload_n 3, 1) := by decide +kernel
theorem dL_law_632 : decode cL_law 632 = .ok (.iconst 1, 1) := by decide +kernel
theorem dL_law_633 : decode cL_law 633 = .ok (.iadd, 1) := by decide +kernel
theorem dL_law_634 : decode cL_law 634 = .ok (.iaload, 1) := by decide +kernel
theorem dL_law_635 : decode cL_law 635 = .ok (.invokevirtual 95, 3) := by decide +kernel
theorem dL_law_638 : decode cL_law 638 = .ok (.aload_n 2, 1) := by decide +kernel
theorem dL_law_639 : decode cL_law 639 = .ok (.aload_n 0, 1) := by decide +kernel
theorem dL_law_640 : decode cL_law 640 = .ok (.iload_n 3, 1) := by decide +kernel
theorem dL_law_641 : decode cL_law 641 = .ok (.iconst 1, 1) := by decide +kernel
theorem dL_law_642 : decode cL_law 642 = .ok (.iadd, 1) := by decide +kernel
theorem dL_law_643 : decode cL_law 643 = .ok (.iaload, 1) := by decide +kernel
theorem dL_law_644 : decode cL_law 644 = .ok (.invokevirtual 98, 3) := by decide +kernel
theorem dL_law_647 : decode cL_law 647 = .ok (.if_icmp .eq 51, 3) := by decide +kernel
theorem dL_law_650 : decode cL_law 650 = .ok (.iconst 0, 1) := by decide +kernel
theorem dL_law_651 : decode cL_law 651 = .ok (.ireturn, 1) := by decide +kernel
theorem dL_law_652 : decode cL_law 652 = .ok (.aload_n 1, 1) := by decide +kernel
theorem dL_law_653 : decode cL_law 653 = .ok (.aload_n 0, 1) := by decide +kernel
theorem dL_law_654 : decode cL_law 654 = .ok (.iload_n 3, 1) := by decide +kernel
theorem dL_law_655 : decode cL_law 655 = .ok (.iconst 1, 1) := by decide +kernel
theorem dL_law_656 : decode cL_law 656 = .ok (.iadd, 1) := by decide +kernel
theorem dL_law_657 : decode cL_law 657 = .ok (.iaload, 1) := by decide +kernel
theorem dL_law_658 : decode cL_law 658 = .ok (.invokevirtual 99, 3) := by decide +kernel
theorem dL_law_661 : decode cL_law 661 = .ok (.aload_n 2, 1) := by decide +kernel
theorem dL_law_662 : decode cL_law 662 = .ok (.aload_n 0, 1) := by decide +kernel
theorem dL_law_663 : decode cL_law 663 = .ok (.iload_n 3, 1) := by decide +kernel
theorem dL_law_664 : decode cL_law 664 = .ok (.iconst 1, 1) := by decide +kernel
theorem dL_law_665 : decode cL_law 665 = .ok (.iadd, 1) := by decide +kernel
theorem dL_law_666 : decode cL_law 666 = .ok (.iaload, 1) := by decide +kernel
theorem dL_law_667 : decode cL_law 667 = .ok (.invokevirtual 102, 3) := by decide +kernel
theorem dL_law_670 : decode cL_law 670 = .ok (.if_icmp .eq 28, 3) := by decide +kernel
theorem dL_law_673 : decode cL_law 673 = .ok (.iconst 0, 1) := by decide +kernel
theorem dL_law_674 : decode cL_law 674 = .ok (.ireturn, 1) := by decide +kernel
theorem dL_law_675 : decode cL_law 675 = .ok (.aload_n 1, 1) := by decide +kernel
theorem dL_law_676 : decode cL_law 676 = .ok (.aload_n 0, 1) := by decide +kernel
theorem dL_law_677 : decode cL_law 677 = .ok (.iload_n 3, 1) := by decide +kernel
theorem dL_law_678 : decode cL_law 678 = .ok (.iconst 1, 1) := by decide +kernel
theorem dL_law_679 : decode cL_law 679 = .ok (.iadd, 1) := by decide +kernel
theorem dL_law_680 : decode cL_law 680 = .ok (.iaload, 1) := by decide +kernel
theorem dL_law_681 : decode cL_law 681 = .ok (.invokevirtual 103, 3) := by decide +kernel
theorem dL_law_684 : decode cL_law 684 = .ok (.aload_n 2, 1) := by decide +kernel
theorem dL_law_685 : decode cL_law 685 = .ok (.aload_n 0, 1) := by decide +kernel
theorem dL_law_686 : decode cL_law 686 = .ok (.iload_n 3, 1) := by decide +kernel
theorem dL_law_687 : decode cL_law 687 = .ok (.iconst 1, 1) := by decide +kernel
theorem dL_law_688 : decode cL_law 688 = .ok (.iadd, 1) := by decide +kernel
theorem dL_law_689 : decode cL_law 689 = .ok (.iaload, 1) := by decide +kernel
theorem dL_law_690 : decode cL_law 690 = .ok (.invokevirtual 106, 3) := by decide +kernel
theorem dL_law_693 : decode cL_law 693 = .ok (.if_icmp .eq 5, 3) := by decide +kernel
theorem dL_law_696 : decode cL_law 696 = .ok (.iconst 0, 1) := by decide +kernel
theorem dL_law_697 : decode cL_law 697 = .ok (.ireturn, 1) := by decide +kernel
theorem dL_law_698 : decode cL_law 698 = .ok (.iinc 3 5, 3) := by decide +kernel
theorem dL_law_701 : decode cL_law 701 = .ok (.goto (-683), 3) := by decide +kernel
theorem dL_law_704 : decode cL_law 704 = .ok (.iconst 1, 1) := by decide +kernel
theorem dL_law_705 : decode cL_law 705 = .ok (.ireturn, 1) := by decide +kernel
end
section
/-! THE PURE PICTURE: signs with spans, tables, filters -/
abbrev Sg : Type := Int32 × Int32 × Int32
abbrev Fo : Type := Int32 × List Int32
abbrev Pr : Type := (Int32 × Int32) × Int32
abbrev Rg : Type := Int32 × Int32
abbrev Sr : Type := List Int32 × List Int32
abbrev TS : Type := List Fo × List Pr × List Int32 × List Rg × List Sr
abbrev Ac : Type := (List Sg × Int32 × Int32) × Nat
def isSg (v : Int32) : Prop := 0 ≤ v ∧ v ≤ 1114111
def uOf (v : Int32) : Int32 := if 65536 ≤ v then 2 else 1
def uSum (l : List Int32) : Int32 := l.foldl (fun a v => a + uOf v) 0
def isHi (v : Int32) : Prop := 55296 ≤ v ∧ v < 56320
def isLo (v : Int32) : Prop := 56320 ≤ v ∧ v ≤ 57343
def isSgB (v : Int32) : Bool := decide (0 ≤ v) && decide (v ≤ 1114111)
def isHiB (v : Int32) : Bool := decide (55296 ≤ v) && decide (v < 56320)
def isLoB (v : Int32) : Bool := decide (56320 ≤ v) && decide (v ≤ 57343)
/-- the place of a key among keys, as an answer: -1, or a place that has it -/
def slotR {α : Type} (ks : List α) (x : α) (r : Int32) : Prop := (r = -1 ∧ x ∉ ks) ∨ ∃ k : Nat, r = nI k ∧ ks[k]? = some x
def aget {κ ν : Type} [BEq κ] (q : List (κ × ν)) (x : κ) : Option ν := (q.find? (fun e => e.1 == x)).map (·.2)
/-- a second one of a key takes the place of the first -/
def aput {κ ν : Type} [BEq κ] (q : List (κ × ν)) (x : κ) (v : ν) : List (κ × ν) := if (q.any (fun e => e.1 == x)) then q.map (fun e => if e.1 == x then (x, v) else e) else q ++ [(x, v)]
def zdig (zs : List Int32) (x : Int32) : Int32 := match zs.find? (fun z => decide (z ≤ x) && decide (x ≤ z + 9)) with
  | some z => x - z
  | none => -9
def rhas (rs : List Rg) (x : Int32) : Bool := rs.any (fun r => decide (r.1 ≤ x) && decide (x ≤ r.2))
/-- a row stands at a place of another one -/
def stands (b : List Int32) (q : List Int32) (i : Nat) : Bool := b.isPrefixOf (q.drop i)
def longest (ss : List Sr) (q : List Int32) (i : Nat) : Option Sr := ss.foldl (fun best s => if stands s.1 q i && (match best with | none => true | some z => decide (z.1.length < s.1.length)) then some s else best) none
def stFold (fo : List Fo) (a : List Sg × Int32 × Int32) (x : Sg) : List Sg × Int32 × Int32 := match aget fo x.1 with
  | none => (a.1 ++ [x], a.2)
  | some ps => (a.1 ++ ps.map (fun v => (v, x.2)), a.2.1 + 1, a.2.2 + (uSum ps - uOf x.1))
def stComp (pa : List Pr) (a : List Sg × Int32 × Int32) (x : Sg) : List Sg × Int32 × Int32 := match a.1.getLast? with
  | none => (a.1 ++ [x], a.2)
  | some y => match aget pa (y.1, x.1) with
    | none => (a.1 ++ [x], a.2)
    | some z => (a.1.dropLast ++ [(z, y.2.1, x.2.2)], a.2.1 + 1, a.2.2)
def stDig (zs : List Int32) (a : List Sg × Int32 × Int32) (x : Sg) : List Sg × Int32 × Int32 := if zdig zs x.1 = -9 then (a.1 ++ [x], a.2) else (a.1 ++ [(48 + zdig zs x.1, x.2)], a.2.1 + 1, a.2.2)
def stDrop (rs : List Rg) (a : List Sg × Int32 × Int32) (x : Sg) : List Sg × Int32 × Int32 := if rhas rs x.1 then (a.1, a.2.1 + 1, a.2.2) else (a.1 ++ [x], a.2)
def stHalf (rule : Int32) (a : List Sg × Int32 × Int32) (x : Sg) : List Sg × Int32 × Int32 := if 55296 ≤ x.1 ∧ x.1 ≤ 57343 then (if rule = 2 then (a.1, a.2.1 + 1, a.2.2) else (a.1 ++ [(if rule = 1 then 65533 else x.1, x.2)], a.2.1 + 1, a.2.2)) else (a.1 ++ [x], a.2)
def stWide (a : List Sg × Int32 × Int32) (x : Sg) : List Sg × Int32 × Int32 := if 65281 ≤ x.1 ∧ x.1 ≤ 65374 then (a.1 ++ [(x.1 - 65248, x.2)], a.2.1 + 1, a.2.2) else if x.1 = 12288 then (a.1 ++ [(32, x.2)], a.2.1 + 1, a.2.2) else (a.1 ++ [x], a.2)
/-- one sign of the row q, at place i, through a filter: what came out so far, how many were met, how far it grew; the place from which on signs are read -/
def stp (ts : TS) (kind rule : Int32) (q : List Sg) (i : Nat) (a : Ac) (x : Sg) : Ac :=
  if kind = 0 then (stFold ts.1 a.1 x, a.2) else if kind = 1 then (stComp ts.2.1 a.1 x, a.2) else if kind = 2 then (stDig ts.2.2.1 a.1 x, a.2) else if kind = 3 then (stDrop ts.2.2.2.1 a.1 x, a.2)
  else if kind = 4 then (if i < a.2 then a else match longest ts.2.2.2.2 (q.map (·.1)) i with
    | none => ((a.1.1 ++ [x], a.1.2), a.2)
    | some s => ((a.1.1 ++ s.2.map (fun v => (v, x.2.1, ((q[i + s.1.length - 1]?).map (·.2.2)).getD 0)), a.1.2.1 + 1, a.1.2.2), i + s.1.length))
  else if kind = 5 then (stHalf rule a.1 x, a.2) else (stWide a.1 x, a.2)
def pasN (ts : TS) (kind rule : Int32) (q : List Sg) : Nat → Ac
  | 0 => (([], 0, 0), 0)
  | i + 1 => match q[i]? with
    | some x => stp ts kind rule q i (pasN ts kind rule q i) x
    | none => pasN ts kind rule q i
def pas (ts : TS) (kind rule : Int32) (q : List Sg) : List Sg × Int32 × Int32 := (pasN ts kind rule q q.length).1
theorem pasN_at {ts : TS} {kind rule : Int32} {q : List Sg} {i : Nat} {x : Sg} (h : q[i]? = some x) : pasN ts kind rule q (i + 1) = stp ts kind rule q i (pasN ts kind rule q i) x := by simp [pasN, h]
/-- a filter: kind, rule, met, grown -/
abbrev Fi : Type := Int32 × Int32 × Int32 × Int32
/-- the text through the filters, from the first one on: what comes out, and the filters behind it; none: too long -/
def runL (ts : TS) : List (Option Fi) → List Sg → Option (List Sg × List (Option Fi))
  | [], q => some (q, [])
  | none :: t, q => (runL ts t q).map (fun z => (z.1, none :: z.2))
  | some f :: t, q => if 300 < (pas ts f.1 f.2.1 q).1.length then none else (runL ts t (pas ts f.1 f.2.1 q).1).map (fun z => (z.1, some (f.1, f.2.1, (pas ts f.1 f.2.1 q).2.1, (pas ts f.1 f.2.1 q).2.2) :: z.2))
/-- the signs of a row of units -/
def two (hi lo : Int32) : Int32 := 65536 + 1024 * (hi - 55296) + lo - 56320
def sgN : Nat → List Int32 → Int32 → List Sg
  | 0, _, _ => []
  | _ + 1, [], _ => []
  | n + 1, [u], k => (u, k, k + 1) :: sgN n [] (k + 1)
  | n + 1, u :: w :: t, k => if isHiB u && isLoB w then (two u w, k, k + 2) :: sgN n t (k + 2) else (u, k, k + 1) :: sgN n (w :: t) (k + 1)
def sgs (u : List Int32) (k : Int32) : List Sg := sgN u.length u k
def clsOf (v : Int32) : Int32 := if 127 < v then 1 else if 65 ≤ v ∧ v ≤ 90 ∨ 97 ≤ v ∧ v ≤ 122 then 1 else if 48 ≤ v ∧ v ≤ 57 then 2 else if v = 9 ∨ v = 10 ∨ v = 13 ∨ v = 32 then 3 else if 33 ≤ v ∧ v ≤ 126 then 4 else 0
/-- nothing is taken back -/
theorem stp_le (ts : TS) (kind rule : Int32) (q : List Sg) (i : Nat) (a : Ac) (x : Sg) : a.1.1.length ≤ (stp ts kind rule q i a x).1.1.length := by
  unfold stp
  split
  · unfold stFold; split <;> simp
  split
  · unfold stComp
    split
    · simp
    · rename_i y hy
      split
      · simp
      · cases hl : a.1.1 with
        | nil => simp [hl] at hy
        | cons u t => simp
  split
  · unfold stDig; split <;> simp
  split
  · unfold stDrop; split <;> simp
  split
  · split
    · exact Nat.le_refl _
    · split <;> simp
  split
  · unfold stHalf
    split
    · split <;> simp
    · simp
  · unfold stWide
    split
    · simp
    · split <;> simp
theorem pasN_le {ts : TS} {kind rule : Int32} {q : List Sg} {i j : Nat} (h : i ≤ j) : (pasN ts kind rule q i).1.1.length ≤ (pasN ts kind rule q j).1.1.length := by
  induction h with
  | refl => exact Nat.le_refl _
  | @step k _ ih =>
    refine Nat.le_trans ih ?_
    cases hq : q[k]? with
    | some x => rw [pasN_at hq]; exact stp_le ..
    | none => simp [pasN, hq]
/-- a wider list's values by a function -/
def fL {α : Type} (f : Nat → α) (q : List α) : Prop := ∀ (j : Nat) (v : α), q[j]? = some v → f j = v
def upA {α : Type} (f : Nat → α) (k : Nat) (x : α) : Nat → α := fun j => if j = k then x else f j
theorem fL_nil {α : Type} (f : Nat → α) : fL f [] := fun j v h => by simp at h
theorem fL_app {f : Nat → Int32} {q : List Int32} {n : Nat} {v : Int32} (h : fL f q) (hn : q.length = n) : fL (upd f n v) (q ++ [v]) := by
  intro j w hw
  subst hn
  by_cases hj : j < q.length
  · rw [List.getElem?_append_left hj] at hw
    have : j ≠ q.length := by omega
    simp [upd, this, h j w hw]
  · rw [List.getElem?_append_right (by omega)] at hw
    have hz : j - q.length < 1 := by simpa using (List.getElem?_eq_some_iff.mp hw).1
    have e : j = q.length := by omega
    subst e
    simp at hw
    simp [upd, hw]
theorem fL_set {f : Nat → Int32} {q : List Int32} {k : Nat} {v : Int32} (h : fL f q) : fL (upd f k v) (q.set k v) := by
  intro j w hw
  by_cases hj : j = k
  · subst hj
    have hl : j < (q.set j v).length := (List.getElem?_eq_some_iff.mp hw).1
    rw [List.getElem?_set_self (by simpa using hl)] at hw
    cases hw
    simp [upd]
  · rw [List.getElem?_set_ne (Ne.symm hj)] at hw
    simp [upd, hj, h j w hw]
theorem fL_at {α : Type} {f : Nat → Int32} {q : List α} {j : Nat} {x : α} {π : α → Int32} (h : fL f (q.map π)) (hj : q[j]? = some x) : f j = π x := h j _ (by simp [hj])
theorem fL_drop {f : Nat → Int32} {q : List Int32} {n : Nat} (h : fL f q) (hn : q.length ≤ n) (v : Int32) : fL (upd f n v) q := by
  intro j w hw
  have hl : j < q.length := (List.getElem?_eq_some_iff.mp hw).1
  have : j ≠ n := by omega
  simp [upd, this, h j w hw]
/-- the world changed in A alone, and made nothing -/
def Fr (A : Nat → Prop) (h h' : xh) : Prop := h'.2 = h.2 ∧ ∀ b, ¬ A b → h'.1 b = h.1 b
theorem Fr.rf {A : Nat → Prop} {h : xh} : Fr A h h := ⟨rfl, fun _ _ => rfl⟩
theorem Fr.tr {A : Nat → Prop} {h h1 h2 : xh} (a : Fr A h h1) (b : Fr A h1 h2) : Fr A h h2 := ⟨b.1.trans a.1, fun q hq => (b.2 q hq).trans (a.2 q hq)⟩
theorem Fr.mono {A B : Nat → Prop} {h h' : xh} (a : Fr A h h') (hs : ∀ q, A q → B q) : Fr B h h' := ⟨a.1, fun q hq => a.2 q (fun z => hq (hs q z))⟩
theorem Fr.set {A : Nat → Prop} {h h' : xh} {a : Nat} {e : va_E} (k : Fr A h h') (ha : A a) : Fr A h (x_set h' a e) := ⟨k.1, fun q hq => (x_set_ne (fun z => hq (by rw [z]; exact ha)) rfl).trans (k.2 q hq)⟩
theorem Fr.at {A : Nat → Prop} {h h' : xh} {b : Nat} {r : Option va_E} (k : Fr A h h') (hb : ¬ A b) (hr : h.1 b = r) : h'.1 b = r := (k.2 b hb).trans hr
/-- the addresses lo .. lo + n - 1 -/
def At (lo n : Nat) : Nat → Prop := fun q => lo ≤ q ∧ q < lo + n
section XR2
variable {p : Program} {l : Launch} {e : Env} {R : Room} {s : State} {m : MethodId} {args : Array Value} {below : List Frame} {meth : Method} {c : Code} {G : xG} {bs : Nat} {Q : State → Prop} {cells slots pc : Nat} {L : List (Option Value)} {st : List Value} {h : xh}
/-- a local forgotten -/
theorem x_fg (k : Nat) (kk : X p l e R s m args below meth c G bs Q cells slots pc (L.set k none) st h) : X p l e R s m args below meth c G bs Q cells slots pc L st h := by
  intro H ls locs hH hS hL
  refine kk H ls locs hH hS (hL.sub (fun i v hv => ?_))
  by_cases hi : i = k
  · subst hi
    have hl : i < (L.set i none).length := (List.getElem?_eq_some_iff.mp hv).1
    rw [List.getElem?_set_self (by simpa using hl)] at hv
    cases hv
  · rw [List.getElem?_set_ne (Ne.symm hi)] at hv
    exact hv
end XR2

theorem drop_at {α : Type} {q : List α} {i : Nat} {v : α} (h : q[i]? = some v) : q.drop i = v :: q.drop (i + 1) := by
  obtain ⟨hl, e⟩ := List.getElem?_eq_some_iff.mp h
  rw [List.drop_eq_getElem_cons hl, e]
theorem take_at {α : Type} {q : List α} {i : Nat} {v : α} (h : q[i]? = some v) : q.take (i + 1) = q.take i ++ [v] := by rw [List.take_add_one, h]; rfl
theorem zdig_nil (x : Int32) : zdig [] x = -9 := rfl
theorem zdig_cons (z : Int32) (t : List Int32) (x : Int32) : zdig (z :: t) x = if z ≤ x ∧ x ≤ z + 9 then x - z else zdig t x := by
  unfold zdig
  rw [List.find?_cons]
  by_cases h : z ≤ x ∧ x ≤ z + 9
  · simp [h]
  · rw [if_neg h]
    have : (decide (z ≤ x) && decide (x ≤ z + 9)) = false := by simpa using fun a b => h ⟨a, b⟩
    rw [this]
theorem rhas_cons (z : Rg) (t : List Rg) (x : Int32) : rhas (z :: t) x = if z.1 ≤ x ∧ x ≤ z.2 then true else rhas t x := by
  unfold rhas
  rw [List.any_cons]
  by_cases h : z.1 ≤ x ∧ x ≤ z.2
  · simp [h]
  · rw [if_neg h]
    have : (decide (z.1 ≤ x) && decide (x ≤ z.2)) = false := by simpa using fun a b => h ⟨a, b⟩
    rw [this, Bool.false_or]
theorem aput_new {κ ν : Type} [BEq κ] [LawfulBEq κ] {q : List (κ × ν)} {x : κ} {v : ν} (h : x ∉ q.map (·.1)) : aput q x v = q ++ [(x, v)] := by
  unfold aput
  rw [if_neg]
  intro z
  obtain ⟨e, he, hx⟩ := List.any_eq_true.mp z
  exact h (List.mem_map.mpr ⟨e, he, eq_of_beq hx⟩)
theorem aput_old {κ ν : Type} [BEq κ] [LawfulBEq κ] {q : List (κ × ν)} {x : κ} {v : ν} {k : Nat} (hn : (q.map (·.1)).Nodup) (h : (q.map (·.1))[k]? = some x) : aput q x v = q.set k (x, v) := by
  have hk : k < q.length := by simpa using (List.getElem?_eq_some_iff.mp h).1
  have hx : (q.map (·.1))[k]'(by simpa using hk) = x := (List.getElem?_eq_some_iff.mp h).2
  unfold aput
  rw [if_pos]
  · apply List.ext_getElem?
    intro j
    rw [List.getElem?_map]
    by_cases hj : j < q.length
    · rw [List.getElem?_eq_getElem hj]
      by_cases hjk : j = k
      · subst hjk
        rw [List.getElem?_set_self hk]
        have : q[j].1 = x := by simpa using hx
        simp [this]
      · rw [List.getElem?_set_ne (Ne.symm hjk), List.getElem?_eq_getElem hj]
        have hne : q[j].1 ≠ x := by
          intro z
          have h1 : (q.map (·.1))[j]? = (q.map (·.1))[k]? := by rw [h, List.getElem?_map, List.getElem?_eq_getElem hj]; simp [z]
          exact hjk ((List.getElem?_inj (by simpa using hj) hn).mp h1)
        simp [hne]
    · rw [List.getElem?_eq_none (by omega), List.getElem?_eq_none (by simpa using Nat.not_lt.mp hj)]
      rfl
  · refine List.any_eq_true.mpr ⟨q[k], List.getElem_mem hk, ?_⟩
    have : q[k].1 = x := by simpa using hx
    simp [this]
theorem aput_keys {κ ν : Type} [BEq κ] [LawfulBEq κ] {q : List (κ × ν)} {x : κ} {v : ν} (hn : (q.map (·.1)).Nodup) : ((aput q x v).map (·.1)).Nodup := by
  by_cases h : x ∈ q.map (·.1)
  · obtain ⟨k, hk⟩ := List.getElem?_of_mem h
    rw [aput_old hn hk, List.map_set]
    have : (q.map (·.1)).set k x = q.map (·.1) := by
      apply List.ext_getElem?
      intro j
      by_cases hj : j = k
      · subst hj
        rw [List.getElem?_set_self (List.getElem?_eq_some_iff.mp hk).1, hk]
      · rw [List.getElem?_set_ne (Ne.symm hj)]
    rw [this]
    exact hn
  · rw [aput_new h, List.map_append, List.nodup_append]
    refine ⟨hn, by simp, ?_⟩
    intro a ha b hb
    simp at hb
    subst hb
    intro z
    subst z
    exact h ha
theorem aget_at {κ ν : Type} [BEq κ] [LawfulBEq κ] {q : List (κ × ν)} {x : κ} {e : κ × ν} {k : Nat} (hn : (q.map (·.1)).Nodup) (h : q[k]? = some e) (hx : e.1 = x) : aget q x = some e.2 := by
  induction q generalizing k with
  | nil => simp at h
  | cons a t ih =>
    unfold aget
    rw [List.find?_cons]
    by_cases ha : a.1 = x
    · have hb : (a.1 == x) = true := by simp [ha]
      rw [hb]
      cases k with
      | zero => simp at h; rw [h]; rfl
      | succ k =>
        exfalso
        rw [List.map_cons, List.nodup_cons] at hn
        apply hn.1
        rw [ha, ← hx]
        exact List.mem_map.mpr ⟨e, List.mem_of_getElem? (by simpa using h), rfl⟩
    · have hb : (a.1 == x) = false := by simpa using ha
      rw [hb]
      cases k with
      | zero => simp at h; rw [h] at ha; exact absurd hx ha
      | succ k =>
        rw [List.map_cons, List.nodup_cons] at hn
        exact ih hn.2 (k := k) (by simpa using h)
theorem aget_no {κ ν : Type} [BEq κ] [LawfulBEq κ] {q : List (κ × ν)} {x : κ} (h : x ∉ q.map (·.1)) : aget q x = none := by
  unfold aget
  rw [List.find?_eq_none.mpr]
  · rfl
  · intro e he hx
    exact h (List.mem_map.mpr ⟨e, he, eq_of_beq hx⟩)
theorem ite01 (P : Prop) [Decidable P] : (if P then (1 : Int32) else 0) = 0 ∨ (if P then (1 : Int32) else 0) = 1 := by
  by_cases h : P
  · exact Or.inr (if_pos h)
  · exact Or.inl (if_neg h)
section XR3
variable {p : Program} {l : Launch} {e : Env} {R : Room} {s : State} {m : MethodId} {args : Array Value} {below : List Frame} {meth : Method} {c : Code} {G : xG} {bs : Nat} {Q : State → Prop} {cells slots pc : Nat} {L : List (Option Value)} {st : List Value} {h : xh}
variable {own : String} {cc : ByteArray} {nL : Nat} {ret : Option FieldType}
theorem x_ifB_eq (C : Cx p s m args meth c G own cc nL ret) {P : Prop} [Decidable P] {off : Int} (hd : decode cc pc = .ok (.ifCond .eq off, 3)) (tgt : Nat) (kt : ¬ P → X p l e R s m args below meth c G bs Q cells slots tgt L st h) (kf : P → X p l e R s m args below meth c G bs Q cells slots (pc + 3) L st h) (ht : (pc : Int) + off = (tgt : Int) := by decide) : X p l e R s m args below meth c G bs Q cells slots pc L (.int (if P then 1 else 0) :: st) h := by
  by_cases hp : P
  · rw [if_pos hp]
    exact x_if_eq C hd tgt (fun q => absurd q (by decide)) (fun _ => kf hp) ht
  · rw [if_neg hp]
    exact x_if_eq C hd tgt (fun _ => kt hp) (fun q => absurd rfl q) ht
theorem x_ifB_ne (C : Cx p s m args meth c G own cc nL ret) {P : Prop} [Decidable P] {off : Int} (hd : decode cc pc = .ok (.ifCond .ne off, 3)) (tgt : Nat) (kt : P → X p l e R s m args below meth c G bs Q cells slots tgt L st h) (kf : ¬ P → X p l e R s m args below meth c G bs Q cells slots (pc + 3) L st h) (ht : (pc : Int) + off = (tgt : Int) := by decide) : X p l e R s m args below meth c G bs Q cells slots pc L (.int (if P then 1 else 0) :: st) h := by
  by_cases hp : P
  · rw [if_pos hp]
    exact x_if_ne C hd tgt (fun _ => kt hp) (fun q => absurd q (by decide)) ht
  · rw [if_neg hp]
    exact x_if_ne C hd tgt (fun q => absurd rfl q) (fun _ => kf hp) ht
end XR3
theorem m1_toInt : (-1 : Int32).toInt = -1 := by decide
end
section
/-! ROWS OF SIGNS: the class's SignRow -/
/-- a SignRow at r, its arrays behind it: it holds q -/
def RwF (G : xG) (h : xh) (r n : Nat) (f0 f1 f2 : Nat → Int32) : Prop := h.1 r = some (eO 5 [.ref (r + 1), .ref (r + 2), .ref (r + 3), .int (nI n)]) ∧ h.1 (r + 1) = some (eI G 300 f0) ∧ h.1 (r + 2) = some (eI G 300 f1) ∧ h.1 (r + 3) = some (eI G 300 f2)
def Rw (G : xG) (h : xh) (r : Nat) (q : List Sg) : Prop := q.length ≤ 300 ∧ ∃ f0 f1 f2 : Nat → Int32, RwF G h r q.length f0 f1 f2 ∧ fL f0 (q.map (·.1)) ∧ fL f1 (q.map (·.2.1)) ∧ fL f2 (q.map (·.2.2))
theorem Rw.fr {G : xG} {h h' : xh} {r : Nat} {q : List Sg} {A : Nat → Prop} (k : Rw G h r q) (f : Fr A h h') (hd : ∀ b, At r 4 b → ¬ A b) : Rw G h' r q := by
  obtain ⟨hn, f0, f1, f2, ⟨g0, g1, g2, g3⟩, k0⟩ := k
  exact ⟨hn, f0, f1, f2, ⟨f.at (hd r ⟨by omega, by omega⟩) g0, f.at (hd _ ⟨by omega, by omega⟩) g1, f.at (hd _ ⟨by omega, by omega⟩) g2, f.at (hd _ ⟨by omega, by omega⟩) g3⟩, k0⟩
theorem Rw.ob {G : xG} {h : xh} {r : Nat} {q : List Sg} (k : Rw G h r q) : h.1 r = some (eO 5 [.ref (r + 1), .ref (r + 2), .ref (r + 3), .int (nI q.length)]) := by
  obtain ⟨hn, f0, f1, f2, ⟨g0, g1, g2, g3⟩, k0⟩ := k
  exact g0
set_option maxRecDepth 100000 in
set_option maxHeartbeats 4000000 in
theorem c_row_init (l : Launch) (G : xG) {h : xh} {r : Nat} (hr : h.1 r = some (eO 5 [.null, .null, .null, .int 0])) (hn : h.2 = r + 1) : Ct l G yX5_init cX5_init 1 (Option.none : Option Jvm.ClassFile.FieldType) { frames := 1, cells := 3, slots := 900, locals := 16 } [.ref r] h (fun v h' => v = none ∧ Rw G h' r [] ∧ h'.2 = r + 4 ∧ ∀ b, b < r → h'.1 b = h.1 b) := by
  refine Ct.of [some (.ref r)] (by decide +kernel) (Nat.le_of_ble_eq_true rfl) (fun p e s m args below meth c bs C hini => ?_)
  refine x_aload_n C dX5_init_0 (kk := ?_)
  refine x_oinit C tw_86 dX5_init_1 tw_20 tw_21 (kk := ?_)
  refine x_aload_n C dX5_init_4 (kk := ?_)
  refine x_sipush C dX5_init_5 (v := 300) (kk := ?_)
  refine x_newi C 300 tw_37 dX5_init_8 (kk := ?_)
  refine x_putF C hini fp_X5_9 dX5_init_10 (fs := [.null, .null, .null, .int 0]) (hh := by simp [x_set, x_new, *] <;> omega) (kk := ?_)
  refine x_aload_n C dX5_init_13 (kk := ?_)
  refine x_sipush C dX5_init_14 (v := 300) (kk := ?_)
  refine x_newi C 300 tw_37 dX5_init_17 (kk := ?_)
  refine x_putF C hini fp_X5_15 dX5_init_19 (fs := [.ref (r + 1), .null, .null, .int 0]) (hh := by simp [x_set, x_new, *] <;> omega) (kk := ?_)
  refine x_aload_n C dX5_init_22 (kk := ?_)
  refine x_sipush C dX5_init_23 (v := 300) (kk := ?_)
  refine x_newi C 300 tw_37 dX5_init_26 (kk := ?_)
  refine x_putF C hini fp_X5_18 dX5_init_28 (fs := [.ref (r + 1), .ref (r + 2), .null, .int 0]) (hh := by simp [x_set, x_new, *] <;> omega) (kk := ?_)
  refine x_aload_n C dX5_init_31 (kk := ?_)
  refine x_iconst C dX5_init_32 (v := 0) (kk := ?_)
  refine x_put C fp_X5_21 dX5_init_33 (fs := [.ref (r + 1), .ref (r + 2), .ref (r + 3), .int 0]) (hh := by simp [x_set, x_new, *] <;> omega) (kk := ?_)
  refine x_vret C rfl dX5_init_36 (hp := ?_)
  exact ⟨rfl, ⟨by simp, (fun _ => 0), (fun _ => 0), (fun _ => 0), ⟨by simp [x_set, x_new, hn]; rfl, by simp [x_set, x_new, hn], by simp [x_set, x_new, hn], by simp [x_set, x_new, hn]⟩, fL_nil _, fL_nil _, fL_nil _⟩, by simp [x_set, x_new, hn], fun b hb => by simp [x_set, x_new, hn, show b ≠ r by omega, show b ≠ r + 1 by omega, show b ≠ r + 2 by omega, show b ≠ r + 3 by omega]⟩
set_option maxRecDepth 100000 in
set_option maxHeartbeats 4000000 in
theorem c_row_size (l : Launch) (G : xG) {h : xh} {r : Nat} {q : List Sg} (hr : Rw G h r q) : Ct l G yX5_size cX5_size 1 (Option.some Jvm.ClassFile.FieldType.int) { frames := 0, cells := 0, slots := 0, locals := 0 } [.ref r] h (fun v h' => v = some (.int (nI q.length)) ∧ h' = h) := by
  obtain ⟨hn, f0, f1, f2, ⟨g0, g1, g2, g3⟩, k0, k1, k2⟩ := hr
  refine Ct.of [some (.ref r)] (by decide +kernel) (Nat.le_of_ble_eq_true rfl) (fun p e s m args below meth c bs C hini => ?_)
  refine x_aload_n C dX5_size_0 (kk := ?_)
  refine x_get C fl_X5_21 dX5_size_1 (kk := ?_)
  refine x_iret C rfl dX5_size_4 (hp := ?_)
  exact ⟨rfl, rfl⟩
set_option maxRecDepth 100000 in
set_option maxHeartbeats 4000000 in
theorem c_row_has (l : Launch) (G : xG) {h : xh} {r : Nat} {q : List Sg} (i : Int32) (hr : Rw G h r q) : Ct l G yX5_has cX5_has 2 (Option.some Jvm.ClassFile.FieldType.boolean) { frames := 0, cells := 0, slots := 0, locals := 0 } [.ref r, .int i] h (fun v h' => v = some (.int (if 0 ≤ i ∧ i < nI q.length then 1 else 0)) ∧ h' = h) := by
  obtain ⟨hn, f0, f1, f2, ⟨g0, g1, g2, g3⟩, k0, k1, k2⟩ := hr
  refine Ct.of [some (.ref r), some (.int i)] (by decide +kernel) (Nat.le_of_ble_eq_true rfl) (fun p e s m args below meth c bs C hini => ?_)
  refine x_iload_n C dX5_has_0 (kk := ?_)
  refine x_if_lt C dX5_has_1 16 (fun hc1 => ?_) (fun hc1 => ?_)
  · refine x_iconst C dX5_has_16 (v := 0) (kk := ?_)
    refine x_zret C rfl dX5_has_17 (by first | exact Or.inl rfl | exact Or.inr rfl | assumption | exact ite01 _) (hp := ?_)
    refine ⟨?_, rfl⟩
    simp only [Int32.lt_iff_toInt_lt, Int32.le_iff_toInt_le, Int32.not_lt, Int32.not_le, ← Int32.toInt_inj, Int32.reduceToInt, m1_toInt] at hc1 ⊢
    split <;> first | rfl | (exfalso; omega)
  · refine x_iload_n C dX5_has_4 (kk := ?_)
    refine x_aload_n C dX5_has_5 (kk := ?_)
    refine x_get C fl_X5_21 dX5_has_6 (kk := ?_)
    refine x_icmp_ge C dX5_has_9 16 (fun hc9 => ?_) (fun hc9 => ?_)
    · refine x_iconst C dX5_has_16 (v := 0) (kk := ?_)
      refine x_zret C rfl dX5_has_17 (by first | exact Or.inl rfl | exact Or.inr rfl | assumption | exact ite01 _) (hp := ?_)
      refine ⟨?_, rfl⟩
      simp only [Int32.lt_iff_toInt_lt, Int32.le_iff_toInt_le, Int32.not_lt, Int32.not_le, ← Int32.toInt_inj, Int32.reduceToInt, m1_toInt] at hc1 hc9 ⊢
      split <;> first | rfl | (exfalso; omega)
    · refine x_iconst C dX5_has_12 (v := 1) (kk := ?_)
      refine x_goto C dX5_has_13 17 ?_
      refine x_zret C rfl dX5_has_17 (by first | exact Or.inl rfl | exact Or.inr rfl | assumption | exact ite01 _) (hp := ?_)
      refine ⟨?_, rfl⟩
      simp only [Int32.lt_iff_toInt_lt, Int32.le_iff_toInt_le, Int32.not_lt, Int32.not_le, ← Int32.toInt_inj, Int32.reduceToInt, m1_toInt] at hc1 hc9 ⊢
      split <;> first | rfl | (exfalso; omega)
theorem has_nI {i n : Nat} (h : i < n) (hn : n < 2 ^ 31) : (if (0 : Int32) ≤ nI i ∧ nI i < nI n then (1 : Int32) else 0) = 1 := if_pos ⟨nI_pos' (by omega), nI_lt h hn⟩
theorem has_no {i : Int32} {n : Nat} (h : ¬ (0 ≤ i ∧ i < nI n)) : (if (0 : Int32) ≤ i ∧ i < nI n then (1 : Int32) else 0) = 0 := if_neg h
set_option maxRecDepth 100000 in
set_option maxHeartbeats 4000000 in
theorem c_row_signAt (l : Launch) (G : xG) {h : xh} {r : Nat} {q : List Sg} {i : Nat} {x : Sg} (hi : q[i]? = some x) (hr : Rw G h r q) : Ct l G yX5_signAt cX5_signAt 2 (Option.some Jvm.ClassFile.FieldType.int) { frames := 1, cells := 0, slots := 0, locals := 21 } [.ref r, .int (nI i)] h (fun v h' => v = some (.int x.1) ∧ h' = h) := by
  have hil : i < q.length := (List.getElem?_eq_some_iff.mp hi).1
  have hr0 := hr
  obtain ⟨hn, f0, f1, f2, ⟨g0, g1, g2, g3⟩, k0, k1, k2⟩ := hr
  refine Ct.of [some (.ref r), some (.int (nI i))] (by decide +kernel) (Nat.le_of_ble_eq_true rfl) (fun p e s m args below meth c bs C hini => ?_)
  refine x_aload_n C dX5_signAt_0 (kk := ?_)
  refine x_iload_n C dX5_signAt_1 (kk := ?_)
  refine x_callV C ml_X5_has lk_X5_25 (c_row_has l G (nI i) hr0) dX5_signAt_2 (fun r2 h2 hp2 => ?_)
  obtain ⟨rfl, rfl⟩ := hp2
  rw [has_nI hil (by omega)]
  refine x_if_eq C dX5_signAt_5 17 (fun hc5 => ?_) (fun hc5 => ?_)
  · exact absurd hc5 (by decide)
  · refine x_aload_n C dX5_signAt_8 (kk := ?_)
    refine x_get C fl_X5_9 dX5_signAt_9 (kk := ?_)
    refine x_iload_n C dX5_signAt_12 (kk := ?_)
    refine x_iald C _ dX5_signAt_13 (kk := ?_)
    refine x_goto C dX5_signAt_14 18 ?_
    refine x_iret C rfl dX5_signAt_18 (hp := ?_)
    exact ⟨by rw [fL_at k0 hi], rfl⟩
set_option maxRecDepth 100000 in
set_option maxHeartbeats 4000000 in
theorem c_row_beginAt (l : Launch) (G : xG) {h : xh} {r : Nat} {q : List Sg} {i : Nat} {x : Sg} (hi : q[i]? = some x) (hr : Rw G h r q) : Ct l G yX5_beginAt cX5_beginAt 2 (Option.some Jvm.ClassFile.FieldType.int) { frames := 1, cells := 0, slots := 0, locals := 21 } [.ref r, .int (nI i)] h (fun v h' => v = some (.int x.2.1) ∧ h' = h) := by
  have hil : i < q.length := (List.getElem?_eq_some_iff.mp hi).1
  have hr0 := hr
  obtain ⟨hn, f0, f1, f2, ⟨g0, g1, g2, g3⟩, k0, k1, k2⟩ := hr
  refine Ct.of [some (.ref r), some (.int (nI i))] (by decide +kernel) (Nat.le_of_ble_eq_true rfl) (fun p e s m args below meth c bs C hini => ?_)
  refine x_aload_n C dX5_beginAt_0 (kk := ?_)
  refine x_iload_n C dX5_beginAt_1 (kk := ?_)
  refine x_callV C ml_X5_has lk_X5_25 (c_row_has l G (nI i) hr0) dX5_beginAt_2 (fun r2 h2 hp2 => ?_)
  obtain ⟨rfl, rfl⟩ := hp2
  rw [has_nI hil (by omega)]
  refine x_if_eq C dX5_beginAt_5 17 (fun hc5 => ?_) (fun hc5 => ?_)
  · exact absurd hc5 (by decide)
  · refine x_aload_n C dX5_beginAt_8 (kk := ?_)
    refine x_get C fl_X5_15 dX5_beginAt_9 (kk := ?_)
    refine x_iload_n C dX5_beginAt_12 (kk := ?_)
    refine x_iald C _ dX5_beginAt_13 (kk := ?_)
    refine x_goto C dX5_beginAt_14 18 ?_
    refine x_iret C rfl dX5_beginAt_18 (hp := ?_)
    exact ⟨by rw [fL_at k1 hi], rfl⟩
set_option maxRecDepth 100000 in
set_option maxHeartbeats 4000000 in
theorem c_row_endAt (l : Launch) (G : xG) {h : xh} {r : Nat} {q : List Sg} {i : Nat} {x : Sg} (hi : q[i]? = some x) (hr : Rw G h r q) : Ct l G yX5_endAt cX5_endAt 2 (Option.some Jvm.ClassFile.FieldType.int) { frames := 1, cells := 0, slots := 0, locals := 21 } [.ref r, .int (nI i)] h (fun v h' => v = some (.int x.2.2) ∧ h' = h) := by
  have hil : i < q.length := (List.getElem?_eq_some_iff.mp hi).1
  have hr0 := hr
  obtain ⟨hn, f0, f1, f2, ⟨g0, g1, g2, g3⟩, k0, k1, k2⟩ := hr
  refine Ct.of [some (.ref r), some (.int (nI i))] (by decide +kernel) (Nat.le_of_ble_eq_true rfl) (fun p e s m args below meth c bs C hini => ?_)
  refine x_aload_n C dX5_endAt_0 (kk := ?_)
  refine x_iload_n C dX5_endAt_1 (kk := ?_)
  refine x_callV C ml_X5_has lk_X5_25 (c_row_has l G (nI i) hr0) dX5_endAt_2 (fun r2 h2 hp2 => ?_)
  obtain ⟨rfl, rfl⟩ := hp2
  rw [has_nI hil (by omega)]
  refine x_if_eq C dX5_endAt_5 17 (fun hc5 => ?_) (fun hc5 => ?_)
  · exact absurd hc5 (by decide)
  · refine x_aload_n C dX5_endAt_8 (kk := ?_)
    refine x_get C fl_X5_18 dX5_endAt_9 (kk := ?_)
    refine x_iload_n C dX5_endAt_12 (kk := ?_)
    refine x_iald C _ dX5_endAt_13 (kk := ?_)
    refine x_goto C dX5_endAt_14 18 ?_
    refine x_iret C rfl dX5_endAt_18 (hp := ?_)
    exact ⟨by rw [fL_at k2 hi], rfl⟩
set_option maxRecDepth 100000 in
set_option maxHeartbeats 4000000 in
theorem c_row_clear (l : Launch) (G : xG) {h : xh} {r : Nat} {q : List Sg} (hr : Rw G h r q) : Ct l G yX5_clear cX5_clear 1 (Option.none : Option Jvm.ClassFile.FieldType) { frames := 0, cells := 0, slots := 0, locals := 0 } [.ref r] h (fun v h' => v = none ∧ Rw G h' r [] ∧ Fr (At r 4) h h') := by
  obtain ⟨hn, f0, f1, f2, ⟨g0, g1, g2, g3⟩, k0, k1, k2⟩ := hr
  refine Ct.of [some (.ref r)] (by decide +kernel) (Nat.le_of_ble_eq_true rfl) (fun p e s m args below meth c bs C hini => ?_)
  refine x_aload_n C dX5_clear_0 (kk := ?_)
  refine x_iconst C dX5_clear_1 (v := 0) (kk := ?_)
  refine x_put C fp_X5_21 dX5_clear_2 (kk := ?_)
  refine x_vret C rfl dX5_clear_5 (hp := ?_)
  exact ⟨rfl, ⟨by simp, f0, f1, f2, ⟨x_set_eq, x_set_ne (by omega) g1, x_set_ne (by omega) g2, x_set_ne (by omega) g3⟩, fL_nil _, fL_nil _, fL_nil _⟩, Fr.rf.set ⟨by omega, by omega⟩⟩
set_option maxRecDepth 100000 in
set_option maxHeartbeats 4000000 in
theorem c_row_add (l : Launch) (G : xG) {h : xh} {r : Nat} {q : List Sg} (x : Sg) (hr : Rw G h r q) : Ct l G yX5_add cX5_add 4 (Option.some Jvm.ClassFile.FieldType.boolean) { frames := 0, cells := 0, slots := 0, locals := 0 } [.ref r, .int x.1, .int x.2.1, .int x.2.2] h (fun v h' => (q.length < 300 ∧ v = some (.int 1) ∧ Rw G h' r (q ++ [x]) ∧ Fr (At r 4) h h') ∨ (q.length = 300 ∧ v = some (.int 0) ∧ h' = h)) := by
  obtain ⟨hn, f0, f1, f2, ⟨g0, g1, g2, g3⟩, k0, k1, k2⟩ := hr
  refine Ct.of [some (.ref r), some (.int x.1), some (.int x.2.1), some (.int x.2.2)] (by decide +kernel) (Nat.le_of_ble_eq_true rfl) (fun p e s m args below meth c bs C hini => ?_)
  refine x_aload_n C dX5_add_0 (kk := ?_)
  refine x_get C fl_X5_21 dX5_add_1 (kk := ?_)
  refine x_sipush C dX5_add_4 (v := 300) (kk := ?_)
  refine x_ncmp_lt C q.length 300 dX5_add_7 12 (fun hc7 => ?_) (fun hc7 => ?_)
  · refine x_aload_n C dX5_add_12 (kk := ?_)
    refine x_get C fl_X5_9 dX5_add_13 (kk := ?_)
    refine x_aload_n C dX5_add_16 (kk := ?_)
    refine x_get C fl_X5_21 dX5_add_17 (kk := ?_)
    refine x_iload_n C dX5_add_20 (kk := ?_)
    refine x_iast C _ dX5_add_21 (kk := ?_)
    refine x_aload_n C dX5_add_22 (kk := ?_)
    refine x_get C fl_X5_15 dX5_add_23 (kk := ?_)
    refine x_aload_n C dX5_add_26 (kk := ?_)
    refine x_get C fl_X5_21 dX5_add_27 (kk := ?_)
    refine x_iload_n C dX5_add_30 (kk := ?_)
    refine x_iast C _ dX5_add_31 (kk := ?_)
    refine x_aload_n C dX5_add_32 (kk := ?_)
    refine x_get C fl_X5_18 dX5_add_33 (kk := ?_)
    refine x_aload_n C dX5_add_36 (kk := ?_)
    refine x_get C fl_X5_21 dX5_add_37 (kk := ?_)
    refine x_iload_n C dX5_add_40 (kk := ?_)
    refine x_iast C _ dX5_add_41 (kk := ?_)
    refine x_aload_n C dX5_add_42 (kk := ?_)
    refine x_dup C dX5_add_43 (kk := ?_)
    refine x_get C fl_X5_21 dX5_add_44 (kk := ?_)
    refine x_iconst C dX5_add_47 (v := 1) (kk := ?_)
    refine x_iadd C dX5_add_48 ?_
    refine x_top _ (nI_1 q.length) ?_
    refine x_put C fp_X5_21 dX5_add_49 (kk := ?_)
    refine x_iconst C dX5_add_52 (v := 1) (kk := ?_)
    refine x_zret C rfl dX5_add_53 (by first | exact Or.inl rfl | exact Or.inr rfl | assumption | exact ite01 _) (hp := ?_)
    first | exact Or.inr ⟨by omega, rfl, rfl⟩ | exact Or.inl ⟨by omega, rfl, ⟨by simp; omega, _, _, _, ⟨by rw [List.length_append]; exact x_set_eq, x_set_ne (by omega) (x_set_ne (by omega) (x_set_ne (by omega) x_set_eq)), x_set_ne (by omega) (x_set_ne (by omega) x_set_eq), x_set_ne (by omega) x_set_eq⟩, by rw [List.map_append]; exact fL_app k0 (by simp), by rw [List.map_append]; exact fL_app k1 (by simp), by rw [List.map_append]; exact fL_app k2 (by simp)⟩, (((Fr.rf.set ⟨by omega, by omega⟩).set ⟨by omega, by omega⟩).set ⟨by omega, by omega⟩).set ⟨by omega, by omega⟩⟩
  · refine x_iconst C dX5_add_10 (v := 0) (kk := ?_)
    refine x_zret C rfl dX5_add_11 (by first | exact Or.inl rfl | exact Or.inr rfl | assumption | exact ite01 _) (hp := ?_)
    first | exact Or.inr ⟨by omega, rfl, rfl⟩ | exact Or.inl ⟨by omega, rfl, ⟨by simp; omega, _, _, _, ⟨by rw [List.length_append]; exact x_set_eq, x_set_ne (by omega) (x_set_ne (by omega) (x_set_ne (by omega) x_set_eq)), x_set_ne (by omega) (x_set_ne (by omega) x_set_eq), x_set_ne (by omega) x_set_eq⟩, by rw [List.map_append]; exact fL_app k0 (by simp), by rw [List.map_append]; exact fL_app k1 (by simp), by rw [List.map_append]; exact fL_app k2 (by simp)⟩, (((Fr.rf.set ⟨by omega, by omega⟩).set ⟨by omega, by omega⟩).set ⟨by omega, by omega⟩).set ⟨by omega, by omega⟩⟩
theorem fL_last {f : Nat → Int32} {t : List Int32} {u v : Int32} {n : Nat} (h : fL f (t ++ [u])) (hn : t.length = n) : fL (upd f n v) (t ++ [v]) := by
  intro j w hw
  subst hn
  by_cases hj : j < t.length
  · rw [List.getElem?_append_left hj] at hw
    have : j ≠ t.length := by omega
    simp [upd, this]
    exact h j w (by rw [List.getElem?_append_left hj]; exact hw)
  · rw [List.getElem?_append_right (by omega)] at hw
    have hz : j - t.length < 1 := by simpa using (List.getElem?_eq_some_iff.mp hw).1
    have e : j = t.length := by omega
    subst e
    simp at hw
    simp [upd, hw]
set_option maxRecDepth 100000 in
set_option maxHeartbeats 4000000 in
theorem c_row_changeLast (l : Launch) (G : xG) {h : xh} {r : Nat} {q : List Sg} {y : Sg} (a b : Int32) (hy : q.getLast? = some y) (hr : Rw G h r q) : Ct l G yX5_changeLast cX5_changeLast 3 (Option.none : Option Jvm.ClassFile.FieldType) { frames := 0, cells := 0, slots := 0, locals := 0 } [.ref r, .int a, .int b] h (fun v h' => v = none ∧ Rw G h' r (q.dropLast ++ [(a, y.2.1, b)]) ∧ Fr (At r 4) h h') := by
  obtain ⟨t, rfl⟩ := List.getLast?_eq_some_iff.mp hy
  obtain ⟨hn, f0, f1, f2, ⟨g0, g1, g2, g3⟩, k0, k1, k2⟩ := hr
  simp only [List.length_append, List.length_cons, List.length_nil, Nat.zero_add, List.map_append, List.map_cons, List.map_nil] at g0 hn k0 k1 k2
  refine Ct.of [some (.ref r), some (.int a), some (.int b)] (by decide +kernel) (Nat.le_of_ble_eq_true rfl) (fun p e s m args below meth c bs C hini => ?_)
  refine x_aload_n C dX5_changeLast_0 (kk := ?_)
  refine x_get C fl_X5_21 dX5_changeLast_1 (kk := ?_)
  refine x_nif_le C (t.length + 1) dX5_changeLast_4 31 (fun hc4 => ?_) (fun hc4 => ?_)
  · omega
  · refine x_aload_n C dX5_changeLast_7 (kk := ?_)
    refine x_get C fl_X5_9 dX5_changeLast_8 (kk := ?_)
    refine x_aload_n C dX5_changeLast_11 (kk := ?_)
    refine x_get C fl_X5_21 dX5_changeLast_12 (kk := ?_)
    refine x_iconst C dX5_changeLast_15 (v := 1) (kk := ?_)
    refine x_isub C dX5_changeLast_16 ?_
    refine x_top _ (nI_pred t.length) ?_
    refine x_iload_n C dX5_changeLast_17 (kk := ?_)
    refine x_iast C _ dX5_changeLast_18 (kk := ?_)
    refine x_aload_n C dX5_changeLast_19 (kk := ?_)
    refine x_get C fl_X5_18 dX5_changeLast_20 (kk := ?_)
    refine x_aload_n C dX5_changeLast_23 (kk := ?_)
    refine x_get C fl_X5_21 dX5_changeLast_24 (kk := ?_)
    refine x_iconst C dX5_changeLast_27 (v := 1) (kk := ?_)
    refine x_isub C dX5_changeLast_28 ?_
    refine x_top _ (nI_pred t.length) ?_
    refine x_iload_n C dX5_changeLast_29 (kk := ?_)
    refine x_iast C _ dX5_changeLast_30 (kk := ?_)
    refine x_vret C rfl dX5_changeLast_31 (hp := ?_)
    rw [List.dropLast_concat]
    exact ⟨rfl, ⟨by simp; omega, _, _, _, ⟨by rw [List.length_append]; exact x_set_ne (by omega) (x_set_ne (by omega) g0), x_set_ne (by omega) x_set_eq, x_set_ne (by omega) (x_set_ne (by omega) g2), x_set_eq⟩, by rw [List.map_append]; exact fL_last k0 (by simp), by rw [List.map_append]; exact k1, by rw [List.map_append]; exact fL_last k2 (by simp)⟩, (Fr.rf.set ⟨by omega, by omega⟩).set ⟨by omega, by omega⟩⟩
set_option maxRecDepth 100000 in
set_option maxHeartbeats 4000000 in
theorem c_row_copyFrom (l : Launch) (G : xG) {h : xh} {r o : Nat} {q w : List Sg} (hd : r + 4 ≤ o ∨ o + 4 ≤ r) (hr : Rw G h r w) (ho : Rw G h o q) : Ct l G yX5_copyFrom cX5_copyFrom 3 (Option.none : Option Jvm.ClassFile.FieldType) { frames := 2, cells := 0, slots := 0, locals := 42 } [.ref r, .ref o] h (fun v h' => v = none ∧ Rw G h' r q ∧ Fr (At r 4) h h') := by
  refine Ct.of [some (.ref r), some (.ref o), none] (by decide +kernel) (Nat.le_of_ble_eq_true rfl) (fun p e s m args below meth c bs C hini => ?_)
  have hro := hr.ob
  have hoo := ho.ob
  have hql := ho.1
  have loop : ∀ (n i : Nat) (h1 : xh), q.length - i < n → i ≤ q.length → Rw G h1 r (q.take i) → Fr (At r 4) h h1 → X p l e { frames := 2, cells := 0, slots := 0, locals := 42 } s m args below meth c G bs (MQ below (x_Q G bs (fun v h' => v = none ∧ Rw G h' r q ∧ Fr (At r 4) h h')) args s 0 0 (fun q => bs ≤ q)) 0 0 6 [some (.ref r), some (.ref o), some (.int (nI i))] [] h1 := by
    intro n
    induction n with
    | zero => intro i h1 hn; omega
    | succ n ih =>
      intro i h1 hn hi hr1 hf
      have ho1 : Rw G h1 o q := ho.fr hf (fun b z w => by unfold At at z w; omega)
      have hro1 := hr1.ob
      have hoo1 := ho1.ob
      refine x_iload_n C dX5_copyFrom_6 (kk := ?_)
      refine x_aload_n C dX5_copyFrom_7 (kk := ?_)
      refine x_callV C ml_X5_size lk_X5_32 (c_row_size l G ho1) dX5_copyFrom_8 (fun r8 h8 hp8 => ?_)
      obtain ⟨rfl, rfl⟩ := hp8
      refine x_ncmp_ge C i q.length dX5_copyFrom_11 40 (fun hc11 => ?_) (fun hc11 => ?_)
      · refine x_vret C rfl dX5_copyFrom_40 (hp := ?_)
        exact ⟨rfl, by rw [List.take_of_length_le hc11] at hr1; exact hr1, hf⟩
      obtain ⟨x, hx⟩ : ∃ x, q[i]? = some x := ⟨q[i], List.getElem?_eq_getElem hc11⟩
      refine x_aload_n C dX5_copyFrom_14 (kk := ?_)
      refine x_aload_n C dX5_copyFrom_15 (kk := ?_)
      refine x_iload_n C dX5_copyFrom_16 (kk := ?_)
      refine x_callV C ml_X5_signAt lk_X5_35 (c_row_signAt l G hx ho1) dX5_copyFrom_17 (fun r17 h17 hp17 => ?_)
      obtain ⟨rfl, rfl⟩ := hp17
      refine x_aload_n C dX5_copyFrom_20 (kk := ?_)
      refine x_iload_n C dX5_copyFrom_21 (kk := ?_)
      refine x_callV C ml_X5_beginAt lk_X5_39 (c_row_beginAt l G hx ho1) dX5_copyFrom_22 (fun r22 h22 hp22 => ?_)
      obtain ⟨rfl, rfl⟩ := hp22
      refine x_aload_n C dX5_copyFrom_25 (kk := ?_)
      refine x_iload_n C dX5_copyFrom_26 (kk := ?_)
      refine x_callV C ml_X5_endAt lk_X5_42 (c_row_endAt l G hx ho1) dX5_copyFrom_27 (fun r27 h27 hp27 => ?_)
      obtain ⟨rfl, rfl⟩ := hp27
      refine x_callV C ml_X5_add lk_X5_45 (c_row_add l G x hr1) dX5_copyFrom_30 (fun r30 h30 hp30 => ?_)
      rcases hp30 with ⟨-, rfl, hr2, hf2⟩ | ⟨hbad, -, -⟩
      rotate_left
      · simp at hbad; omega
      refine x_pop C dX5_copyFrom_33 (kk := ?_)
      refine x_iinc1 C dX5_copyFrom_34 (kk := ?_)
      refine x_goto C dX5_copyFrom_37 6 ?_
      exact ih (i + 1) _ (by omega) (by omega) (by rw [List.take_add_one, hx]; exact hr2) (hf.tr hf2)
  refine x_aload_n C dX5_copyFrom_0 (kk := ?_)
  refine x_callV C ml_X5_clear lk_X5_29 (c_row_clear l G hr) dX5_copyFrom_1 (fun r1 h1 hp1 => ?_)
  obtain ⟨rfl, hr1, hf1⟩ := hp1
  refine x_iconst C dX5_copyFrom_4 (v := 0) (kk := ?_)
  refine x_istore_n C dX5_copyFrom_5 (kk := ?_)
  exact loop (q.length + 1) 0 _ (by omega) (by omega) (by simpa using hr1) hf1
end
section
/-! THE TABLES AND FILTERS OF THE CLASS -/
def Zt (G : xG) (h : xh) (z : Nat) (zs : List Int32) : Prop := zs.length ≤ 10 ∧ h.1 z = some (eO 7 [.ref (z + 1), .int (nI zs.length)]) ∧ ∃ f : Nat → Int32, h.1 (z + 1) = some (eI G 10 f) ∧ fL f zs
theorem Zt.fr {G : xG} {h h' : xh} {z : Nat} {zs : List Int32} {A : Nat → Prop} (k : Zt G h z zs) (f : Fr A h h') (hd : ∀ b, At z 2 b → ¬ A b) : Zt G h' z zs := by
  obtain ⟨h0, h1, g, h2, h3⟩ := k
  exact ⟨h0, f.at (hd _ ⟨by omega, by omega⟩) h1, g, f.at (hd _ ⟨by omega, by omega⟩) h2, h3⟩
set_option maxRecDepth 100000 in
set_option maxHeartbeats 4000000 in
theorem c_z_size (l : Launch) (G : xG) {h : xh} {z : Nat} {zs : List Int32} (hz : Zt G h z zs) : Ct l G yX7_size cX7_size 1 (Option.some Jvm.ClassFile.FieldType.int) { frames := 0, cells := 0, slots := 0, locals := 0 } [.ref z] h (fun v h' => v = some (.int (nI zs.length)) ∧ h' = h) := by
  obtain ⟨hn, g0, f, g1, k0⟩ := hz
  refine Ct.of [some (.ref z)] (by decide +kernel) (Nat.le_of_ble_eq_true rfl) (fun p e s m args below meth c bs C hini => ?_)
  refine x_aload_n C dX7_size_0 (kk := ?_)
  refine x_get C fl_X7_15 dX7_size_1 (kk := ?_)
  refine x_iret C rfl dX7_size_4 (hp := ?_)
  exact ⟨rfl, rfl⟩
set_option maxRecDepth 100000 in
set_option maxHeartbeats 4000000 in
theorem c_z_add (l : Launch) (G : xG) {h : xh} {z : Nat} {zs : List Int32} (x : Int32) (hz : Zt G h z zs) : Ct l G yX7_add cX7_add 2 (Option.some Jvm.ClassFile.FieldType.boolean) { frames := 0, cells := 0, slots := 0, locals := 0 } [.ref z, .int x] h (fun v h' => (zs.length < 10 ∧ v = some (.int 1) ∧ Zt G h' z (zs ++ [x]) ∧ Fr (At z 2) h h') ∨ (zs.length = 10 ∧ v = some (.int 0) ∧ h' = h)) := by
  obtain ⟨hn, g0, f, g1, k0⟩ := hz
  refine Ct.of [some (.ref z), some (.int x)] (by decide +kernel) (Nat.le_of_ble_eq_true rfl) (fun p e s m args below meth c bs C hini => ?_)
  refine x_aload_n C dX7_add_0 (kk := ?_)
  refine x_get C fl_X7_15 dX7_add_1 (kk := ?_)
  refine x_bipush C dX7_add_4 (v := 10) (kk := ?_)
  refine x_ncmp_lt C zs.length 10 dX7_add_6 11 (fun hc6 => ?_) (fun hc6 => ?_)
  · refine x_aload_n C dX7_add_11 (kk := ?_)
    refine x_get C fl_X7_9 dX7_add_12 (kk := ?_)
    refine x_aload_n C dX7_add_15 (kk := ?_)
    refine x_get C fl_X7_15 dX7_add_16 (kk := ?_)
    refine x_iload_n C dX7_add_19 (kk := ?_)
    refine x_iast C _ dX7_add_20 (kk := ?_)
    refine x_aload_n C dX7_add_21 (kk := ?_)
    refine x_dup C dX7_add_22 (kk := ?_)
    refine x_get C fl_X7_15 dX7_add_23 (kk := ?_)
    refine x_iconst C dX7_add_26 (v := 1) (kk := ?_)
    refine x_iadd C dX7_add_27 ?_
    refine x_top _ (nI_1 zs.length) ?_
    refine x_put C fp_X7_15 dX7_add_28 (kk := ?_)
    refine x_iconst C dX7_add_31 (v := 1) (kk := ?_)
    refine x_zret C rfl dX7_add_32 (by first | exact Or.inl rfl | exact Or.inr rfl | assumption | exact ite01 _) (hp := ?_)
    first | exact Or.inr ⟨by omega, rfl, rfl⟩ | exact Or.inl ⟨by omega, rfl, ⟨by simp; omega, by rw [List.length_append]; exact x_set_eq, _, x_set_ne (by omega) x_set_eq, fL_app k0 rfl⟩, (Fr.rf.set ⟨by omega, by omega⟩).set ⟨by omega, by omega⟩⟩
  · refine x_iconst C dX7_add_9 (v := 0) (kk := ?_)
    refine x_zret C rfl dX7_add_10 (by first | exact Or.inl rfl | exact Or.inr rfl | assumption | exact ite01 _) (hp := ?_)
    first | exact Or.inr ⟨by omega, rfl, rfl⟩ | exact Or.inl ⟨by omega, rfl, ⟨by simp; omega, by rw [List.length_append]; exact x_set_eq, _, x_set_ne (by omega) x_set_eq, fL_app k0 rfl⟩, (Fr.rf.set ⟨by omega, by omega⟩).set ⟨by omega, by omega⟩⟩
set_option maxRecDepth 100000 in
set_option maxHeartbeats 4000000 in
theorem c_z_digitOf (l : Launch) (G : xG) {h : xh} {z : Nat} {zs : List Int32} (x : Int32) (hz : Zt G h z zs) : Ct l G yX7_digitOf cX7_digitOf 3 (Option.some Jvm.ClassFile.FieldType.int) { frames := 0, cells := 0, slots := 0, locals := 0 } [.ref z, .int x] h (fun v h' => v = some (.int (zdig zs x)) ∧ h' = h) := by
  obtain ⟨hn, g0, f, g1, k0⟩ := hz
  refine Ct.of [some (.ref z), some (.int x), none] (by decide +kernel) (Nat.le_of_ble_eq_true rfl) (fun p e s m args below meth c bs C hini => ?_)
  have loop : ∀ (n i : Nat), zs.length - i < n → i ≤ zs.length → zdig zs x = zdig (zs.drop i) x → X p l e { frames := 0, cells := 0, slots := 0, locals := 0 } s m args below meth c G bs (MQ below (x_Q G bs (fun v h' => v = some (.int (zdig zs x)) ∧ h' = h)) args s 0 0 (fun q => bs ≤ q)) 0 0 2 [some (.ref z), some (.int x), some (.int (nI i))] [] h := by
    intro n
    induction n with
    | zero => intro i hn; omega
    | succ n ih =>
      intro i hn hi hd
      refine x_iload_n C dX7_digitOf_2 (kk := ?_)
      refine x_aload_n C dX7_digitOf_3 (kk := ?_)
      refine x_get C fl_X7_15 dX7_digitOf_4 (kk := ?_)
      refine x_ncmp_ge C i zs.length dX7_digitOf_7 48 (fun hc7 => ?_) (fun hc7 => ?_)
      · refine x_bipush C dX7_digitOf_48 (kk := ?_)
        refine x_iret C rfl dX7_digitOf_50 (hp := ?_)
        exact ⟨by rw [hd, List.drop_eq_nil_of_le hc7]; rfl, rfl⟩
      obtain ⟨v, hv⟩ : ∃ v, zs[i]? = some v := ⟨zs[i], List.getElem?_eq_getElem hc7⟩
      have hf := k0 i v hv
      subst hf
      rw [drop_at hv, zdig_cons] at hd
      refine x_iload_n C dX7_digitOf_10 (kk := ?_)
      refine x_aload_n C dX7_digitOf_11 (kk := ?_)
      refine x_get C fl_X7_9 dX7_digitOf_12 (kk := ?_)
      refine x_iload_n C dX7_digitOf_15 (kk := ?_)
      refine x_iald C _ dX7_digitOf_16 (kk := ?_)
      refine x_icmp_lt C dX7_digitOf_17 42 (fun hc17 => ?_) (fun hc17 => ?_)
      · refine x_iinc1 C dX7_digitOf_42 (kk := ?_)
        refine x_goto C dX7_digitOf_45 2 ?_
        exact ih (i + 1) (by omega) (by omega) (by rw [hd, if_neg (fun z => Int32.not_le.mpr hc17 z.1)])
      · refine x_iload_n C dX7_digitOf_20 (kk := ?_)
        refine x_aload_n C dX7_digitOf_21 (kk := ?_)
        refine x_get C fl_X7_9 dX7_digitOf_22 (kk := ?_)
        refine x_iload_n C dX7_digitOf_25 (kk := ?_)
        refine x_iald C _ dX7_digitOf_26 (kk := ?_)
        refine x_bipush C dX7_digitOf_27 (v := 9) (kk := ?_)
        refine x_iadd C dX7_digitOf_29 ?_
        refine x_icmp_gt C dX7_digitOf_30 42 (fun hc30 => ?_) (fun hc30 => ?_)
        · refine x_iinc1 C dX7_digitOf_42 (kk := ?_)
          refine x_goto C dX7_digitOf_45 2 ?_
          exact ih (i + 1) (by omega) (by omega) (by rw [hd, if_neg (fun z => Int32.not_le.mpr hc30 z.2)])
        · refine x_iload_n C dX7_digitOf_33 (kk := ?_)
          refine x_aload_n C dX7_digitOf_34 (kk := ?_)
          refine x_get C fl_X7_9 dX7_digitOf_35 (kk := ?_)
          refine x_iload_n C dX7_digitOf_38 (kk := ?_)
          refine x_iald C _ dX7_digitOf_39 (kk := ?_)
          refine x_isub C dX7_digitOf_40 ?_
          refine x_iret C rfl dX7_digitOf_41 (hp := ?_)
          exact ⟨by rw [hd, if_pos ⟨Int32.not_lt.mp hc17, Int32.not_lt.mp hc30⟩], rfl⟩
  refine x_iconst C dX7_digitOf_0 (v := 0) (kk := ?_)
  refine x_istore_n C dX7_digitOf_1 (kk := ?_)
  exact loop (zs.length + 1) 0 (by omega) (by omega) rfl
def Rt (G : xG) (h : xh) (z : Nat) (rs : List Rg) : Prop := rs.length ≤ 8 ∧ h.1 z = some (eO 3 [.ref (z + 1), .ref (z + 2), .int (nI rs.length)]) ∧ ∃ f g : Nat → Int32, h.1 (z + 1) = some (eI G 8 f) ∧ h.1 (z + 2) = some (eI G 8 g) ∧ fL f (rs.map (·.1)) ∧ fL g (rs.map (·.2))
theorem Rt.fr {G : xG} {h h' : xh} {z : Nat} {rs : List Rg} {A : Nat → Prop} (k : Rt G h z rs) (f : Fr A h h') (hd : ∀ b, At z 3 b → ¬ A b) : Rt G h' z rs := by
  obtain ⟨h0, h1, g, g', h2, h3, h4⟩ := k
  exact ⟨h0, f.at (hd _ ⟨by omega, by omega⟩) h1, g, g', f.at (hd _ ⟨by omega, by omega⟩) h2, f.at (hd _ ⟨by omega, by omega⟩) h3, h4⟩
set_option maxRecDepth 100000 in
set_option maxHeartbeats 4000000 in
theorem c_r_size (l : Launch) (G : xG) {h : xh} {z : Nat} {rs : List Rg} (hz : Rt G h z rs) : Ct l G yX3_size cX3_size 1 (Option.some Jvm.ClassFile.FieldType.int) { frames := 0, cells := 0, slots := 0, locals := 0 } [.ref z] h (fun v h' => v = some (.int (nI rs.length)) ∧ h' = h) := by
  obtain ⟨hn, g0, f, g, g1, g2, k0, k1⟩ := hz
  refine Ct.of [some (.ref z)] (by decide +kernel) (Nat.le_of_ble_eq_true rfl) (fun p e s m args below meth c bs C hini => ?_)
  refine x_aload_n C dX3_size_0 (kk := ?_)
  refine x_get C fl_X3_18 dX3_size_1 (kk := ?_)
  refine x_iret C rfl dX3_size_4 (hp := ?_)
  exact ⟨rfl, rfl⟩
set_option maxRecDepth 100000 in
set_option maxHeartbeats 4000000 in
theorem c_r_add (l : Launch) (G : xG) {h : xh} {z : Nat} {rs : List Rg} (x y : Int32) (hz : Rt G h z rs) : Ct l G yX3_add cX3_add 3 (Option.some Jvm.ClassFile.FieldType.boolean) { frames := 0, cells := 0, slots := 0, locals := 0 } [.ref z, .int x, .int y] h (fun v h' => (rs.length < 8 ∧ v = some (.int 1) ∧ Rt G h' z (rs ++ [(x, y)]) ∧ Fr (At z 3) h h') ∨ (rs.length = 8 ∧ v = some (.int 0) ∧ h' = h)) := by
  obtain ⟨hn, g0, f, g, g1, g2, k0, k1⟩ := hz
  refine Ct.of [some (.ref z), some (.int x), some (.int y)] (by decide +kernel) (Nat.le_of_ble_eq_true rfl) (fun p e s m args below meth c bs C hini => ?_)
  refine x_aload_n C dX3_add_0 (kk := ?_)
  refine x_get C fl_X3_18 dX3_add_1 (kk := ?_)
  refine x_bipush C dX3_add_4 (v := 8) (kk := ?_)
  refine x_ncmp_lt C rs.length 8 dX3_add_6 11 (fun hc6 => ?_) (fun hc6 => ?_)
  · refine x_aload_n C dX3_add_11 (kk := ?_)
    refine x_get C fl_X3_9 dX3_add_12 (kk := ?_)
    refine x_aload_n C dX3_add_15 (kk := ?_)
    refine x_get C fl_X3_18 dX3_add_16 (kk := ?_)
    refine x_iload_n C dX3_add_19 (kk := ?_)
    refine x_iast C _ dX3_add_20 (kk := ?_)
    refine x_aload_n C dX3_add_21 (kk := ?_)
    refine x_get C fl_X3_15 dX3_add_22 (kk := ?_)
    refine x_aload_n C dX3_add_25 (kk := ?_)
    refine x_get C fl_X3_18 dX3_add_26 (kk := ?_)
    refine x_iload_n C dX3_add_29 (kk := ?_)
    refine x_iast C _ dX3_add_30 (kk := ?_)
    refine x_aload_n C dX3_add_31 (kk := ?_)
    refine x_dup C dX3_add_32 (kk := ?_)
    refine x_get C fl_X3_18 dX3_add_33 (kk := ?_)
    refine x_iconst C dX3_add_36 (v := 1) (kk := ?_)
    refine x_iadd C dX3_add_37 ?_
    refine x_top _ (nI_1 rs.length) ?_
    refine x_put C fp_X3_18 dX3_add_38 (kk := ?_)
    refine x_iconst C dX3_add_41 (v := 1) (kk := ?_)
    refine x_zret C rfl dX3_add_42 (by first | exact Or.inl rfl | exact Or.inr rfl | assumption | exact ite01 _) (hp := ?_)
    first | exact Or.inr ⟨by omega, rfl, rfl⟩ | exact Or.inl ⟨by omega, rfl, ⟨by simp; omega, by rw [List.length_append]; exact x_set_eq, _, _, x_set_ne (by omega) (x_set_ne (by omega) x_set_eq), x_set_ne (by omega) x_set_eq, by rw [List.map_append]; exact fL_app k0 (by simp), by rw [List.map_append]; exact fL_app k1 (by simp)⟩, ((Fr.rf.set ⟨by omega, by omega⟩).set ⟨by omega, by omega⟩).set ⟨by omega, by omega⟩⟩
  · refine x_iconst C dX3_add_9 (v := 0) (kk := ?_)
    refine x_zret C rfl dX3_add_10 (by first | exact Or.inl rfl | exact Or.inr rfl | assumption | exact ite01 _) (hp := ?_)
    first | exact Or.inr ⟨by omega, rfl, rfl⟩ | exact Or.inl ⟨by omega, rfl, ⟨by simp; omega, by rw [List.length_append]; exact x_set_eq, _, _, x_set_ne (by omega) (x_set_ne (by omega) x_set_eq), x_set_ne (by omega) x_set_eq, by rw [List.map_append]; exact fL_app k0 (by simp), by rw [List.map_append]; exact fL_app k1 (by simp)⟩, ((Fr.rf.set ⟨by omega, by omega⟩).set ⟨by omega, by omega⟩).set ⟨by omega, by omega⟩⟩
set_option maxRecDepth 100000 in
set_option maxHeartbeats 4000000 in
theorem c_r_holds (l : Launch) (G : xG) {h : xh} {z : Nat} {rs : List Rg} (x : Int32) (hz : Rt G h z rs) : Ct l G yX3_holds cX3_holds 3 (Option.some Jvm.ClassFile.FieldType.boolean) { frames := 0, cells := 0, slots := 0, locals := 0 } [.ref z, .int x] h (fun v h' => v = some (.int (if rhas rs x = true then 1 else 0)) ∧ h' = h) := by
  obtain ⟨hn, g0, f, g, g1, g2, k0, k1⟩ := hz
  refine Ct.of [some (.ref z), some (.int x), none] (by decide +kernel) (Nat.le_of_ble_eq_true rfl) (fun p e s m args below meth c bs C hini => ?_)
  have loop : ∀ (n i : Nat), rs.length - i < n → i ≤ rs.length → rhas rs x = rhas (rs.drop i) x → X p l e { frames := 0, cells := 0, slots := 0, locals := 0 } s m args below meth c G bs (MQ below (x_Q G bs (fun v h' => v = some (.int (if rhas rs x = true then 1 else 0)) ∧ h' = h)) args s 0 0 (fun q => bs ≤ q)) 0 0 2 [some (.ref z), some (.int x), some (.int (nI i))] [] h := by
    intro n
    induction n with
    | zero => intro i hn; omega
    | succ n ih =>
      intro i hn hi hd
      refine x_iload_n C dX3_holds_2 (kk := ?_)
      refine x_aload_n C dX3_holds_3 (kk := ?_)
      refine x_get C fl_X3_18 dX3_holds_4 (kk := ?_)
      refine x_ncmp_ge C i rs.length dX3_holds_7 38 (fun hc7 => ?_) (fun hc7 => ?_)
      · refine x_iconst C dX3_holds_38 (kk := ?_)
        refine x_zret C rfl dX3_holds_39 (Or.inl rfl) (hp := ?_)
        exact ⟨by rw [hd, List.drop_eq_nil_of_le hc7]; rfl, rfl⟩
      obtain ⟨v, hv⟩ : ∃ v, rs[i]? = some v := ⟨rs[i], List.getElem?_eq_getElem hc7⟩
      have hf := fL_at k0 hv
      have hg := fL_at k1 hv
      obtain ⟨v1, v2⟩ := v
      dsimp only at hf hg
      subst hf
      subst hg
      rw [drop_at hv, rhas_cons] at hd
      refine x_iload_n C dX3_holds_10 (kk := ?_)
      refine x_aload_n C dX3_holds_11 (kk := ?_)
      refine x_get C fl_X3_9 dX3_holds_12 (kk := ?_)
      refine x_iload_n C dX3_holds_15 (kk := ?_)
      refine x_iald C _ dX3_holds_16 (kk := ?_)
      refine x_icmp_lt C dX3_holds_17 32 (fun hc17 => ?_) (fun hc17 => ?_)
      · refine x_iinc1 C dX3_holds_32 (kk := ?_)
        refine x_goto C dX3_holds_35 2 ?_
        exact ih (i + 1) (by omega) (by omega) (by rw [hd, if_neg (fun z => Int32.not_le.mpr hc17 z.1)])
      · refine x_iload_n C dX3_holds_20 (kk := ?_)
        refine x_aload_n C dX3_holds_21 (kk := ?_)
        refine x_get C fl_X3_15 dX3_holds_22 (kk := ?_)
        refine x_iload_n C dX3_holds_25 (kk := ?_)
        refine x_iald C _ dX3_holds_26 (kk := ?_)
        refine x_icmp_gt C dX3_holds_27 32 (fun hc27 => ?_) (fun hc27 => ?_)
        · refine x_iinc1 C dX3_holds_32 (kk := ?_)
          refine x_goto C dX3_holds_35 2 ?_
          exact ih (i + 1) (by omega) (by omega) (by rw [hd, if_neg (fun z => Int32.not_le.mpr hc27 z.2)])
        · refine x_iconst C dX3_holds_30 (v := 1) (kk := ?_)
          refine x_zret C rfl dX3_holds_31 (by first | exact Or.inl rfl | exact Or.inr rfl | assumption | exact ite01 _) (hp := ?_)
          refine ⟨?_, rfl⟩
          rw [hd, if_pos (And.intro (Int32.not_lt.mp hc17) (Int32.not_lt.mp hc27))]
          rfl
  refine x_iconst C dX3_holds_0 (v := 0) (kk := ?_)
  refine x_istore_n C dX3_holds_1 (kk := ?_)
  exact loop (rs.length + 1) 0 (by omega) (by omega) rfl
def Fa (h : xh) (a : Nat) (kd rl sm sg rm rg : Int32) : Prop := h.1 a = some (eO 0 [.int kd, .int rl, .int sm, .int sg, .int rm, .int rg])
set_option maxRecDepth 100000 in
set_option maxHeartbeats 4000000 in
theorem c_f_begin (l : Launch) (G : xG) {h : xh} {a : Nat} {kd rl sm sg rm rg : Int32} (hf : Fa h a kd rl sm sg rm rg) : Ct l G yX0_beginRun cX0_beginRun 1 (Option.none : Option Jvm.ClassFile.FieldType) { frames := 0, cells := 0, slots := 0, locals := 0 } [.ref a] h (fun v h' => v = none ∧ Fa h' a kd rl sm sg 0 0 ∧ Fr (At a 1) h h') := by
  unfold Fa at hf
  refine Ct.of [some (.ref a)] (by decide +kernel) (Nat.le_of_ble_eq_true rfl) (fun p e s m args below meth c bs C hini => ?_)
  refine x_aload_n C dX0_beginRun_0 (kk := ?_)
  refine x_iconst C dX0_beginRun_1 (v := 0) (kk := ?_)
  refine x_put C fp_X0_21 dX0_beginRun_2 (kk := ?_)
  refine x_aload_n C dX0_beginRun_5 (kk := ?_)
  refine x_iconst C dX0_beginRun_6 (v := 0) (kk := ?_)
  refine x_put C fp_X0_24 dX0_beginRun_7 (kk := ?_)
  refine x_vret C rfl dX0_beginRun_10 (hp := ?_)
  exact ⟨rfl, x_set_eq, (Fr.rf.set ⟨by omega, by omega⟩).set ⟨by omega, by omega⟩⟩
set_option maxRecDepth 100000 in
set_option maxHeartbeats 4000000 in
theorem c_f_meet (l : Launch) (G : xG) {h : xh} {a : Nat} {kd rl sm sg rm rg : Int32} (hf : Fa h a kd rl sm sg rm rg) : Ct l G yX0_meetOne cX0_meetOne 1 (Option.none : Option Jvm.ClassFile.FieldType) { frames := 0, cells := 0, slots := 0, locals := 0 } [.ref a] h (fun v h' => v = none ∧ Fa h' a kd rl sm sg (rm + 1) rg ∧ Fr (At a 1) h h') := by
  unfold Fa at hf
  refine Ct.of [some (.ref a)] (by decide +kernel) (Nat.le_of_ble_eq_true rfl) (fun p e s m args below meth c bs C hini => ?_)
  refine x_aload_n C dX0_meetOne_0 (kk := ?_)
  refine x_dup C dX0_meetOne_1 (kk := ?_)
  refine x_get C fl_X0_21 dX0_meetOne_2 (kk := ?_)
  refine x_iconst C dX0_meetOne_5 (v := 1) (kk := ?_)
  refine x_iadd C dX0_meetOne_6 ?_
  refine x_put C fp_X0_21 dX0_meetOne_7 (kk := ?_)
  refine x_vret C rfl dX0_meetOne_10 (hp := ?_)
  exact ⟨rfl, x_set_eq, (Fr.rf.set ⟨by omega, by omega⟩)⟩
set_option maxRecDepth 100000 in
set_option maxHeartbeats 4000000 in
theorem c_f_grow (l : Launch) (G : xG) {h : xh} {a : Nat} {kd rl sm sg rm rg : Int32} (x : Int32) (hf : Fa h a kd rl sm sg rm rg) : Ct l G yX0_growBy cX0_growBy 2 (Option.none : Option Jvm.ClassFile.FieldType) { frames := 0, cells := 0, slots := 0, locals := 0 } [.ref a, .int x] h (fun v h' => v = none ∧ Fa h' a kd rl sm sg rm (rg + x) ∧ Fr (At a 1) h h') := by
  unfold Fa at hf
  refine Ct.of [some (.ref a), some (.int x)] (by decide +kernel) (Nat.le_of_ble_eq_true rfl) (fun p e s m args below meth c bs C hini => ?_)
  refine x_aload_n C dX0_growBy_0 (kk := ?_)
  refine x_dup C dX0_growBy_1 (kk := ?_)
  refine x_get C fl_X0_24 dX0_growBy_2 (kk := ?_)
  refine x_iload_n C dX0_growBy_5 (kk := ?_)
  refine x_iadd C dX0_growBy_6 ?_
  refine x_put C fp_X0_24 dX0_growBy_7 (kk := ?_)
  refine x_vret C rfl dX0_growBy_10 (hp := ?_)
  exact ⟨rfl, x_set_eq, (Fr.rf.set ⟨by omega, by omega⟩)⟩
set_option maxRecDepth 100000 in
set_option maxHeartbeats 4000000 in
theorem c_f_settle (l : Launch) (G : xG) {h : xh} {a : Nat} {kd rl sm sg rm rg : Int32} (hf : Fa h a kd rl sm sg rm rg) : Ct l G yX0_settleRun cX0_settleRun 1 (Option.none : Option Jvm.ClassFile.FieldType) { frames := 0, cells := 0, slots := 0, locals := 0 } [.ref a] h (fun v h' => v = none ∧ Fa h' a kd rl rm rg rm rg ∧ Fr (At a 1) h h') := by
  unfold Fa at hf
  refine Ct.of [some (.ref a)] (by decide +kernel) (Nat.le_of_ble_eq_true rfl) (fun p e s m args below meth c bs C hini => ?_)
  refine x_aload_n C dX0_settleRun_0 (kk := ?_)
  refine x_aload_n C dX0_settleRun_1 (kk := ?_)
  refine x_get C fl_X0_21 dX0_settleRun_2 (kk := ?_)
  refine x_put C fp_X0_15 dX0_settleRun_5 (kk := ?_)
  refine x_aload_n C dX0_settleRun_8 (kk := ?_)
  refine x_aload_n C dX0_settleRun_9 (kk := ?_)
  refine x_get C fl_X0_24 dX0_settleRun_10 (kk := ?_)
  refine x_put C fp_X0_18 dX0_settleRun_13 (kk := ?_)
  refine x_vret C rfl dX0_settleRun_16 (hp := ?_)
  exact ⟨rfl, x_set_eq, (Fr.rf.set ⟨by omega, by omega⟩).set ⟨by omega, by omega⟩⟩
set_option maxRecDepth 100000 in
set_option maxHeartbeats 4000000 in
theorem c_f_init (l : Launch) (G : xG) {h : xh} {a : Nat} (kd : Int32) (hf : Fa h a 0 0 0 0 0 0) : Ct l G yX0_init cX0_init 2 (Option.none : Option Jvm.ClassFile.FieldType) { frames := 1, cells := 0, slots := 0, locals := 16 } [.ref a, .int kd] h (fun v h' => v = none ∧ Fa h' a kd 0 0 0 0 0 ∧ Fr (At a 1) h h') := by
  unfold Fa at hf
  refine Ct.of [some (.ref a), some (.int kd)] (by decide +kernel) (Nat.le_of_ble_eq_true rfl) (fun p e s m args below meth c bs C hini => ?_)
  refine x_aload_n C dX0_init_0 (kk := ?_)
  refine x_oinit C tw_299 dX0_init_1 tw_20 tw_21 (kk := ?_)
  refine x_aload_n C dX0_init_4 (kk := ?_)
  refine x_iconst C dX0_init_5 (v := 0) (kk := ?_)
  refine x_put C fp_X0_9 dX0_init_6 (kk := ?_)
  refine x_aload_n C dX0_init_9 (kk := ?_)
  refine x_iconst C dX0_init_10 (v := 0) (kk := ?_)
  refine x_put C fp_X0_15 dX0_init_11 (kk := ?_)
  refine x_aload_n C dX0_init_14 (kk := ?_)
  refine x_iconst C dX0_init_15 (v := 0) (kk := ?_)
  refine x_put C fp_X0_18 dX0_init_16 (kk := ?_)
  refine x_aload_n C dX0_init_19 (kk := ?_)
  refine x_iconst C dX0_init_20 (v := 0) (kk := ?_)
  refine x_put C fp_X0_21 dX0_init_21 (kk := ?_)
  refine x_aload_n C dX0_init_24 (kk := ?_)
  refine x_iconst C dX0_init_25 (v := 0) (kk := ?_)
  refine x_put C fp_X0_24 dX0_init_26 (kk := ?_)
  refine x_aload_n C dX0_init_29 (kk := ?_)
  refine x_iload_n C dX0_init_30 (kk := ?_)
  refine x_putF C hini fp_X0_27 dX0_init_31 (kk := ?_)
  refine x_vret C rfl dX0_init_34 (hp := ?_)
  exact ⟨rfl, x_set_eq, ((((((Fr.rf.set ⟨by omega, by omega⟩).set ⟨by omega, by omega⟩).set ⟨by omega, by omega⟩).set ⟨by omega, by omega⟩).set ⟨by omega, by omega⟩).set ⟨by omega, by omega⟩)⟩
end
section
/-! WHAT IS ASKED OF NUMBERS ALONE -/
set_option maxRecDepth 100000 in
set_option maxHeartbeats 4000000 in
theorem c_isSign (l : Launch) (G : xG) {h : xh} (v : Int32) : Ct l G yX8_isSign cX8_isSign 1 (Option.some Jvm.ClassFile.FieldType.boolean) { frames := 0, cells := 0, slots := 0, locals := 0 } [.int v] h (fun r h' => r = some (.int (if 0 ≤ v ∧ v ≤ 1114111 then 1 else 0)) ∧ h' = h) := by
  refine Ct.of [some (.int v)] (by decide +kernel) (Nat.le_of_ble_eq_true rfl) (fun p e s m args below meth c bs C hini => ?_)
  refine x_iload_n C dX8_isSign_0 (kk := ?_)
  refine x_if_lt C dX8_isSign_1 14 (fun hc1 => ?_) (fun hc1 => ?_)
  · refine x_iconst C dX8_isSign_14 (v := 0) (kk := ?_)
    refine x_zret C rfl dX8_isSign_15 (by first | exact Or.inl rfl | exact Or.inr rfl | assumption | exact ite01 _) (hp := ?_)
    refine ⟨?_, rfl⟩
    simp only [Int32.lt_iff_toInt_lt, Int32.le_iff_toInt_le, Int32.not_lt, Int32.not_le, ← Int32.toInt_inj, Int32.reduceToInt, m1_toInt] at hc1 ⊢
    split <;> first | rfl | (exfalso; omega)
  · refine x_iload_n C dX8_isSign_4 (kk := ?_)
    refine x_ldc C tw_228 dX8_isSign_5 ?_
    refine x_icmp_gt C dX8_isSign_7 14 (fun hc7 => ?_) (fun hc7 => ?_)
    · refine x_iconst C dX8_isSign_14 (v := 0) (kk := ?_)
      refine x_zret C rfl dX8_isSign_15 (by first | exact Or.inl rfl | exact Or.inr rfl | assumption | exact ite01 _) (hp := ?_)
      refine ⟨?_, rfl⟩
      simp only [Int32.lt_iff_toInt_lt, Int32.le_iff_toInt_le, Int32.not_lt, Int32.not_le, ← Int32.toInt_inj, Int32.reduceToInt, m1_toInt] at hc1 hc7 ⊢
      split <;> first | rfl | (exfalso; omega)
    · refine x_iconst C dX8_isSign_10 (v := 1) (kk := ?_)
      refine x_goto C dX8_isSign_11 15 ?_
      refine x_zret C rfl dX8_isSign_15 (by first | exact Or.inl rfl | exact Or.inr rfl | assumption | exact ite01 _) (hp := ?_)
      refine ⟨?_, rfl⟩
      simp only [Int32.lt_iff_toInt_lt, Int32.le_iff_toInt_le, Int32.not_lt, Int32.not_le, ← Int32.toInt_inj, Int32.reduceToInt, m1_toInt] at hc1 hc7 ⊢
      split <;> first | rfl | (exfalso; omega)
set_option maxRecDepth 100000 in
set_option maxHeartbeats 4000000 in
theorem c_isSignOrNone (l : Launch) (G : xG) {h : xh} (v : Int32) : Ct l G yX8_isSignOrNone cX8_isSignOrNone 1 (Option.some Jvm.ClassFile.FieldType.boolean) { frames := 1, cells := 0, slots := 0, locals := 20 } [.int v] h (fun r h' => r = some (.int (if v = -1 ∨ 0 ≤ v ∧ v ≤ 1114111 then 1 else 0)) ∧ h' = h) := by
  refine Ct.of [some (.int v)] (by decide +kernel) (Nat.le_of_ble_eq_true rfl) (fun p e s m args below meth c bs C hini => ?_)
  refine x_iload_n C dX8_isSignOrNone_0 (kk := ?_)
  refine x_iconst C dX8_isSignOrNone_1 (v := -1) (kk := ?_)
  refine x_icmp_eq C dX8_isSignOrNone_2 12 (fun hc2 => ?_) (fun hc2 => ?_)
  · refine x_iconst C dX8_isSignOrNone_12 (v := 1) (kk := ?_)
    refine x_goto C dX8_isSignOrNone_13 17 ?_
    refine x_zret C rfl dX8_isSignOrNone_17 (by first | exact Or.inl rfl | exact Or.inr rfl | assumption | exact ite01 _) (hp := ?_)
    refine ⟨?_, rfl⟩
    simp only [Int32.lt_iff_toInt_lt, Int32.le_iff_toInt_le, Int32.not_lt, Int32.not_le, ← Int32.toInt_inj, Int32.reduceToInt, m1_toInt] at hc2 ⊢
    split <;> first | rfl | (exfalso; omega)
  · refine x_iload_n C dX8_isSignOrNone_5 (kk := ?_)
    refine x_callS C ml_X8_isSign lk_X8_94 (c_isSign l G v) dX8_isSignOrNone_6 (fun r6 h6 hp6 => ?_)
    obtain ⟨rfl, rfl⟩ := hp6
    refine x_ifB_eq C dX8_isSignOrNone_9 16 (fun hc9 => ?_) (fun hc9 => ?_)
    · refine x_iconst C dX8_isSignOrNone_16 (v := 0) (kk := ?_)
      refine x_zret C rfl dX8_isSignOrNone_17 (by first | exact Or.inl rfl | exact Or.inr rfl | assumption | exact ite01 _) (hp := ?_)
      refine ⟨?_, rfl⟩
      simp only [Int32.lt_iff_toInt_lt, Int32.le_iff_toInt_le, Int32.not_lt, Int32.not_le, ← Int32.toInt_inj, Int32.reduceToInt, m1_toInt] at hc2 hc9 ⊢
      split <;> first | rfl | (exfalso; omega)
    · refine x_iconst C dX8_isSignOrNone_12 (v := 1) (kk := ?_)
      refine x_goto C dX8_isSignOrNone_13 17 ?_
      refine x_zret C rfl dX8_isSignOrNone_17 (by first | exact Or.inl rfl | exact Or.inr rfl | assumption | exact ite01 _) (hp := ?_)
      refine ⟨?_, rfl⟩
      simp only [Int32.lt_iff_toInt_lt, Int32.le_iff_toInt_le, Int32.not_lt, Int32.not_le, ← Int32.toInt_inj, Int32.reduceToInt, m1_toInt] at hc2 hc9 ⊢
      split <;> first | rfl | (exfalso; omega)
set_option maxRecDepth 100000 in
set_option maxHeartbeats 4000000 in
theorem c_isFoldRow (l : Launch) (G : xG) {h : xh} (a b d : Int32) : Ct l G yX8_isFoldRow cX8_isFoldRow 3 (Option.some Jvm.ClassFile.FieldType.boolean) { frames := 2, cells := 0, slots := 0, locals := 40 } [.int a, .int b, .int d] h (fun r h' => r = some (.int (if ((a = -1 ∨ 0 ≤ a ∧ a ≤ 1114111) ∧ (b = -1 ∨ 0 ≤ b ∧ b ≤ 1114111) ∧ (d = -1 ∨ 0 ≤ d ∧ d ≤ 1114111)) ∧ ¬ (a = -1 ∧ ¬ b = -1) ∧ ¬ (b = -1 ∧ ¬ d = -1) then 1 else 0)) ∧ h' = h) := by
  refine Ct.of [some (.int a), some (.int b), some (.int d)] (by decide +kernel) (Nat.le_of_ble_eq_true rfl) (fun p e s m args below meth c bs C hini => ?_)
  refine x_iload_n C dX8_isFoldRow_0 (kk := ?_)
  refine x_callS C ml_X8_isSignOrNone lk_X8_180 (c_isSignOrNone l G a) dX8_isFoldRow_1 (fun r1 h1 hp1 => ?_)
  obtain ⟨rfl, rfl⟩ := hp1
  refine x_ifB_eq C dX8_isFoldRow_4 21 (fun hc4 => ?_) (fun hc4 => ?_)
  · refine x_iconst C dX8_isFoldRow_21 (v := 0) (kk := ?_)
    refine x_zret C rfl dX8_isFoldRow_22 (by first | exact Or.inl rfl | exact Or.inr rfl | assumption | exact ite01 _) (hp := ?_)
    refine ⟨?_, rfl⟩
    simp only [Int32.lt_iff_toInt_lt, Int32.le_iff_toInt_le, Int32.not_lt, Int32.not_le, ← Int32.toInt_inj, Int32.reduceToInt, m1_toInt] at hc4 ⊢
    split <;> first | rfl | (exfalso; omega)
  · refine x_iload_n C dX8_isFoldRow_7 (kk := ?_)
    refine x_callS C ml_X8_isSignOrNone lk_X8_180 (c_isSignOrNone l G b) dX8_isFoldRow_8 (fun r8 h8 hp8 => ?_)
    obtain ⟨rfl, rfl⟩ := hp8
    refine x_ifB_eq C dX8_isFoldRow_11 21 (fun hc11 => ?_) (fun hc11 => ?_)
    · refine x_iconst C dX8_isFoldRow_21 (v := 0) (kk := ?_)
      refine x_zret C rfl dX8_isFoldRow_22 (by first | exact Or.inl rfl | exact Or.inr rfl | assumption | exact ite01 _) (hp := ?_)
      refine ⟨?_, rfl⟩
      simp only [Int32.lt_iff_toInt_lt, Int32.le_iff_toInt_le, Int32.not_lt, Int32.not_le, ← Int32.toInt_inj, Int32.reduceToInt, m1_toInt] at hc4 hc11 ⊢
      split <;> first | rfl | (exfalso; omega)
    · refine x_iload_n C dX8_isFoldRow_14 (kk := ?_)
      refine x_callS C ml_X8_isSignOrNone lk_X8_180 (c_isSignOrNone l G d) dX8_isFoldRow_15 (fun r15 h15 hp15 => ?_)
      obtain ⟨rfl, rfl⟩ := hp15
      refine x_ifB_ne C dX8_isFoldRow_18 23 (fun hc18 => ?_) (fun hc18 => ?_)
      · refine x_iload_n C dX8_isFoldRow_23 (kk := ?_)
        refine x_iconst C dX8_isFoldRow_24 (v := -1) (kk := ?_)
        refine x_icmp_ne C dX8_isFoldRow_25 35 (fun hc25 => ?_) (fun hc25 => ?_)
        · refine x_iload_n C dX8_isFoldRow_35 (kk := ?_)
          refine x_iconst C dX8_isFoldRow_36 (v := -1) (kk := ?_)
          refine x_icmp_ne C dX8_isFoldRow_37 45 (fun hc37 => ?_) (fun hc37 => ?_)
          · refine x_iconst C dX8_isFoldRow_45 (v := 1) (kk := ?_)
            refine x_goto C dX8_isFoldRow_46 50 ?_
            refine x_zret C rfl dX8_isFoldRow_50 (by first | exact Or.inl rfl | exact Or.inr rfl | assumption | exact ite01 _) (hp := ?_)
            refine ⟨?_, rfl⟩
            simp only [Int32.lt_iff_toInt_lt, Int32.le_iff_toInt_le, Int32.not_lt, Int32.not_le, ← Int32.toInt_inj, Int32.reduceToInt, m1_toInt] at hc4 hc11 hc18 hc25 hc37 ⊢
            split <;> first | rfl | (exfalso; omega)
          · refine x_iload_n C dX8_isFoldRow_40 (kk := ?_)
            refine x_iconst C dX8_isFoldRow_41 (v := -1) (kk := ?_)
            refine x_icmp_ne C dX8_isFoldRow_42 49 (fun hc42 => ?_) (fun hc42 => ?_)
            · refine x_iconst C dX8_isFoldRow_49 (v := 0) (kk := ?_)
              refine x_zret C rfl dX8_isFoldRow_50 (by first | exact Or.inl rfl | exact Or.inr rfl | assumption | exact ite01 _) (hp := ?_)
              refine ⟨?_, rfl⟩
              simp only [Int32.lt_iff_toInt_lt, Int32.le_iff_toInt_le, Int32.not_lt, Int32.not_le, ← Int32.toInt_inj, Int32.reduceToInt, m1_toInt] at hc4 hc11 hc18 hc25 hc37 hc42 ⊢
              split <;> first | rfl | (exfalso; omega)
            · refine x_iconst C dX8_isFoldRow_45 (v := 1) (kk := ?_)
              refine x_goto C dX8_isFoldRow_46 50 ?_
              refine x_zret C rfl dX8_isFoldRow_50 (by first | exact Or.inl rfl | exact Or.inr rfl | assumption | exact ite01 _) (hp := ?_)
              refine ⟨?_, rfl⟩
              simp only [Int32.lt_iff_toInt_lt, Int32.le_iff_toInt_le, Int32.not_lt, Int32.not_le, ← Int32.toInt_inj, Int32.reduceToInt, m1_toInt] at hc4 hc11 hc18 hc25 hc37 hc42 ⊢
              split <;> first | rfl | (exfalso; omega)
        · refine x_iload_n C dX8_isFoldRow_28 (kk := ?_)
          refine x_iconst C dX8_isFoldRow_29 (v := -1) (kk := ?_)
          refine x_icmp_eq C dX8_isFoldRow_30 35 (fun hc30 => ?_) (fun hc30 => ?_)
          · refine x_iload_n C dX8_isFoldRow_35 (kk := ?_)
            refine x_iconst C dX8_isFoldRow_36 (v := -1) (kk := ?_)
            refine x_icmp_ne C dX8_isFoldRow_37 45 (fun hc37 => ?_) (fun hc37 => ?_)
            · refine x_iconst C dX8_isFoldRow_45 (v := 1) (kk := ?_)
              refine x_goto C dX8_isFoldRow_46 50 ?_
              refine x_zret C rfl dX8_isFoldRow_50 (by first | exact Or.inl rfl | exact Or.inr rfl | assumption | exact ite01 _) (hp := ?_)
              refine ⟨?_, rfl⟩
              simp only [Int32.lt_iff_toInt_lt, Int32.le_iff_toInt_le, Int32.not_lt, Int32.not_le, ← Int32.toInt_inj, Int32.reduceToInt, m1_toInt] at hc4 hc11 hc18 hc25 hc30 hc37 ⊢
              split <;> first | rfl | (exfalso; omega)
            · refine x_iload_n C dX8_isFoldRow_40 (kk := ?_)
              refine x_iconst C dX8_isFoldRow_41 (v := -1) (kk := ?_)
              refine x_icmp_ne C dX8_isFoldRow_42 49 (fun hc42 => ?_) (fun hc42 => ?_)
              · refine x_iconst C dX8_isFoldRow_49 (v := 0) (kk := ?_)
                refine x_zret C rfl dX8_isFoldRow_50 (by first | exact Or.inl rfl | exact Or.inr rfl | assumption | exact ite01 _) (hp := ?_)
                refine ⟨?_, rfl⟩
                simp only [Int32.lt_iff_toInt_lt, Int32.le_iff_toInt_le, Int32.not_lt, Int32.not_le, ← Int32.toInt_inj, Int32.reduceToInt, m1_toInt] at hc4 hc11 hc18 hc25 hc30 hc37 hc42 ⊢
                split <;> first | rfl | (exfalso; omega)
              · refine x_iconst C dX8_isFoldRow_45 (v := 1) (kk := ?_)
                refine x_goto C dX8_isFoldRow_46 50 ?_
                refine x_zret C rfl dX8_isFoldRow_50 (by first | exact Or.inl rfl | exact Or.inr rfl | assumption | exact ite01 _) (hp := ?_)
                refine ⟨?_, rfl⟩
                simp only [Int32.lt_iff_toInt_lt, Int32.le_iff_toInt_le, Int32.not_lt, Int32.not_le, ← Int32.toInt_inj, Int32.reduceToInt, m1_toInt] at hc4 hc11 hc18 hc25 hc30 hc37 hc42 ⊢
                split <;> first | rfl | (exfalso; omega)
          · refine x_iconst C dX8_isFoldRow_33 (v := 0) (kk := ?_)
            refine x_zret C rfl dX8_isFoldRow_34 (by first | exact Or.inl rfl | exact Or.inr rfl | assumption | exact ite01 _) (hp := ?_)
            refine ⟨?_, rfl⟩
            simp only [Int32.lt_iff_toInt_lt, Int32.le_iff_toInt_le, Int32.not_lt, Int32.not_le, ← Int32.toInt_inj, Int32.reduceToInt, m1_toInt] at hc4 hc11 hc18 hc25 hc30 ⊢
            split <;> first | rfl | (exfalso; omega)
      · refine x_iconst C dX8_isFoldRow_21 (v := 0) (kk := ?_)
        refine x_zret C rfl dX8_isFoldRow_22 (by first | exact Or.inl rfl | exact Or.inr rfl | assumption | exact ite01 _) (hp := ?_)
        refine ⟨?_, rfl⟩
        simp only [Int32.lt_iff_toInt_lt, Int32.le_iff_toInt_le, Int32.not_lt, Int32.not_le, ← Int32.toInt_inj, Int32.reduceToInt, m1_toInt] at hc4 hc11 hc18 ⊢
        split <;> first | rfl | (exfalso; omega)
set_option maxRecDepth 100000 in
set_option maxHeartbeats 4000000 in
theorem c_isPlace (l : Launch) (G : xG) {h : xh} (v : Int32) : Ct l G yX8_isPlace cX8_isPlace 1 (Option.some Jvm.ClassFile.FieldType.boolean) { frames := 0, cells := 0, slots := 0, locals := 0 } [.int v] h (fun r h' => r = some (.int (if 0 ≤ v ∧ v ≤ 7 then 1 else 0)) ∧ h' = h) := by
  refine Ct.of [some (.int v)] (by decide +kernel) (Nat.le_of_ble_eq_true rfl) (fun p e s m args below meth c bs C hini => ?_)
  refine x_iload_n C dX8_isPlace_0 (kk := ?_)
  refine x_if_lt C dX8_isPlace_1 14 (fun hc1 => ?_) (fun hc1 => ?_)
  · refine x_iconst C dX8_isPlace_14 (v := 0) (kk := ?_)
    refine x_zret C rfl dX8_isPlace_15 (by first | exact Or.inl rfl | exact Or.inr rfl | assumption | exact ite01 _) (hp := ?_)
    refine ⟨?_, rfl⟩
    simp only [Int32.lt_iff_toInt_lt, Int32.le_iff_toInt_le, Int32.not_lt, Int32.not_le, ← Int32.toInt_inj, Int32.reduceToInt, m1_toInt] at hc1 ⊢
    split <;> first | rfl | (exfalso; omega)
  · refine x_iload_n C dX8_isPlace_4 (kk := ?_)
    refine x_bipush C dX8_isPlace_5 (v := 8) (kk := ?_)
    refine x_icmp_ge C dX8_isPlace_7 14 (fun hc7 => ?_) (fun hc7 => ?_)
    · refine x_iconst C dX8_isPlace_14 (v := 0) (kk := ?_)
      refine x_zret C rfl dX8_isPlace_15 (by first | exact Or.inl rfl | exact Or.inr rfl | assumption | exact ite01 _) (hp := ?_)
      refine ⟨?_, rfl⟩
      simp only [Int32.lt_iff_toInt_lt, Int32.le_iff_toInt_le, Int32.not_lt, Int32.not_le, ← Int32.toInt_inj, Int32.reduceToInt, m1_toInt] at hc1 hc7 ⊢
      split <;> first | rfl | (exfalso; omega)
    · refine x_iconst C dX8_isPlace_10 (v := 1) (kk := ?_)
      refine x_goto C dX8_isPlace_11 15 ?_
      refine x_zret C rfl dX8_isPlace_15 (by first | exact Or.inl rfl | exact Or.inr rfl | assumption | exact ite01 _) (hp := ?_)
      refine ⟨?_, rfl⟩
      simp only [Int32.lt_iff_toInt_lt, Int32.le_iff_toInt_le, Int32.not_lt, Int32.not_le, ← Int32.toInt_inj, Int32.reduceToInt, m1_toInt] at hc1 hc7 ⊢
      split <;> first | rfl | (exfalso; omega)
set_option maxRecDepth 100000 in
set_option maxHeartbeats 4000000 in
theorem c_isHigh (l : Launch) (G : xG) {h : xh} (v : Int32) : Ct l G yX8_isHigh cX8_isHigh 1 (Option.some Jvm.ClassFile.FieldType.boolean) { frames := 0, cells := 0, slots := 0, locals := 0 } [.int v] h (fun r h' => r = some (.int (if 55296 ≤ v ∧ v ≤ 56319 then 1 else 0)) ∧ h' = h) := by
  refine Ct.of [some (.int v)] (by decide +kernel) (Nat.le_of_ble_eq_true rfl) (fun p e s m args below meth c bs C hini => ?_)
  refine x_iload_n C dX8_isHigh_0 (kk := ?_)
  refine x_ldc C tw_144 dX8_isHigh_1 ?_
  refine x_icmp_lt C dX8_isHigh_3 16 (fun hc3 => ?_) (fun hc3 => ?_)
  · refine x_iconst C dX8_isHigh_16 (v := 0) (kk := ?_)
    refine x_zret C rfl dX8_isHigh_17 (by first | exact Or.inl rfl | exact Or.inr rfl | assumption | exact ite01 _) (hp := ?_)
    refine ⟨?_, rfl⟩
    simp only [Int32.lt_iff_toInt_lt, Int32.le_iff_toInt_le, Int32.not_lt, Int32.not_le, ← Int32.toInt_inj, Int32.reduceToInt, m1_toInt] at hc3 ⊢
    split <;> first | rfl | (exfalso; omega)
  · refine x_iload_n C dX8_isHigh_6 (kk := ?_)
    refine x_ldc C tw_145 dX8_isHigh_7 ?_
    refine x_icmp_ge C dX8_isHigh_9 16 (fun hc9 => ?_) (fun hc9 => ?_)
    · refine x_iconst C dX8_isHigh_16 (v := 0) (kk := ?_)
      refine x_zret C rfl dX8_isHigh_17 (by first | exact Or.inl rfl | exact Or.inr rfl | assumption | exact ite01 _) (hp := ?_)
      refine ⟨?_, rfl⟩
      simp only [Int32.lt_iff_toInt_lt, Int32.le_iff_toInt_le, Int32.not_lt, Int32.not_le, ← Int32.toInt_inj, Int32.reduceToInt, m1_toInt] at hc3 hc9 ⊢
      split <;> first | rfl | (exfalso; omega)
    · refine x_iconst C dX8_isHigh_12 (v := 1) (kk := ?_)
      refine x_goto C dX8_isHigh_13 17 ?_
      refine x_zret C rfl dX8_isHigh_17 (by first | exact Or.inl rfl | exact Or.inr rfl | assumption | exact ite01 _) (hp := ?_)
      refine ⟨?_, rfl⟩
      simp only [Int32.lt_iff_toInt_lt, Int32.le_iff_toInt_le, Int32.not_lt, Int32.not_le, ← Int32.toInt_inj, Int32.reduceToInt, m1_toInt] at hc3 hc9 ⊢
      split <;> first | rfl | (exfalso; omega)
set_option maxRecDepth 100000 in
set_option maxHeartbeats 4000000 in
theorem c_isLow (l : Launch) (G : xG) {h : xh} (v : Int32) : Ct l G yX8_isLow cX8_isLow 1 (Option.some Jvm.ClassFile.FieldType.boolean) { frames := 0, cells := 0, slots := 0, locals := 0 } [.int v] h (fun r h' => r = some (.int (if 56320 ≤ v ∧ v ≤ 57343 then 1 else 0)) ∧ h' = h) := by
  refine Ct.of [some (.int v)] (by decide +kernel) (Nat.le_of_ble_eq_true rfl) (fun p e s m args below meth c bs C hini => ?_)
  refine x_iload_n C dX8_isLow_0 (kk := ?_)
  refine x_ldc C tw_145 dX8_isLow_1 ?_
  refine x_icmp_lt C dX8_isLow_3 16 (fun hc3 => ?_) (fun hc3 => ?_)
  · refine x_iconst C dX8_isLow_16 (v := 0) (kk := ?_)
    refine x_zret C rfl dX8_isLow_17 (by first | exact Or.inl rfl | exact Or.inr rfl | assumption | exact ite01 _) (hp := ?_)
    refine ⟨?_, rfl⟩
    simp only [Int32.lt_iff_toInt_lt, Int32.le_iff_toInt_le, Int32.not_lt, Int32.not_le, ← Int32.toInt_inj, Int32.reduceToInt, m1_toInt] at hc3 ⊢
    split <;> first | rfl | (exfalso; omega)
  · refine x_iload_n C dX8_isLow_6 (kk := ?_)
    refine x_ldc C tw_149 dX8_isLow_7 ?_
    refine x_icmp_gt C dX8_isLow_9 16 (fun hc9 => ?_) (fun hc9 => ?_)
    · refine x_iconst C dX8_isLow_16 (v := 0) (kk := ?_)
      refine x_zret C rfl dX8_isLow_17 (by first | exact Or.inl rfl | exact Or.inr rfl | assumption | exact ite01 _) (hp := ?_)
      refine ⟨?_, rfl⟩
      simp only [Int32.lt_iff_toInt_lt, Int32.le_iff_toInt_le, Int32.not_lt, Int32.not_le, ← Int32.toInt_inj, Int32.reduceToInt, m1_toInt] at hc3 hc9 ⊢
      split <;> first | rfl | (exfalso; omega)
    · refine x_iconst C dX8_isLow_12 (v := 1) (kk := ?_)
      refine x_goto C dX8_isLow_13 17 ?_
      refine x_zret C rfl dX8_isLow_17 (by first | exact Or.inl rfl | exact Or.inr rfl | assumption | exact ite01 _) (hp := ?_)
      refine ⟨?_, rfl⟩
      simp only [Int32.lt_iff_toInt_lt, Int32.le_iff_toInt_le, Int32.not_lt, Int32.not_le, ← Int32.toInt_inj, Int32.reduceToInt, m1_toInt] at hc3 hc9 ⊢
      split <;> first | rfl | (exfalso; omega)
set_option maxRecDepth 100000 in
set_option maxHeartbeats 4000000 in
theorem c_unitsOf (l : Launch) (G : xG) {h : xh} (v : Int32) : Ct l G yX8_unitsOf cX8_unitsOf 1 (Option.some Jvm.ClassFile.FieldType.int) { frames := 0, cells := 0, slots := 0, locals := 0 } [.int v] h (fun r h' => r = some (.int (uOf v)) ∧ h' = h) := by
  refine Ct.of [some (.int v)] (by decide +kernel) (Nat.le_of_ble_eq_true rfl) (fun p e s m args below meth c bs C hini => ?_)
  refine x_iload_n C dX8_unitsOf_0 (kk := ?_)
  refine x_ldc C tw_150 dX8_unitsOf_1 ?_
  refine x_icmp_lt C dX8_unitsOf_3 10 (fun hc3 => ?_) (fun hc3 => ?_)
  · refine x_iconst C dX8_unitsOf_10 (v := 1) (kk := ?_)
    refine x_iret C rfl dX8_unitsOf_11 (hp := ?_)
    refine ⟨?_, rfl⟩
    unfold uOf
    simp only [Int32.lt_iff_toInt_lt, Int32.le_iff_toInt_le, Int32.not_lt, Int32.not_le, ← Int32.toInt_inj, Int32.reduceToInt, m1_toInt] at hc3 ⊢
    split <;> first | rfl | (exfalso; omega)
  · refine x_iconst C dX8_unitsOf_6 (v := 2) (kk := ?_)
    refine x_goto C dX8_unitsOf_7 11 ?_
    refine x_iret C rfl dX8_unitsOf_11 (hp := ?_)
    refine ⟨?_, rfl⟩
    unfold uOf
    simp only [Int32.lt_iff_toInt_lt, Int32.le_iff_toInt_le, Int32.not_lt, Int32.not_le, ← Int32.toInt_inj, Int32.reduceToInt, m1_toInt] at hc3 ⊢
    split <;> first | rfl | (exfalso; omega)
set_option maxRecDepth 100000 in
set_option maxHeartbeats 4000000 in
theorem c_classOf (l : Launch) (G : xG) {h : xh} (v : Int32) : Ct l G yX8_classOf cX8_classOf 1 (Option.some Jvm.ClassFile.FieldType.int) { frames := 0, cells := 0, slots := 0, locals := 0 } [.int v] h (fun r h' => r = some (.int (clsOf v)) ∧ h' = h) := by
  refine Ct.of [some (.int v)] (by decide +kernel) (Nat.le_of_ble_eq_true rfl) (fun p e s m args below meth c bs C hini => ?_)
  refine x_iload_n C dX8_classOf_0 (kk := ?_)
  refine x_bipush C dX8_classOf_1 (v := 127) (kk := ?_)
  refine x_icmp_le C dX8_classOf_3 8 (fun hc3 => ?_) (fun hc3 => ?_)
  · refine x_iload_n C dX8_classOf_8 (kk := ?_)
    refine x_bipush C dX8_classOf_9 (v := 65) (kk := ?_)
    refine x_icmp_lt C dX8_classOf_11 20 (fun hc11 => ?_) (fun hc11 => ?_)
    · refine x_iload_n C dX8_classOf_20 (kk := ?_)
      refine x_bipush C dX8_classOf_21 (v := 97) (kk := ?_)
      refine x_icmp_lt C dX8_classOf_23 34 (fun hc23 => ?_) (fun hc23 => ?_)
      · refine x_iload_n C dX8_classOf_34 (kk := ?_)
        refine x_bipush C dX8_classOf_35 (v := 48) (kk := ?_)
        refine x_icmp_lt C dX8_classOf_37 48 (fun hc37 => ?_) (fun hc37 => ?_)
        · refine x_iload_n C dX8_classOf_48 (kk := ?_)
          refine x_bipush C dX8_classOf_49 (v := 9) (kk := ?_)
          refine x_icmp_eq C dX8_classOf_51 72 (fun hc51 => ?_) (fun hc51 => ?_)
          · refine x_iconst C dX8_classOf_72 (v := 3) (kk := ?_)
            refine x_iret C rfl dX8_classOf_73 (hp := ?_)
            refine ⟨?_, rfl⟩
            unfold clsOf
            simp only [Int32.lt_iff_toInt_lt, Int32.le_iff_toInt_le, Int32.not_lt, Int32.not_le, ← Int32.toInt_inj, Int32.reduceToInt, m1_toInt] at hc3 hc11 hc23 hc37 hc51 ⊢
            repeat' split
            all_goals first | rfl | (exfalso; omega)
          · refine x_iload_n C dX8_classOf_54 (kk := ?_)
            refine x_bipush C dX8_classOf_55 (v := 10) (kk := ?_)
            refine x_icmp_eq C dX8_classOf_57 72 (fun hc57 => ?_) (fun hc57 => ?_)
            · refine x_iconst C dX8_classOf_72 (v := 3) (kk := ?_)
              refine x_iret C rfl dX8_classOf_73 (hp := ?_)
              refine ⟨?_, rfl⟩
              unfold clsOf
              simp only [Int32.lt_iff_toInt_lt, Int32.le_iff_toInt_le, Int32.not_lt, Int32.not_le, ← Int32.toInt_inj, Int32.reduceToInt, m1_toInt] at hc3 hc11 hc23 hc37 hc51 hc57 ⊢
              repeat' split
              all_goals first | rfl | (exfalso; omega)
            · refine x_iload_n C dX8_classOf_60 (kk := ?_)
              refine x_bipush C dX8_classOf_61 (v := 13) (kk := ?_)
              refine x_icmp_eq C dX8_classOf_63 72 (fun hc63 => ?_) (fun hc63 => ?_)
              · refine x_iconst C dX8_classOf_72 (v := 3) (kk := ?_)
                refine x_iret C rfl dX8_classOf_73 (hp := ?_)
                refine ⟨?_, rfl⟩
                unfold clsOf
                simp only [Int32.lt_iff_toInt_lt, Int32.le_iff_toInt_le, Int32.not_lt, Int32.not_le, ← Int32.toInt_inj, Int32.reduceToInt, m1_toInt] at hc3 hc11 hc23 hc37 hc51 hc57 hc63 ⊢
                repeat' split
                all_goals first | rfl | (exfalso; omega)
              · refine x_iload_n C dX8_classOf_66 (kk := ?_)
                refine x_bipush C dX8_classOf_67 (v := 32) (kk := ?_)
                refine x_icmp_ne C dX8_classOf_69 74 (fun hc69 => ?_) (fun hc69 => ?_)
                · refine x_iload_n C dX8_classOf_74 (kk := ?_)
                  refine x_bipush C dX8_classOf_75 (v := 33) (kk := ?_)
                  refine x_icmp_lt C dX8_classOf_77 90 (fun hc77 => ?_) (fun hc77 => ?_)
                  · refine x_iconst C dX8_classOf_90 (v := 0) (kk := ?_)
                    refine x_iret C rfl dX8_classOf_91 (hp := ?_)
                    refine ⟨?_, rfl⟩
                    unfold clsOf
                    simp only [Int32.lt_iff_toInt_lt, Int32.le_iff_toInt_le, Int32.not_lt, Int32.not_le, ← Int32.toInt_inj, Int32.reduceToInt, m1_toInt] at hc3 hc11 hc23 hc37 hc51 hc57 hc63 hc69 hc77 ⊢
                    repeat' split
                    all_goals first | rfl | (exfalso; omega)
                  · refine x_iload_n C dX8_classOf_80 (kk := ?_)
                    refine x_bipush C dX8_classOf_81 (v := 126) (kk := ?_)
                    refine x_icmp_gt C dX8_classOf_83 90 (fun hc83 => ?_) (fun hc83 => ?_)
                    · refine x_iconst C dX8_classOf_90 (v := 0) (kk := ?_)
                      refine x_iret C rfl dX8_classOf_91 (hp := ?_)
                      refine ⟨?_, rfl⟩
                      unfold clsOf
                      simp only [Int32.lt_iff_toInt_lt, Int32.le_iff_toInt_le, Int32.not_lt, Int32.not_le, ← Int32.toInt_inj, Int32.reduceToInt, m1_toInt] at hc3 hc11 hc23 hc37 hc51 hc57 hc63 hc69 hc77 hc83 ⊢
                      repeat' split
                      all_goals first | rfl | (exfalso; omega)
                    · refine x_iconst C dX8_classOf_86 (v := 4) (kk := ?_)
                      refine x_goto C dX8_classOf_87 91 ?_
                      refine x_iret C rfl dX8_classOf_91 (hp := ?_)
                      refine ⟨?_, rfl⟩
                      unfold clsOf
                      simp only [Int32.lt_iff_toInt_lt, Int32.le_iff_toInt_le, Int32.not_lt, Int32.not_le, ← Int32.toInt_inj, Int32.reduceToInt, m1_toInt] at hc3 hc11 hc23 hc37 hc51 hc57 hc63 hc69 hc77 hc83 ⊢
                      repeat' split
                      all_goals first | rfl | (exfalso; omega)
                · refine x_iconst C dX8_classOf_72 (v := 3) (kk := ?_)
                  refine x_iret C rfl dX8_classOf_73 (hp := ?_)
                  refine ⟨?_, rfl⟩
                  unfold clsOf
                  simp only [Int32.lt_iff_toInt_lt, Int32.le_iff_toInt_le, Int32.not_lt, Int32.not_le, ← Int32.toInt_inj, Int32.reduceToInt, m1_toInt] at hc3 hc11 hc23 hc37 hc51 hc57 hc63 hc69 ⊢
                  repeat' split
                  all_goals first | rfl | (exfalso; omega)
        · refine x_iload_n C dX8_classOf_40 (kk := ?_)
          refine x_bipush C dX8_classOf_41 (v := 57) (kk := ?_)
          refine x_icmp_gt C dX8_classOf_43 48 (fun hc43 => ?_) (fun hc43 => ?_)
          · refine x_iload_n C dX8_classOf_48 (kk := ?_)
            refine x_bipush C dX8_classOf_49 (v := 9) (kk := ?_)
            refine x_icmp_eq C dX8_classOf_51 72 (fun hc51 => ?_) (fun hc51 => ?_)
            · refine x_iconst C dX8_classOf_72 (v := 3) (kk := ?_)
              refine x_iret C rfl dX8_classOf_73 (hp := ?_)
              refine ⟨?_, rfl⟩
              unfold clsOf
              simp only [Int32.lt_iff_toInt_lt, Int32.le_iff_toInt_le, Int32.not_lt, Int32.not_le, ← Int32.toInt_inj, Int32.reduceToInt, m1_toInt] at hc3 hc11 hc23 hc37 hc43 hc51 ⊢
              repeat' split
              all_goals first | rfl | (exfalso; omega)
            · refine x_iload_n C dX8_classOf_54 (kk := ?_)
              refine x_bipush C dX8_classOf_55 (v := 10) (kk := ?_)
              refine x_icmp_eq C dX8_classOf_57 72 (fun hc57 => ?_) (fun hc57 => ?_)
              · refine x_iconst C dX8_classOf_72 (v := 3) (kk := ?_)
                refine x_iret C rfl dX8_classOf_73 (hp := ?_)
                refine ⟨?_, rfl⟩
                unfold clsOf
                simp only [Int32.lt_iff_toInt_lt, Int32.le_iff_toInt_le, Int32.not_lt, Int32.not_le, ← Int32.toInt_inj, Int32.reduceToInt, m1_toInt] at hc3 hc11 hc23 hc37 hc43 hc51 hc57 ⊢
                repeat' split
                all_goals first | rfl | (exfalso; omega)
              · refine x_iload_n C dX8_classOf_60 (kk := ?_)
                refine x_bipush C dX8_classOf_61 (v := 13) (kk := ?_)
                refine x_icmp_eq C dX8_classOf_63 72 (fun hc63 => ?_) (fun hc63 => ?_)
                · refine x_iconst C dX8_classOf_72 (v := 3) (kk := ?_)
                  refine x_iret C rfl dX8_classOf_73 (hp := ?_)
                  refine ⟨?_, rfl⟩
                  unfold clsOf
                  simp only [Int32.lt_iff_toInt_lt, Int32.le_iff_toInt_le, Int32.not_lt, Int32.not_le, ← Int32.toInt_inj, Int32.reduceToInt, m1_toInt] at hc3 hc11 hc23 hc37 hc43 hc51 hc57 hc63 ⊢
                  repeat' split
                  all_goals first | rfl | (exfalso; omega)
                · refine x_iload_n C dX8_classOf_66 (kk := ?_)
                  refine x_bipush C dX8_classOf_67 (v := 32) (kk := ?_)
                  refine x_icmp_ne C dX8_classOf_69 74 (fun hc69 => ?_) (fun hc69 => ?_)
                  · refine x_iload_n C dX8_classOf_74 (kk := ?_)
                    refine x_bipush C dX8_classOf_75 (v := 33) (kk := ?_)
                    refine x_icmp_lt C dX8_classOf_77 90 (fun hc77 => ?_) (fun hc77 => ?_)
                    · refine x_iconst C dX8_classOf_90 (v := 0) (kk := ?_)
                      refine x_iret C rfl dX8_classOf_91 (hp := ?_)
                      refine ⟨?_, rfl⟩
                      unfold clsOf
                      simp only [Int32.lt_iff_toInt_lt, Int32.le_iff_toInt_le, Int32.not_lt, Int32.not_le, ← Int32.toInt_inj, Int32.reduceToInt, m1_toInt] at hc3 hc11 hc23 hc37 hc43 hc51 hc57 hc63 hc69 hc77 ⊢
                      repeat' split
                      all_goals first | rfl | (exfalso; omega)
                    · refine x_iload_n C dX8_classOf_80 (kk := ?_)
                      refine x_bipush C dX8_classOf_81 (v := 126) (kk := ?_)
                      refine x_icmp_gt C dX8_classOf_83 90 (fun hc83 => ?_) (fun hc83 => ?_)
                      · refine x_iconst C dX8_classOf_90 (v := 0) (kk := ?_)
                        refine x_iret C rfl dX8_classOf_91 (hp := ?_)
                        refine ⟨?_, rfl⟩
                        unfold clsOf
                        simp only [Int32.lt_iff_toInt_lt, Int32.le_iff_toInt_le, Int32.not_lt, Int32.not_le, ← Int32.toInt_inj, Int32.reduceToInt, m1_toInt] at hc3 hc11 hc23 hc37 hc43 hc51 hc57 hc63 hc69 hc77 hc83 ⊢
                        repeat' split
                        all_goals first | rfl | (exfalso; omega)
                      · refine x_iconst C dX8_classOf_86 (v := 4) (kk := ?_)
                        refine x_goto C dX8_classOf_87 91 ?_
                        refine x_iret C rfl dX8_classOf_91 (hp := ?_)
                        refine ⟨?_, rfl⟩
                        unfold clsOf
                        simp only [Int32.lt_iff_toInt_lt, Int32.le_iff_toInt_le, Int32.not_lt, Int32.not_le, ← Int32.toInt_inj, Int32.reduceToInt, m1_toInt] at hc3 hc11 hc23 hc37 hc43 hc51 hc57 hc63 hc69 hc77 hc83 ⊢
                        repeat' split
                        all_goals first | rfl | (exfalso; omega)
                  · refine x_iconst C dX8_classOf_72 (v := 3) (kk := ?_)
                    refine x_iret C rfl dX8_classOf_73 (hp := ?_)
                    refine ⟨?_, rfl⟩
                    unfold clsOf
                    simp only [Int32.lt_iff_toInt_lt, Int32.le_iff_toInt_le, Int32.not_lt, Int32.not_le, ← Int32.toInt_inj, Int32.reduceToInt, m1_toInt] at hc3 hc11 hc23 hc37 hc43 hc51 hc57 hc63 hc69 ⊢
                    repeat' split
                    all_goals first | rfl | (exfalso; omega)
          · refine x_iconst C dX8_classOf_46 (v := 2) (kk := ?_)
            refine x_iret C rfl dX8_classOf_47 (hp := ?_)
            refine ⟨?_, rfl⟩
            unfold clsOf
            simp only [Int32.lt_iff_toInt_lt, Int32.le_iff_toInt_le, Int32.not_lt, Int32.not_le, ← Int32.toInt_inj, Int32.reduceToInt, m1_toInt] at hc3 hc11 hc23 hc37 hc43 ⊢
            repeat' split
            all_goals first | rfl | (exfalso; omega)
      · refine x_iload_n C dX8_classOf_26 (kk := ?_)
        refine x_bipush C dX8_classOf_27 (v := 122) (kk := ?_)
        refine x_icmp_gt C dX8_classOf_29 34 (fun hc29 => ?_) (fun hc29 => ?_)
        · refine x_iload_n C dX8_classOf_34 (kk := ?_)
          refine x_bipush C dX8_classOf_35 (v := 48) (kk := ?_)
          refine x_icmp_lt C dX8_classOf_37 48 (fun hc37 => ?_) (fun hc37 => ?_)
          · refine x_iload_n C dX8_classOf_48 (kk := ?_)
            refine x_bipush C dX8_classOf_49 (v := 9) (kk := ?_)
            refine x_icmp_eq C dX8_classOf_51 72 (fun hc51 => ?_) (fun hc51 => ?_)
            · refine x_iconst C dX8_classOf_72 (v := 3) (kk := ?_)
              refine x_iret C rfl dX8_classOf_73 (hp := ?_)
              refine ⟨?_, rfl⟩
              unfold clsOf
              simp only [Int32.lt_iff_toInt_lt, Int32.le_iff_toInt_le, Int32.not_lt, Int32.not_le, ← Int32.toInt_inj, Int32.reduceToInt, m1_toInt] at hc3 hc11 hc23 hc29 hc37 hc51 ⊢
              repeat' split
              all_goals first | rfl | (exfalso; omega)
            · refine x_iload_n C dX8_classOf_54 (kk := ?_)
              refine x_bipush C dX8_classOf_55 (v := 10) (kk := ?_)
              refine x_icmp_eq C dX8_classOf_57 72 (fun hc57 => ?_) (fun hc57 => ?_)
              · refine x_iconst C dX8_classOf_72 (v := 3) (kk := ?_)
                refine x_iret C rfl dX8_classOf_73 (hp := ?_)
                refine ⟨?_, rfl⟩
                unfold clsOf
                simp only [Int32.lt_iff_toInt_lt, Int32.le_iff_toInt_le, Int32.not_lt, Int32.not_le, ← Int32.toInt_inj, Int32.reduceToInt, m1_toInt] at hc3 hc11 hc23 hc29 hc37 hc51 hc57 ⊢
                repeat' split
                all_goals first | rfl | (exfalso; omega)
              · refine x_iload_n C dX8_classOf_60 (kk := ?_)
                refine x_bipush C dX8_classOf_61 (v := 13) (kk := ?_)
                refine x_icmp_eq C dX8_classOf_63 72 (fun hc63 => ?_) (fun hc63 => ?_)
                · refine x_iconst C dX8_classOf_72 (v := 3) (kk := ?_)
                  refine x_iret C rfl dX8_classOf_73 (hp := ?_)
                  refine ⟨?_, rfl⟩
                  unfold clsOf
                  simp only [Int32.lt_iff_toInt_lt, Int32.le_iff_toInt_le, Int32.not_lt, Int32.not_le, ← Int32.toInt_inj, Int32.reduceToInt, m1_toInt] at hc3 hc11 hc23 hc29 hc37 hc51 hc57 hc63 ⊢
                  repeat' split
                  all_goals first | rfl | (exfalso; omega)
                · refine x_iload_n C dX8_classOf_66 (kk := ?_)
                  refine x_bipush C dX8_classOf_67 (v := 32) (kk := ?_)
                  refine x_icmp_ne C dX8_classOf_69 74 (fun hc69 => ?_) (fun hc69 => ?_)
                  · refine x_iload_n C dX8_classOf_74 (kk := ?_)
                    refine x_bipush C dX8_classOf_75 (v := 33) (kk := ?_)
                    refine x_icmp_lt C dX8_classOf_77 90 (fun hc77 => ?_) (fun hc77 => ?_)
                    · refine x_iconst C dX8_classOf_90 (v := 0) (kk := ?_)
                      refine x_iret C rfl dX8_classOf_91 (hp := ?_)
                      refine ⟨?_, rfl⟩
                      unfold clsOf
                      simp only [Int32.lt_iff_toInt_lt, Int32.le_iff_toInt_le, Int32.not_lt, Int32.not_le, ← Int32.toInt_inj, Int32.reduceToInt, m1_toInt] at hc3 hc11 hc23 hc29 hc37 hc51 hc57 hc63 hc69 hc77 ⊢
                      repeat' split
                      all_goals first | rfl | (exfalso; omega)
                    · refine x_iload_n C dX8_classOf_80 (kk := ?_)
                      refine x_bipush C dX8_classOf_81 (v := 126) (kk := ?_)
                      refine x_icmp_gt C dX8_classOf_83 90 (fun hc83 => ?_) (fun hc83 => ?_)
                      · refine x_iconst C dX8_classOf_90 (v := 0) (kk := ?_)
                        refine x_iret C rfl dX8_classOf_91 (hp := ?_)
                        refine ⟨?_, rfl⟩
                        unfold clsOf
                        simp only [Int32.lt_iff_toInt_lt, Int32.le_iff_toInt_le, Int32.not_lt, Int32.not_le, ← Int32.toInt_inj, Int32.reduceToInt, m1_toInt] at hc3 hc11 hc23 hc29 hc37 hc51 hc57 hc63 hc69 hc77 hc83 ⊢
                        repeat' split
                        all_goals first | rfl | (exfalso; omega)
                      · refine x_iconst C dX8_classOf_86 (v := 4) (kk := ?_)
                        refine x_goto C dX8_classOf_87 91 ?_
                        refine x_iret C rfl dX8_classOf_91 (hp := ?_)
                        refine ⟨?_, rfl⟩
                        unfold clsOf
                        simp only [Int32.lt_iff_toInt_lt, Int32.le_iff_toInt_le, Int32.not_lt, Int32.not_le, ← Int32.toInt_inj, Int32.reduceToInt, m1_toInt] at hc3 hc11 hc23 hc29 hc37 hc51 hc57 hc63 hc69 hc77 hc83 ⊢
                        repeat' split
                        all_goals first | rfl | (exfalso; omega)
                  · refine x_iconst C dX8_classOf_72 (v := 3) (kk := ?_)
                    refine x_iret C rfl dX8_classOf_73 (hp := ?_)
                    refine ⟨?_, rfl⟩
                    unfold clsOf
                    simp only [Int32.lt_iff_toInt_lt, Int32.le_iff_toInt_le, Int32.not_lt, Int32.not_le, ← Int32.toInt_inj, Int32.reduceToInt, m1_toInt] at hc3 hc11 hc23 hc29 hc37 hc51 hc57 hc63 hc69 ⊢
                    repeat' split
                    all_goals first | rfl | (exfalso; omega)
          · refine x_iload_n C dX8_classOf_40 (kk := ?_)
            refine x_bipush C dX8_classOf_41 (v := 57) (kk := ?_)
            refine x_icmp_gt C dX8_classOf_43 48 (fun hc43 => ?_) (fun hc43 => ?_)
            · refine x_iload_n C dX8_classOf_48 (kk := ?_)
              refine x_bipush C dX8_classOf_49 (v := 9) (kk := ?_)
              refine x_icmp_eq C dX8_classOf_51 72 (fun hc51 => ?_) (fun hc51 => ?_)
              · refine x_iconst C dX8_classOf_72 (v := 3) (kk := ?_)
                refine x_iret C rfl dX8_classOf_73 (hp := ?_)
                refine ⟨?_, rfl⟩
                unfold clsOf
                simp only [Int32.lt_iff_toInt_lt, Int32.le_iff_toInt_le, Int32.not_lt, Int32.not_le, ← Int32.toInt_inj, Int32.reduceToInt, m1_toInt] at hc3 hc11 hc23 hc29 hc37 hc43 hc51 ⊢
                repeat' split
                all_goals first | rfl | (exfalso; omega)
              · refine x_iload_n C dX8_classOf_54 (kk := ?_)
                refine x_bipush C dX8_classOf_55 (v := 10) (kk := ?_)
                refine x_icmp_eq C dX8_classOf_57 72 (fun hc57 => ?_) (fun hc57 => ?_)
                · refine x_iconst C dX8_classOf_72 (v := 3) (kk := ?_)
                  refine x_iret C rfl dX8_classOf_73 (hp := ?_)
                  refine ⟨?_, rfl⟩
                  unfold clsOf
                  simp only [Int32.lt_iff_toInt_lt, Int32.le_iff_toInt_le, Int32.not_lt, Int32.not_le, ← Int32.toInt_inj, Int32.reduceToInt, m1_toInt] at hc3 hc11 hc23 hc29 hc37 hc43 hc51 hc57 ⊢
                  repeat' split
                  all_goals first | rfl | (exfalso; omega)
                · refine x_iload_n C dX8_classOf_60 (kk := ?_)
                  refine x_bipush C dX8_classOf_61 (v := 13) (kk := ?_)
                  refine x_icmp_eq C dX8_classOf_63 72 (fun hc63 => ?_) (fun hc63 => ?_)
                  · refine x_iconst C dX8_classOf_72 (v := 3) (kk := ?_)
                    refine x_iret C rfl dX8_classOf_73 (hp := ?_)
                    refine ⟨?_, rfl⟩
                    unfold clsOf
                    simp only [Int32.lt_iff_toInt_lt, Int32.le_iff_toInt_le, Int32.not_lt, Int32.not_le, ← Int32.toInt_inj, Int32.reduceToInt, m1_toInt] at hc3 hc11 hc23 hc29 hc37 hc43 hc51 hc57 hc63 ⊢
                    repeat' split
                    all_goals first | rfl | (exfalso; omega)
                  · refine x_iload_n C dX8_classOf_66 (kk := ?_)
                    refine x_bipush C dX8_classOf_67 (v := 32) (kk := ?_)
                    refine x_icmp_ne C dX8_classOf_69 74 (fun hc69 => ?_) (fun hc69 => ?_)
                    · refine x_iload_n C dX8_classOf_74 (kk := ?_)
                      refine x_bipush C dX8_classOf_75 (v := 33) (kk := ?_)
                      refine x_icmp_lt C dX8_classOf_77 90 (fun hc77 => ?_) (fun hc77 => ?_)
                      · refine x_iconst C dX8_classOf_90 (v := 0) (kk := ?_)
                        refine x_iret C rfl dX8_classOf_91 (hp := ?_)
                        refine ⟨?_, rfl⟩
                        unfold clsOf
                        simp only [Int32.lt_iff_toInt_lt, Int32.le_iff_toInt_le, Int32.not_lt, Int32.not_le, ← Int32.toInt_inj, Int32.reduceToInt, m1_toInt] at hc3 hc11 hc23 hc29 hc37 hc43 hc51 hc57 hc63 hc69 hc77 ⊢
                        repeat' split
                        all_goals first | rfl | (exfalso; omega)
                      · refine x_iload_n C dX8_classOf_80 (kk := ?_)
                        refine x_bipush C dX8_classOf_81 (v := 126) (kk := ?_)
                        refine x_icmp_gt C dX8_classOf_83 90 (fun hc83 => ?_) (fun hc83 => ?_)
                        · refine x_iconst C dX8_classOf_90 (v := 0) (kk := ?_)
                          refine x_iret C rfl dX8_classOf_91 (hp := ?_)
                          refine ⟨?_, rfl⟩
                          unfold clsOf
                          simp only [Int32.lt_iff_toInt_lt, Int32.le_iff_toInt_le, Int32.not_lt, Int32.not_le, ← Int32.toInt_inj, Int32.reduceToInt, m1_toInt] at hc3 hc11 hc23 hc29 hc37 hc43 hc51 hc57 hc63 hc69 hc77 hc83 ⊢
                          repeat' split
                          all_goals first | rfl | (exfalso; omega)
                        · refine x_iconst C dX8_classOf_86 (v := 4) (kk := ?_)
                          refine x_goto C dX8_classOf_87 91 ?_
                          refine x_iret C rfl dX8_classOf_91 (hp := ?_)
                          refine ⟨?_, rfl⟩
                          unfold clsOf
                          simp only [Int32.lt_iff_toInt_lt, Int32.le_iff_toInt_le, Int32.not_lt, Int32.not_le, ← Int32.toInt_inj, Int32.reduceToInt, m1_toInt] at hc3 hc11 hc23 hc29 hc37 hc43 hc51 hc57 hc63 hc69 hc77 hc83 ⊢
                          repeat' split
                          all_goals first | rfl | (exfalso; omega)
                    · refine x_iconst C dX8_classOf_72 (v := 3) (kk := ?_)
                      refine x_iret C rfl dX8_classOf_73 (hp := ?_)
                      refine ⟨?_, rfl⟩
                      unfold clsOf
                      simp only [Int32.lt_iff_toInt_lt, Int32.le_iff_toInt_le, Int32.not_lt, Int32.not_le, ← Int32.toInt_inj, Int32.reduceToInt, m1_toInt] at hc3 hc11 hc23 hc29 hc37 hc43 hc51 hc57 hc63 hc69 ⊢
                      repeat' split
                      all_goals first | rfl | (exfalso; omega)
            · refine x_iconst C dX8_classOf_46 (v := 2) (kk := ?_)
              refine x_iret C rfl dX8_classOf_47 (hp := ?_)
              refine ⟨?_, rfl⟩
              unfold clsOf
              simp only [Int32.lt_iff_toInt_lt, Int32.le_iff_toInt_le, Int32.not_lt, Int32.not_le, ← Int32.toInt_inj, Int32.reduceToInt, m1_toInt] at hc3 hc11 hc23 hc29 hc37 hc43 ⊢
              repeat' split
              all_goals first | rfl | (exfalso; omega)
        · refine x_iconst C dX8_classOf_32 (v := 1) (kk := ?_)
          refine x_iret C rfl dX8_classOf_33 (hp := ?_)
          refine ⟨?_, rfl⟩
          unfold clsOf
          simp only [Int32.lt_iff_toInt_lt, Int32.le_iff_toInt_le, Int32.not_lt, Int32.not_le, ← Int32.toInt_inj, Int32.reduceToInt, m1_toInt] at hc3 hc11 hc23 hc29 ⊢
          repeat' split
          all_goals first | rfl | (exfalso; omega)
    · refine x_iload_n C dX8_classOf_14 (kk := ?_)
      refine x_bipush C dX8_classOf_15 (v := 90) (kk := ?_)
      refine x_icmp_le C dX8_classOf_17 32 (fun hc17 => ?_) (fun hc17 => ?_)
      · refine x_iconst C dX8_classOf_32 (v := 1) (kk := ?_)
        refine x_iret C rfl dX8_classOf_33 (hp := ?_)
        refine ⟨?_, rfl⟩
        unfold clsOf
        simp only [Int32.lt_iff_toInt_lt, Int32.le_iff_toInt_le, Int32.not_lt, Int32.not_le, ← Int32.toInt_inj, Int32.reduceToInt, m1_toInt] at hc3 hc11 hc17 ⊢
        repeat' split
        all_goals first | rfl | (exfalso; omega)
      · refine x_iload_n C dX8_classOf_20 (kk := ?_)
        refine x_bipush C dX8_classOf_21 (v := 97) (kk := ?_)
        refine x_icmp_lt C dX8_classOf_23 34 (fun hc23 => ?_) (fun hc23 => ?_)
        · refine x_iload_n C dX8_classOf_34 (kk := ?_)
          refine x_bipush C dX8_classOf_35 (v := 48) (kk := ?_)
          refine x_icmp_lt C dX8_classOf_37 48 (fun hc37 => ?_) (fun hc37 => ?_)
          · refine x_iload_n C dX8_classOf_48 (kk := ?_)
            refine x_bipush C dX8_classOf_49 (v := 9) (kk := ?_)
            refine x_icmp_eq C dX8_classOf_51 72 (fun hc51 => ?_) (fun hc51 => ?_)
            · refine x_iconst C dX8_classOf_72 (v := 3) (kk := ?_)
              refine x_iret C rfl dX8_classOf_73 (hp := ?_)
              refine ⟨?_, rfl⟩
              unfold clsOf
              simp only [Int32.lt_iff_toInt_lt, Int32.le_iff_toInt_le, Int32.not_lt, Int32.not_le, ← Int32.toInt_inj, Int32.reduceToInt, m1_toInt] at hc3 hc11 hc17 hc23 hc37 hc51 ⊢
              repeat' split
              all_goals first | rfl | (exfalso; omega)
            · refine x_iload_n C dX8_classOf_54 (kk := ?_)
              refine x_bipush C dX8_classOf_55 (v := 10) (kk := ?_)
              refine x_icmp_eq C dX8_classOf_57 72 (fun hc57 => ?_) (fun hc57 => ?_)
              · refine x_iconst C dX8_classOf_72 (v := 3) (kk := ?_)
                refine x_iret C rfl dX8_classOf_73 (hp := ?_)
                refine ⟨?_, rfl⟩
                unfold clsOf
                simp only [Int32.lt_iff_toInt_lt, Int32.le_iff_toInt_le, Int32.not_lt, Int32.not_le, ← Int32.toInt_inj, Int32.reduceToInt, m1_toInt] at hc3 hc11 hc17 hc23 hc37 hc51 hc57 ⊢
                repeat' split
                all_goals first | rfl | (exfalso; omega)
              · refine x_iload_n C dX8_classOf_60 (kk := ?_)
                refine x_bipush C dX8_classOf_61 (v := 13) (kk := ?_)
                refine x_icmp_eq C dX8_classOf_63 72 (fun hc63 => ?_) (fun hc63 => ?_)
                · refine x_iconst C dX8_classOf_72 (v := 3) (kk := ?_)
                  refine x_iret C rfl dX8_classOf_73 (hp := ?_)
                  refine ⟨?_, rfl⟩
                  unfold clsOf
                  simp only [Int32.lt_iff_toInt_lt, Int32.le_iff_toInt_le, Int32.not_lt, Int32.not_le, ← Int32.toInt_inj, Int32.reduceToInt, m1_toInt] at hc3 hc11 hc17 hc23 hc37 hc51 hc57 hc63 ⊢
                  repeat' split
                  all_goals first | rfl | (exfalso; omega)
                · refine x_iload_n C dX8_classOf_66 (kk := ?_)
                  refine x_bipush C dX8_classOf_67 (v := 32) (kk := ?_)
                  refine x_icmp_ne C dX8_classOf_69 74 (fun hc69 => ?_) (fun hc69 => ?_)
                  · refine x_iload_n C dX8_classOf_74 (kk := ?_)
                    refine x_bipush C dX8_classOf_75 (v := 33) (kk := ?_)
                    refine x_icmp_lt C dX8_classOf_77 90 (fun hc77 => ?_) (fun hc77 => ?_)
                    · refine x_iconst C dX8_classOf_90 (v := 0) (kk := ?_)
                      refine x_iret C rfl dX8_classOf_91 (hp := ?_)
                      refine ⟨?_, rfl⟩
                      unfold clsOf
                      simp only [Int32.lt_iff_toInt_lt, Int32.le_iff_toInt_le, Int32.not_lt, Int32.not_le, ← Int32.toInt_inj, Int32.reduceToInt, m1_toInt] at hc3 hc11 hc17 hc23 hc37 hc51 hc57 hc63 hc69 hc77 ⊢
                      repeat' split
                      all_goals first | rfl | (exfalso; omega)
                    · refine x_iload_n C dX8_classOf_80 (kk := ?_)
                      refine x_bipush C dX8_classOf_81 (v := 126) (kk := ?_)
                      refine x_icmp_gt C dX8_classOf_83 90 (fun hc83 => ?_) (fun hc83 => ?_)
                      · refine x_iconst C dX8_classOf_90 (v := 0) (kk := ?_)
                        refine x_iret C rfl dX8_classOf_91 (hp := ?_)
                        refine ⟨?_, rfl⟩
                        unfold clsOf
                        simp only [Int32.lt_iff_toInt_lt, Int32.le_iff_toInt_le, Int32.not_lt, Int32.not_le, ← Int32.toInt_inj, Int32.reduceToInt, m1_toInt] at hc3 hc11 hc17 hc23 hc37 hc51 hc57 hc63 hc69 hc77 hc83 ⊢
                        repeat' split
                        all_goals first | rfl | (exfalso; omega)
                      · refine x_iconst C dX8_classOf_86 (v := 4) (kk := ?_)
                        refine x_goto C dX8_classOf_87 91 ?_
                        refine x_iret C rfl dX8_classOf_91 (hp := ?_)
                        refine ⟨?_, rfl⟩
                        unfold clsOf
                        simp only [Int32.lt_iff_toInt_lt, Int32.le_iff_toInt_le, Int32.not_lt, Int32.not_le, ← Int32.toInt_inj, Int32.reduceToInt, m1_toInt] at hc3 hc11 hc17 hc23 hc37 hc51 hc57 hc63 hc69 hc77 hc83 ⊢
                        repeat' split
                        all_goals first | rfl | (exfalso; omega)
                  · refine x_iconst C dX8_classOf_72 (v := 3) (kk := ?_)
                    refine x_iret C rfl dX8_classOf_73 (hp := ?_)
                    refine ⟨?_, rfl⟩
                    unfold clsOf
                    simp only [Int32.lt_iff_toInt_lt, Int32.le_iff_toInt_le, Int32.not_lt, Int32.not_le, ← Int32.toInt_inj, Int32.reduceToInt, m1_toInt] at hc3 hc11 hc17 hc23 hc37 hc51 hc57 hc63 hc69 ⊢
                    repeat' split
                    all_goals first | rfl | (exfalso; omega)
          · refine x_iload_n C dX8_classOf_40 (kk := ?_)
            refine x_bipush C dX8_classOf_41 (v := 57) (kk := ?_)
            refine x_icmp_gt C dX8_classOf_43 48 (fun hc43 => ?_) (fun hc43 => ?_)
            · refine x_iload_n C dX8_classOf_48 (kk := ?_)
              refine x_bipush C dX8_classOf_49 (v := 9) (kk := ?_)
              refine x_icmp_eq C dX8_classOf_51 72 (fun hc51 => ?_) (fun hc51 => ?_)
              · refine x_iconst C dX8_classOf_72 (v := 3) (kk := ?_)
                refine x_iret C rfl dX8_classOf_73 (hp := ?_)
                refine ⟨?_, rfl⟩
                unfold clsOf
                simp only [Int32.lt_iff_toInt_lt, Int32.le_iff_toInt_le, Int32.not_lt, Int32.not_le, ← Int32.toInt_inj, Int32.reduceToInt, m1_toInt] at hc3 hc11 hc17 hc23 hc37 hc43 hc51 ⊢
                repeat' split
                all_goals first | rfl | (exfalso; omega)
              · refine x_iload_n C dX8_classOf_54 (kk := ?_)
                refine x_bipush C dX8_classOf_55 (v := 10) (kk := ?_)
                refine x_icmp_eq C dX8_classOf_57 72 (fun hc57 => ?_) (fun hc57 => ?_)
                · refine x_iconst C dX8_classOf_72 (v := 3) (kk := ?_)
                  refine x_iret C rfl dX8_classOf_73 (hp := ?_)
                  refine ⟨?_, rfl⟩
                  unfold clsOf
                  simp only [Int32.lt_iff_toInt_lt, Int32.le_iff_toInt_le, Int32.not_lt, Int32.not_le, ← Int32.toInt_inj, Int32.reduceToInt, m1_toInt] at hc3 hc11 hc17 hc23 hc37 hc43 hc51 hc57 ⊢
                  repeat' split
                  all_goals first | rfl | (exfalso; omega)
                · refine x_iload_n C dX8_classOf_60 (kk := ?_)
                  refine x_bipush C dX8_classOf_61 (v := 13) (kk := ?_)
                  refine x_icmp_eq C dX8_classOf_63 72 (fun hc63 => ?_) (fun hc63 => ?_)
                  · refine x_iconst C dX8_classOf_72 (v := 3) (kk := ?_)
                    refine x_iret C rfl dX8_classOf_73 (hp := ?_)
                    refine ⟨?_, rfl⟩
                    unfold clsOf
                    simp only [Int32.lt_iff_toInt_lt, Int32.le_iff_toInt_le, Int32.not_lt, Int32.not_le, ← Int32.toInt_inj, Int32.reduceToInt, m1_toInt] at hc3 hc11 hc17 hc23 hc37 hc43 hc51 hc57 hc63 ⊢
                    repeat' split
                    all_goals first | rfl | (exfalso; omega)
                  · refine x_iload_n C dX8_classOf_66 (kk := ?_)
                    refine x_bipush C dX8_classOf_67 (v := 32) (kk := ?_)
                    refine x_icmp_ne C dX8_classOf_69 74 (fun hc69 => ?_) (fun hc69 => ?_)
                    · refine x_iload_n C dX8_classOf_74 (kk := ?_)
                      refine x_bipush C dX8_classOf_75 (v := 33) (kk := ?_)
                      refine x_icmp_lt C dX8_classOf_77 90 (fun hc77 => ?_) (fun hc77 => ?_)
                      · refine x_iconst C dX8_classOf_90 (v := 0) (kk := ?_)
                        refine x_iret C rfl dX8_classOf_91 (hp := ?_)
                        refine ⟨?_, rfl⟩
                        unfold clsOf
                        simp only [Int32.lt_iff_toInt_lt, Int32.le_iff_toInt_le, Int32.not_lt, Int32.not_le, ← Int32.toInt_inj, Int32.reduceToInt, m1_toInt] at hc3 hc11 hc17 hc23 hc37 hc43 hc51 hc57 hc63 hc69 hc77 ⊢
                        repeat' split
                        all_goals first | rfl | (exfalso; omega)
                      · refine x_iload_n C dX8_classOf_80 (kk := ?_)
                        refine x_bipush C dX8_classOf_81 (v := 126) (kk := ?_)
                        refine x_icmp_gt C dX8_classOf_83 90 (fun hc83 => ?_) (fun hc83 => ?_)
                        · refine x_iconst C dX8_classOf_90 (v := 0) (kk := ?_)
                          refine x_iret C rfl dX8_classOf_91 (hp := ?_)
                          refine ⟨?_, rfl⟩
                          unfold clsOf
                          simp only [Int32.lt_iff_toInt_lt, Int32.le_iff_toInt_le, Int32.not_lt, Int32.not_le, ← Int32.toInt_inj, Int32.reduceToInt, m1_toInt] at hc3 hc11 hc17 hc23 hc37 hc43 hc51 hc57 hc63 hc69 hc77 hc83 ⊢
                          repeat' split
                          all_goals first | rfl | (exfalso; omega)
                        · refine x_iconst C dX8_classOf_86 (v := 4) (kk := ?_)
                          refine x_goto C dX8_classOf_87 91 ?_
                          refine x_iret C rfl dX8_classOf_91 (hp := ?_)
                          refine ⟨?_, rfl⟩
                          unfold clsOf
                          simp only [Int32.lt_iff_toInt_lt, Int32.le_iff_toInt_le, Int32.not_lt, Int32.not_le, ← Int32.toInt_inj, Int32.reduceToInt, m1_toInt] at hc3 hc11 hc17 hc23 hc37 hc43 hc51 hc57 hc63 hc69 hc77 hc83 ⊢
                          repeat' split
                          all_goals first | rfl | (exfalso; omega)
                    · refine x_iconst C dX8_classOf_72 (v := 3) (kk := ?_)
                      refine x_iret C rfl dX8_classOf_73 (hp := ?_)
                      refine ⟨?_, rfl⟩
                      unfold clsOf
                      simp only [Int32.lt_iff_toInt_lt, Int32.le_iff_toInt_le, Int32.not_lt, Int32.not_le, ← Int32.toInt_inj, Int32.reduceToInt, m1_toInt] at hc3 hc11 hc17 hc23 hc37 hc43 hc51 hc57 hc63 hc69 ⊢
                      repeat' split
                      all_goals first | rfl | (exfalso; omega)
            · refine x_iconst C dX8_classOf_46 (v := 2) (kk := ?_)
              refine x_iret C rfl dX8_classOf_47 (hp := ?_)
              refine ⟨?_, rfl⟩
              unfold clsOf
              simp only [Int32.lt_iff_toInt_lt, Int32.le_iff_toInt_le, Int32.not_lt, Int32.not_le, ← Int32.toInt_inj, Int32.reduceToInt, m1_toInt] at hc3 hc11 hc17 hc23 hc37 hc43 ⊢
              repeat' split
              all_goals first | rfl | (exfalso; omega)
        · refine x_iload_n C dX8_classOf_26 (kk := ?_)
          refine x_bipush C dX8_classOf_27 (v := 122) (kk := ?_)
          refine x_icmp_gt C dX8_classOf_29 34 (fun hc29 => ?_) (fun hc29 => ?_)
          · refine x_iload_n C dX8_classOf_34 (kk := ?_)
            refine x_bipush C dX8_classOf_35 (v := 48) (kk := ?_)
            refine x_icmp_lt C dX8_classOf_37 48 (fun hc37 => ?_) (fun hc37 => ?_)
            · refine x_iload_n C dX8_classOf_48 (kk := ?_)
              refine x_bipush C dX8_classOf_49 (v := 9) (kk := ?_)
              refine x_icmp_eq C dX8_classOf_51 72 (fun hc51 => ?_) (fun hc51 => ?_)
              · refine x_iconst C dX8_classOf_72 (v := 3) (kk := ?_)
                refine x_iret C rfl dX8_classOf_73 (hp := ?_)
                refine ⟨?_, rfl⟩
                unfold clsOf
                simp only [Int32.lt_iff_toInt_lt, Int32.le_iff_toInt_le, Int32.not_lt, Int32.not_le, ← Int32.toInt_inj, Int32.reduceToInt, m1_toInt] at hc3 hc11 hc17 hc23 hc29 hc37 hc51 ⊢
                repeat' split
                all_goals first | rfl | (exfalso; omega)
              · refine x_iload_n C dX8_classOf_54 (kk := ?_)
                refine x_bipush C dX8_classOf_55 (v := 10) (kk := ?_)
                refine x_icmp_eq C dX8_classOf_57 72 (fun hc57 => ?_) (fun hc57 => ?_)
                · refine x_iconst C dX8_classOf_72 (v := 3) (kk := ?_)
                  refine x_iret C rfl dX8_classOf_73 (hp := ?_)
                  refine ⟨?_, rfl⟩
                  unfold clsOf
                  simp only [Int32.lt_iff_toInt_lt, Int32.le_iff_toInt_le, Int32.not_lt, Int32.not_le, ← Int32.toInt_inj, Int32.reduceToInt, m1_toInt] at hc3 hc11 hc17 hc23 hc29 hc37 hc51 hc57 ⊢
                  repeat' split
                  all_goals first | rfl | (exfalso; omega)
                · refine x_iload_n C dX8_classOf_60 (kk := ?_)
                  refine x_bipush C dX8_classOf_61 (v := 13) (kk := ?_)
                  refine x_icmp_eq C dX8_classOf_63 72 (fun hc63 => ?_) (fun hc63 => ?_)
                  · refine x_iconst C dX8_classOf_72 (v := 3) (kk := ?_)
                    refine x_iret C rfl dX8_classOf_73 (hp := ?_)
                    refine ⟨?_, rfl⟩
                    unfold clsOf
                    simp only [Int32.lt_iff_toInt_lt, Int32.le_iff_toInt_le, Int32.not_lt, Int32.not_le, ← Int32.toInt_inj, Int32.reduceToInt, m1_toInt] at hc3 hc11 hc17 hc23 hc29 hc37 hc51 hc57 hc63 ⊢
                    repeat' split
                    all_goals first | rfl | (exfalso; omega)
                  · refine x_iload_n C dX8_classOf_66 (kk := ?_)
                    refine x_bipush C dX8_classOf_67 (v := 32) (kk := ?_)
                    refine x_icmp_ne C dX8_classOf_69 74 (fun hc69 => ?_) (fun hc69 => ?_)
                    · refine x_iload_n C dX8_classOf_74 (kk := ?_)
                      refine x_bipush C dX8_classOf_75 (v := 33) (kk := ?_)
                      refine x_icmp_lt C dX8_classOf_77 90 (fun hc77 => ?_) (fun hc77 => ?_)
                      · refine x_iconst C dX8_classOf_90 (v := 0) (kk := ?_)
                        refine x_iret C rfl dX8_classOf_91 (hp := ?_)
                        refine ⟨?_, rfl⟩
                        unfold clsOf
                        simp only [Int32.lt_iff_toInt_lt, Int32.le_iff_toInt_le, Int32.not_lt, Int32.not_le, ← Int32.toInt_inj, Int32.reduceToInt, m1_toInt] at hc3 hc11 hc17 hc23 hc29 hc37 hc51 hc57 hc63 hc69 hc77 ⊢
                        repeat' split
                        all_goals first | rfl | (exfalso; omega)
                      · refine x_iload_n C dX8_classOf_80 (kk := ?_)
                        refine x_bipush C dX8_classOf_81 (v := 126) (kk := ?_)
                        refine x_icmp_gt C dX8_classOf_83 90 (fun hc83 => ?_) (fun hc83 => ?_)
                        · refine x_iconst C dX8_classOf_90 (v := 0) (kk := ?_)
                          refine x_iret C rfl dX8_classOf_91 (hp := ?_)
                          refine ⟨?_, rfl⟩
                          unfold clsOf
                          simp only [Int32.lt_iff_toInt_lt, Int32.le_iff_toInt_le, Int32.not_lt, Int32.not_le, ← Int32.toInt_inj, Int32.reduceToInt, m1_toInt] at hc3 hc11 hc17 hc23 hc29 hc37 hc51 hc57 hc63 hc69 hc77 hc83 ⊢
                          repeat' split
                          all_goals first | rfl | (exfalso; omega)
                        · refine x_iconst C dX8_classOf_86 (v := 4) (kk := ?_)
                          refine x_goto C dX8_classOf_87 91 ?_
                          refine x_iret C rfl dX8_classOf_91 (hp := ?_)
                          refine ⟨?_, rfl⟩
                          unfold clsOf
                          simp only [Int32.lt_iff_toInt_lt, Int32.le_iff_toInt_le, Int32.not_lt, Int32.not_le, ← Int32.toInt_inj, Int32.reduceToInt, m1_toInt] at hc3 hc11 hc17 hc23 hc29 hc37 hc51 hc57 hc63 hc69 hc77 hc83 ⊢
                          repeat' split
                          all_goals first | rfl | (exfalso; omega)
                    · refine x_iconst C dX8_classOf_72 (v := 3) (kk := ?_)
                      refine x_iret C rfl dX8_classOf_73 (hp := ?_)
                      refine ⟨?_, rfl⟩
                      unfold clsOf
                      simp only [Int32.lt_iff_toInt_lt, Int32.le_iff_toInt_le, Int32.not_lt, Int32.not_le, ← Int32.toInt_inj, Int32.reduceToInt, m1_toInt] at hc3 hc11 hc17 hc23 hc29 hc37 hc51 hc57 hc63 hc69 ⊢
                      repeat' split
                      all_goals first | rfl | (exfalso; omega)
            · refine x_iload_n C dX8_classOf_40 (kk := ?_)
              refine x_bipush C dX8_classOf_41 (v := 57) (kk := ?_)
              refine x_icmp_gt C dX8_classOf_43 48 (fun hc43 => ?_) (fun hc43 => ?_)
              · refine x_iload_n C dX8_classOf_48 (kk := ?_)
                refine x_bipush C dX8_classOf_49 (v := 9) (kk := ?_)
                refine x_icmp_eq C dX8_classOf_51 72 (fun hc51 => ?_) (fun hc51 => ?_)
                · refine x_iconst C dX8_classOf_72 (v := 3) (kk := ?_)
                  refine x_iret C rfl dX8_classOf_73 (hp := ?_)
                  refine ⟨?_, rfl⟩
                  unfold clsOf
                  simp only [Int32.lt_iff_toInt_lt, Int32.le_iff_toInt_le, Int32.not_lt, Int32.not_le, ← Int32.toInt_inj, Int32.reduceToInt, m1_toInt] at hc3 hc11 hc17 hc23 hc29 hc37 hc43 hc51 ⊢
                  repeat' split
                  all_goals first | rfl | (exfalso; omega)
                · refine x_iload_n C dX8_classOf_54 (kk := ?_)
                  refine x_bipush C dX8_classOf_55 (v := 10) (kk := ?_)
                  refine x_icmp_eq C dX8_classOf_57 72 (fun hc57 => ?_) (fun hc57 => ?_)
                  · refine x_iconst C dX8_classOf_72 (v := 3) (kk := ?_)
                    refine x_iret C rfl dX8_classOf_73 (hp := ?_)
                    refine ⟨?_, rfl⟩
                    unfold clsOf
                    simp only [Int32.lt_iff_toInt_lt, Int32.le_iff_toInt_le, Int32.not_lt, Int32.not_le, ← Int32.toInt_inj, Int32.reduceToInt, m1_toInt] at hc3 hc11 hc17 hc23 hc29 hc37 hc43 hc51 hc57 ⊢
                    repeat' split
                    all_goals first | rfl | (exfalso; omega)
                  · refine x_iload_n C dX8_classOf_60 (kk := ?_)
                    refine x_bipush C dX8_classOf_61 (v := 13) (kk := ?_)
                    refine x_icmp_eq C dX8_classOf_63 72 (fun hc63 => ?_) (fun hc63 => ?_)
                    · refine x_iconst C dX8_classOf_72 (v := 3) (kk := ?_)
                      refine x_iret C rfl dX8_classOf_73 (hp := ?_)
                      refine ⟨?_, rfl⟩
                      unfold clsOf
                      simp only [Int32.lt_iff_toInt_lt, Int32.le_iff_toInt_le, Int32.not_lt, Int32.not_le, ← Int32.toInt_inj, Int32.reduceToInt, m1_toInt] at hc3 hc11 hc17 hc23 hc29 hc37 hc43 hc51 hc57 hc63 ⊢
                      repeat' split
                      all_goals first | rfl | (exfalso; omega)
                    · refine x_iload_n C dX8_classOf_66 (kk := ?_)
                      refine x_bipush C dX8_classOf_67 (v := 32) (kk := ?_)
                      refine x_icmp_ne C dX8_classOf_69 74 (fun hc69 => ?_) (fun hc69 => ?_)
                      · refine x_iload_n C dX8_classOf_74 (kk := ?_)
                        refine x_bipush C dX8_classOf_75 (v := 33) (kk := ?_)
                        refine x_icmp_lt C dX8_classOf_77 90 (fun hc77 => ?_) (fun hc77 => ?_)
                        · refine x_iconst C dX8_classOf_90 (v := 0) (kk := ?_)
                          refine x_iret C rfl dX8_classOf_91 (hp := ?_)
                          refine ⟨?_, rfl⟩
                          unfold clsOf
                          simp only [Int32.lt_iff_toInt_lt, Int32.le_iff_toInt_le, Int32.not_lt, Int32.not_le, ← Int32.toInt_inj, Int32.reduceToInt, m1_toInt] at hc3 hc11 hc17 hc23 hc29 hc37 hc43 hc51 hc57 hc63 hc69 hc77 ⊢
                          repeat' split
                          all_goals first | rfl | (exfalso; omega)
                        · refine x_iload_n C dX8_classOf_80 (kk := ?_)
                          refine x_bipush C dX8_classOf_81 (v := 126) (kk := ?_)
                          refine x_icmp_gt C dX8_classOf_83 90 (fun hc83 => ?_) (fun hc83 => ?_)
                          · refine x_iconst C dX8_classOf_90 (v := 0) (kk := ?_)
                            refine x_iret C rfl dX8_classOf_91 (hp := ?_)
                            refine ⟨?_, rfl⟩
                            unfold clsOf
                            simp only [Int32.lt_iff_toInt_lt, Int32.le_iff_toInt_le, Int32.not_lt, Int32.not_le, ← Int32.toInt_inj, Int32.reduceToInt, m1_toInt] at hc3 hc11 hc17 hc23 hc29 hc37 hc43 hc51 hc57 hc63 hc69 hc77 hc83 ⊢
                            repeat' split
                            all_goals first | rfl | (exfalso; omega)
                          · refine x_iconst C dX8_classOf_86 (v := 4) (kk := ?_)
                            refine x_goto C dX8_classOf_87 91 ?_
                            refine x_iret C rfl dX8_classOf_91 (hp := ?_)
                            refine ⟨?_, rfl⟩
                            unfold clsOf
                            simp only [Int32.lt_iff_toInt_lt, Int32.le_iff_toInt_le, Int32.not_lt, Int32.not_le, ← Int32.toInt_inj, Int32.reduceToInt, m1_toInt] at hc3 hc11 hc17 hc23 hc29 hc37 hc43 hc51 hc57 hc63 hc69 hc77 hc83 ⊢
                            repeat' split
                            all_goals first | rfl | (exfalso; omega)
                      · refine x_iconst C dX8_classOf_72 (v := 3) (kk := ?_)
                        refine x_iret C rfl dX8_classOf_73 (hp := ?_)
                        refine ⟨?_, rfl⟩
                        unfold clsOf
                        simp only [Int32.lt_iff_toInt_lt, Int32.le_iff_toInt_le, Int32.not_lt, Int32.not_le, ← Int32.toInt_inj, Int32.reduceToInt, m1_toInt] at hc3 hc11 hc17 hc23 hc29 hc37 hc43 hc51 hc57 hc63 hc69 ⊢
                        repeat' split
                        all_goals first | rfl | (exfalso; omega)
              · refine x_iconst C dX8_classOf_46 (v := 2) (kk := ?_)
                refine x_iret C rfl dX8_classOf_47 (hp := ?_)
                refine ⟨?_, rfl⟩
                unfold clsOf
                simp only [Int32.lt_iff_toInt_lt, Int32.le_iff_toInt_le, Int32.not_lt, Int32.not_le, ← Int32.toInt_inj, Int32.reduceToInt, m1_toInt] at hc3 hc11 hc17 hc23 hc29 hc37 hc43 ⊢
                repeat' split
                all_goals first | rfl | (exfalso; omega)
          · refine x_iconst C dX8_classOf_32 (v := 1) (kk := ?_)
            refine x_iret C rfl dX8_classOf_33 (hp := ?_)
            refine ⟨?_, rfl⟩
            unfold clsOf
            simp only [Int32.lt_iff_toInt_lt, Int32.le_iff_toInt_le, Int32.not_lt, Int32.not_le, ← Int32.toInt_inj, Int32.reduceToInt, m1_toInt] at hc3 hc11 hc17 hc23 hc29 ⊢
            repeat' split
            all_goals first | rfl | (exfalso; omega)
  · refine x_iconst C dX8_classOf_6 (v := 1) (kk := ?_)
    refine x_iret C rfl dX8_classOf_7 (hp := ?_)
    refine ⟨?_, rfl⟩
    unfold clsOf
    simp only [Int32.lt_iff_toInt_lt, Int32.le_iff_toInt_le, Int32.not_lt, Int32.not_le, ← Int32.toInt_inj, Int32.reduceToInt, m1_toInt] at hc3 ⊢
    repeat' split
    all_goals first | rfl | (exfalso; omega)
def narD (v : Int32) : Int32 := if 65281 ≤ v ∧ v ≤ 65374 then v - 65248 else if v = 12288 then 32 else -1
set_option maxRecDepth 100000 in
set_option maxHeartbeats 4000000 in
theorem c_narrowed (l : Launch) (G : xG) {h : xh} (v : Int32) : Ct l G yX8_narrowed cX8_narrowed 1 (Option.some Jvm.ClassFile.FieldType.int) { frames := 0, cells := 0, slots := 0, locals := 0 } [.int v] h (fun r h' => r = some (.int (narD v)) ∧ h' = h) := by
  refine Ct.of [some (.int v)] (by decide +kernel) (Nat.le_of_ble_eq_true rfl) (fun p e s m args below meth c bs C hini => ?_)
  refine x_iload_n C dX8_narrowed_0 (kk := ?_)
  refine x_ldc C tw_432 dX8_narrowed_1 ?_
  refine x_icmp_lt C dX8_narrowed_3 17 (fun hc3 => ?_) (fun hc3 => ?_)
  · refine x_iload_n C dX8_narrowed_17 (kk := ?_)
    refine x_sipush C dX8_narrowed_18 (v := 12288) (kk := ?_)
    refine x_icmp_ne C dX8_narrowed_21 29 (fun hc21 => ?_) (fun hc21 => ?_)
    · refine x_iconst C dX8_narrowed_29 (v := -1) (kk := ?_)
      refine x_iret C rfl dX8_narrowed_30 (hp := ?_)
      refine ⟨?_, rfl⟩
      unfold narD
      simp only [Int32.lt_iff_toInt_lt, Int32.le_iff_toInt_le, Int32.not_lt, Int32.not_le, ← Int32.toInt_inj, Int32.reduceToInt, m1_toInt] at hc3 hc21 ⊢
      repeat' split
      all_goals first | rfl | (exfalso; omega)
    · refine x_bipush C dX8_narrowed_24 (v := 32) (kk := ?_)
      refine x_goto C dX8_narrowed_26 30 ?_
      refine x_iret C rfl dX8_narrowed_30 (hp := ?_)
      refine ⟨?_, rfl⟩
      unfold narD
      simp only [Int32.lt_iff_toInt_lt, Int32.le_iff_toInt_le, Int32.not_lt, Int32.not_le, ← Int32.toInt_inj, Int32.reduceToInt, m1_toInt] at hc3 hc21 ⊢
      repeat' split
      all_goals first | rfl | (exfalso; omega)
  · refine x_iload_n C dX8_narrowed_6 (kk := ?_)
    refine x_ldc C tw_433 dX8_narrowed_7 ?_
    refine x_icmp_gt C dX8_narrowed_9 17 (fun hc9 => ?_) (fun hc9 => ?_)
    · refine x_iload_n C dX8_narrowed_17 (kk := ?_)
      refine x_sipush C dX8_narrowed_18 (v := 12288) (kk := ?_)
      refine x_icmp_ne C dX8_narrowed_21 29 (fun hc21 => ?_) (fun hc21 => ?_)
      · refine x_iconst C dX8_narrowed_29 (v := -1) (kk := ?_)
        refine x_iret C rfl dX8_narrowed_30 (hp := ?_)
        refine ⟨?_, rfl⟩
        unfold narD
        simp only [Int32.lt_iff_toInt_lt, Int32.le_iff_toInt_le, Int32.not_lt, Int32.not_le, ← Int32.toInt_inj, Int32.reduceToInt, m1_toInt] at hc3 hc9 hc21 ⊢
        repeat' split
        all_goals first | rfl | (exfalso; omega)
      · refine x_bipush C dX8_narrowed_24 (v := 32) (kk := ?_)
        refine x_goto C dX8_narrowed_26 30 ?_
        refine x_iret C rfl dX8_narrowed_30 (hp := ?_)
        refine ⟨?_, rfl⟩
        unfold narD
        simp only [Int32.lt_iff_toInt_lt, Int32.le_iff_toInt_le, Int32.not_lt, Int32.not_le, ← Int32.toInt_inj, Int32.reduceToInt, m1_toInt] at hc3 hc9 hc21 ⊢
        repeat' split
        all_goals first | rfl | (exfalso; omega)
    · refine x_iload_n C dX8_narrowed_12 (kk := ?_)
      refine x_ldc C tw_434 dX8_narrowed_13 ?_
      refine x_isub C dX8_narrowed_15 ?_
      refine x_iret C rfl dX8_narrowed_16 (hp := ?_)
      refine ⟨?_, rfl⟩
      unfold narD
      simp only [Int32.lt_iff_toInt_lt, Int32.le_iff_toInt_le, Int32.not_lt, Int32.not_le, ← Int32.toInt_inj, Int32.reduceToInt, m1_toInt] at hc3 hc9 ⊢
      repeat' split
      all_goals first | rfl | (exfalso; omega)
set_option maxRecDepth 100000 in
set_option maxHeartbeats 4000000 in
theorem c_unitOf (l : Launch) (G : xG) {h : xh} (v w : Int32) : Ct l G yX8_unitOf cX8_unitOf 3 (Option.some Jvm.ClassFile.FieldType.int) { frames := 0, cells := 0, slots := 0, locals := 0 } [.int v, .int w] h (fun r h' => r = some (.int (if v < 65536 then v else if w = 0 then (55296 : Int32) + ((v - 65536) >>> ((10 : Int32) &&& 31)) else (56320 : Int32) + ((v - 65536) &&& 1023))) ∧ h' = h) := by
  refine Ct.of [some (.int v), some (.int w), none] (by decide +kernel) (Nat.le_of_ble_eq_true rfl) (fun p e s m args below meth c bs C hini => ?_)
  refine x_iload_n C dX8_unitOf_0 (kk := ?_)
  refine x_ldc C tw_150 dX8_unitOf_1 ?_
  refine x_icmp_ge C dX8_unitOf_3 8 (fun hc3 => ?_) (fun hc3 => ?_)
  · refine x_iload_n C dX8_unitOf_8 (kk := ?_)
    refine x_ldc C tw_150 dX8_unitOf_9 ?_
    refine x_isub C dX8_unitOf_11 ?_
    refine x_istore_n C dX8_unitOf_12 (kk := ?_)
    refine x_iload_n C dX8_unitOf_13 (kk := ?_)
    refine x_if_ne C dX8_unitOf_14 27 (fun hc14 => ?_) (fun hc14 => ?_)
    · refine x_ldc C tw_145 dX8_unitOf_27 ?_
      refine x_iload_n C dX8_unitOf_29 (kk := ?_)
      refine x_sipush C dX8_unitOf_30 (v := 1023) (kk := ?_)
      refine x_iand C dX8_unitOf_33 ?_
      refine x_iadd C dX8_unitOf_34 ?_
      refine x_iret C rfl dX8_unitOf_35 (hp := ?_)
      refine ⟨?_, rfl⟩
      first | rw [if_pos (Int32.not_le.mp hc3)] | (rw [if_neg (Int32.not_lt.mpr hc3)]; first | (rw [if_neg hc14]; done) | rw [if_pos hc14])
    · refine x_ldc C tw_144 dX8_unitOf_17 ?_
      refine x_iload_n C dX8_unitOf_19 (kk := ?_)
      refine x_bipush C dX8_unitOf_20 (v := 10) (kk := ?_)
      refine x_ishr C dX8_unitOf_22 ?_
      refine x_iadd C dX8_unitOf_23 ?_
      refine x_goto C dX8_unitOf_24 35 ?_
      refine x_iret C rfl dX8_unitOf_35 (hp := ?_)
      refine ⟨?_, rfl⟩
      first | rw [if_pos (Int32.not_le.mp hc3)] | (rw [if_neg (Int32.not_lt.mpr hc3)]; first | (rw [if_neg hc14]; done) | rw [if_pos hc14])
  · refine x_iload_n C dX8_unitOf_6 (kk := ?_)
    refine x_iret C rfl dX8_unitOf_7 (hp := ?_)
    refine ⟨?_, rfl⟩
    first | rw [if_pos (Int32.not_le.mp hc3)] | (rw [if_neg (Int32.not_lt.mpr hc3)]; first | (rw [if_neg hc14]; done) | rw [if_pos hc14])
set_option maxRecDepth 100000 in
set_option maxHeartbeats 4000000 in
theorem m_isIn (l : Launch) (G : xG) {h : xh} (v a b : Int32) : Ct l G yX9_isIn cX9_isIn 3 (Option.some Jvm.ClassFile.FieldType.boolean) { frames := 0, cells := 0, slots := 0, locals := 0 } [.int v, .int a, .int b] h (fun r h' => r = some (.int (if a ≤ v ∧ v ≤ b then 1 else 0)) ∧ h' = h) := by
  refine Ct.of [some (.int v), some (.int a), some (.int b)] (by decide +kernel) (Nat.le_of_ble_eq_true rfl) (fun p e s m args below meth c bs C hini => ?_)
  refine x_iload_n C dX9_isIn_0 (kk := ?_)
  refine x_iload_n C dX9_isIn_1 (kk := ?_)
  refine x_icmp_lt C dX9_isIn_2 14 (fun hc2 => ?_) (fun hc2 => ?_)
  · refine x_iconst C dX9_isIn_14 (v := 0) (kk := ?_)
    refine x_zret C rfl dX9_isIn_15 (by first | exact Or.inl rfl | exact Or.inr rfl | assumption | exact ite01 _) (hp := ?_)
    refine ⟨?_, rfl⟩
    simp only [Int32.lt_iff_toInt_lt, Int32.le_iff_toInt_le, Int32.not_lt, Int32.not_le, ← Int32.toInt_inj, Int32.reduceToInt, m1_toInt] at hc2 ⊢
    split <;> first | rfl | (exfalso; omega)
  · refine x_iload_n C dX9_isIn_5 (kk := ?_)
    refine x_iload_n C dX9_isIn_6 (kk := ?_)
    refine x_icmp_gt C dX9_isIn_7 14 (fun hc7 => ?_) (fun hc7 => ?_)
    · refine x_iconst C dX9_isIn_14 (v := 0) (kk := ?_)
      refine x_zret C rfl dX9_isIn_15 (by first | exact Or.inl rfl | exact Or.inr rfl | assumption | exact ite01 _) (hp := ?_)
      refine ⟨?_, rfl⟩
      simp only [Int32.lt_iff_toInt_lt, Int32.le_iff_toInt_le, Int32.not_lt, Int32.not_le, ← Int32.toInt_inj, Int32.reduceToInt, m1_toInt] at hc2 hc7 ⊢
      split <;> first | rfl | (exfalso; omega)
    · refine x_iconst C dX9_isIn_10 (v := 1) (kk := ?_)
      refine x_goto C dX9_isIn_11 15 ?_
      refine x_zret C rfl dX9_isIn_15 (by first | exact Or.inl rfl | exact Or.inr rfl | assumption | exact ite01 _) (hp := ?_)
      refine ⟨?_, rfl⟩
      simp only [Int32.lt_iff_toInt_lt, Int32.le_iff_toInt_le, Int32.not_lt, Int32.not_le, ← Int32.toInt_inj, Int32.reduceToInt, m1_toInt] at hc2 hc7 ⊢
      split <;> first | rfl | (exfalso; omega)
set_option maxRecDepth 100000 in
set_option maxHeartbeats 4000000 in
theorem m_isSign (l : Launch) (G : xG) {h : xh} (v : Int32) : Ct l G yX9_isSign cX9_isSign 1 (Option.some Jvm.ClassFile.FieldType.boolean) { frames := 1, cells := 0, slots := 0, locals := 22 } [.int v] h (fun r h' => r = some (.int (if 0 ≤ v ∧ v ≤ 1114111 then 1 else 0)) ∧ h' = h) := by
  refine Ct.of [some (.int v)] (by decide +kernel) (Nat.le_of_ble_eq_true rfl) (fun p e s m args below meth c bs C hini => ?_)
  refine x_iload_n C dX9_isSign_0 (kk := ?_)
  refine x_iconst C dX9_isSign_1 (v := 0) (kk := ?_)
  refine x_ldc C tw_637 dX9_isSign_2 ?_
  refine x_callS C ml_X9_isIn lk_X9_111 (m_isIn l G v 0 1114111) dX9_isSign_4 (fun r4 h4 hp4 => ?_)
  obtain ⟨rfl, rfl⟩ := hp4
  refine x_zret C rfl dX9_isSign_7 (by first | exact Or.inl rfl | exact Or.inr rfl | assumption | exact ite01 _) (hp := ?_)
  exact ⟨rfl, rfl⟩
set_option maxRecDepth 100000 in
set_option maxHeartbeats 4000000 in
theorem m_isHigh (l : Launch) (G : xG) {h : xh} (v : Int32) : Ct l G yX9_isHigh cX9_isHigh 1 (Option.some Jvm.ClassFile.FieldType.boolean) { frames := 1, cells := 0, slots := 0, locals := 22 } [.int v] h (fun r h' => r = some (.int (if 55296 ≤ v ∧ v ≤ 56319 then 1 else 0)) ∧ h' = h) := by
  refine Ct.of [some (.int v)] (by decide +kernel) (Nat.le_of_ble_eq_true rfl) (fun p e s m args below meth c bs C hini => ?_)
  refine x_iload_n C dX9_isHigh_0 (kk := ?_)
  refine x_ldc C tw_606 dX9_isHigh_1 ?_
  refine x_ldc C tw_607 dX9_isHigh_3 ?_
  refine x_callS C ml_X9_isIn lk_X9_111 (m_isIn l G v 55296 56319) dX9_isHigh_5 (fun r5 h5 hp5 => ?_)
  obtain ⟨rfl, rfl⟩ := hp5
  refine x_zret C rfl dX9_isHigh_8 (by first | exact Or.inl rfl | exact Or.inr rfl | assumption | exact ite01 _) (hp := ?_)
  exact ⟨rfl, rfl⟩
set_option maxRecDepth 100000 in
set_option maxHeartbeats 4000000 in
theorem m_isLow (l : Launch) (G : xG) {h : xh} (v : Int32) : Ct l G yX9_isLow cX9_isLow 1 (Option.some Jvm.ClassFile.FieldType.boolean) { frames := 1, cells := 0, slots := 0, locals := 22 } [.int v] h (fun r h' => r = some (.int (if 56320 ≤ v ∧ v ≤ 57343 then 1 else 0)) ∧ h' = h) := by
  refine Ct.of [some (.int v)] (by decide +kernel) (Nat.le_of_ble_eq_true rfl) (fun p e s m args below meth c bs C hini => ?_)
  refine x_iload_n C dX9_isLow_0 (kk := ?_)
  refine x_ldc C tw_614 dX9_isLow_1 ?_
  refine x_ldc C tw_615 dX9_isLow_3 ?_
  refine x_callS C ml_X9_isIn lk_X9_111 (m_isIn l G v 56320 57343) dX9_isLow_5 (fun r5 h5 hp5 => ?_)
  obtain ⟨rfl, rfl⟩ := hp5
  refine x_zret C rfl dX9_isLow_8 (by first | exact Or.inl rfl | exact Or.inr rfl | assumption | exact ite01 _) (hp := ?_)
  exact ⟨rfl, rfl⟩
set_option maxRecDepth 100000 in
set_option maxHeartbeats 4000000 in
theorem m_isPlace (l : Launch) (G : xG) {h : xh} (v : Int32) : Ct l G yX9_isPlace cX9_isPlace 1 (Option.some Jvm.ClassFile.FieldType.boolean) { frames := 1, cells := 0, slots := 0, locals := 22 } [.int v] h (fun r h' => r = some (.int (if 0 ≤ v ∧ v ≤ 7 then 1 else 0)) ∧ h' = h) := by
  refine Ct.of [some (.int v)] (by decide +kernel) (Nat.le_of_ble_eq_true rfl) (fun p e s m args below meth c bs C hini => ?_)
  refine x_iload_n C dX9_isPlace_0 (kk := ?_)
  refine x_iconst C dX9_isPlace_1 (v := 0) (kk := ?_)
  refine x_bipush C dX9_isPlace_2 (v := 7) (kk := ?_)
  refine x_callS C ml_X9_isIn lk_X9_111 (m_isIn l G v 0 7) dX9_isPlace_4 (fun r4 h4 hp4 => ?_)
  obtain ⟨rfl, rfl⟩ := hp4
  refine x_zret C rfl dX9_isPlace_7 (by first | exact Or.inl rfl | exact Or.inr rfl | assumption | exact ite01 _) (hp := ?_)
  exact ⟨rfl, rfl⟩
set_option maxRecDepth 100000 in
set_option maxHeartbeats 4000000 in
theorem m_isSignOrNone (l : Launch) (G : xG) {h : xh} (v : Int32) : Ct l G yX9_isSignOrNone cX9_isSignOrNone 1 (Option.some Jvm.ClassFile.FieldType.boolean) { frames := 2, cells := 0, slots := 0, locals := 42 } [.int v] h (fun r h' => r = some (.int (if v = -1 ∨ 0 ≤ v ∧ v ≤ 1114111 then 1 else 0)) ∧ h' = h) := by
  refine Ct.of [some (.int v)] (by decide +kernel) (Nat.le_of_ble_eq_true rfl) (fun p e s m args below meth c bs C hini => ?_)
  refine x_iload_n C dX9_isSignOrNone_0 (kk := ?_)
  refine x_iconst C dX9_isSignOrNone_1 (v := -1) (kk := ?_)
  refine x_icmp_eq C dX9_isSignOrNone_2 12 (fun hc2 => ?_) (fun hc2 => ?_)
  · refine x_iconst C dX9_isSignOrNone_12 (v := 1) (kk := ?_)
    refine x_goto C dX9_isSignOrNone_13 17 ?_
    refine x_zret C rfl dX9_isSignOrNone_17 (by first | exact Or.inl rfl | exact Or.inr rfl | assumption | exact ite01 _) (hp := ?_)
    refine ⟨?_, rfl⟩
    simp only [Int32.lt_iff_toInt_lt, Int32.le_iff_toInt_le, Int32.not_lt, Int32.not_le, ← Int32.toInt_inj, Int32.reduceToInt, m1_toInt] at hc2 ⊢
    split <;> first | rfl | (exfalso; omega)
  · refine x_iload_n C dX9_isSignOrNone_5 (kk := ?_)
    refine x_callS C ml_X9_isSign lk_X9_158 (m_isSign l G v) dX9_isSignOrNone_6 (fun r6 h6 hp6 => ?_)
    obtain ⟨rfl, rfl⟩ := hp6
    refine x_ifB_eq C dX9_isSignOrNone_9 16 (fun hc9 => ?_) (fun hc9 => ?_)
    · refine x_iconst C dX9_isSignOrNone_16 (v := 0) (kk := ?_)
      refine x_zret C rfl dX9_isSignOrNone_17 (by first | exact Or.inl rfl | exact Or.inr rfl | assumption | exact ite01 _) (hp := ?_)
      refine ⟨?_, rfl⟩
      simp only [Int32.lt_iff_toInt_lt, Int32.le_iff_toInt_le, Int32.not_lt, Int32.not_le, ← Int32.toInt_inj, Int32.reduceToInt, m1_toInt] at hc2 hc9 ⊢
      split <;> first | rfl | (exfalso; omega)
    · refine x_iconst C dX9_isSignOrNone_12 (v := 1) (kk := ?_)
      refine x_goto C dX9_isSignOrNone_13 17 ?_
      refine x_zret C rfl dX9_isSignOrNone_17 (by first | exact Or.inl rfl | exact Or.inr rfl | assumption | exact ite01 _) (hp := ?_)
      refine ⟨?_, rfl⟩
      simp only [Int32.lt_iff_toInt_lt, Int32.le_iff_toInt_le, Int32.not_lt, Int32.not_le, ← Int32.toInt_inj, Int32.reduceToInt, m1_toInt] at hc2 hc9 ⊢
      split <;> first | rfl | (exfalso; omega)
set_option maxRecDepth 100000 in
set_option maxHeartbeats 4000000 in
theorem m_unitsOf (l : Launch) (G : xG) {h : xh} (v : Int32) : Ct l G yX9_unitsOf cX9_unitsOf 1 (Option.some Jvm.ClassFile.FieldType.int) { frames := 0, cells := 0, slots := 0, locals := 0 } [.int v] h (fun r h' => r = some (.int (uOf v)) ∧ h' = h) := by
  refine Ct.of [some (.int v)] (by decide +kernel) (Nat.le_of_ble_eq_true rfl) (fun p e s m args below meth c bs C hini => ?_)
  refine x_iload_n C dX9_unitsOf_0 (kk := ?_)
  refine x_ldc C tw_588 dX9_unitsOf_1 ?_
  refine x_icmp_le C dX9_unitsOf_3 10 (fun hc3 => ?_) (fun hc3 => ?_)
  · refine x_iconst C dX9_unitsOf_10 (v := 1) (kk := ?_)
    refine x_iret C rfl dX9_unitsOf_11 (hp := ?_)
    refine ⟨?_, rfl⟩
    unfold uOf
    simp only [Int32.lt_iff_toInt_lt, Int32.le_iff_toInt_le, Int32.not_lt, Int32.not_le, ← Int32.toInt_inj, Int32.reduceToInt, m1_toInt] at hc3 ⊢
    split <;> first | rfl | (exfalso; omega)
  · refine x_iconst C dX9_unitsOf_6 (v := 2) (kk := ?_)
    refine x_goto C dX9_unitsOf_7 11 ?_
    refine x_iret C rfl dX9_unitsOf_11 (hp := ?_)
    refine ⟨?_, rfl⟩
    unfold uOf
    simp only [Int32.lt_iff_toInt_lt, Int32.le_iff_toInt_le, Int32.not_lt, Int32.not_le, ← Int32.toInt_inj, Int32.reduceToInt, m1_toInt] at hc3 ⊢
    split <;> first | rfl | (exfalso; omega)
set_option maxRecDepth 100000 in
set_option maxHeartbeats 4000000 in
theorem m_classOf (l : Launch) (G : xG) {h : xh} (v : Int32) : Ct l G yX9_classOf cX9_classOf 1 (Option.some Jvm.ClassFile.FieldType.int) { frames := 1, cells := 0, slots := 0, locals := 22 } [.int v] h (fun r h' => r = some (.int (clsOf v)) ∧ h' = h) := by
  refine Ct.of [some (.int v)] (by decide +kernel) (Nat.le_of_ble_eq_true rfl) (fun p e s m args below meth c bs C hini => ?_)
  refine x_iload_n C dX9_classOf_0 (kk := ?_)
  refine x_bipush C dX9_classOf_1 (v := 127) (kk := ?_)
  refine x_icmp_gt C dX9_classOf_3 28 (fun hc3 => ?_) (fun hc3 => ?_)
  · refine x_iconst C dX9_classOf_28 (v := 1) (kk := ?_)
    refine x_iret C rfl dX9_classOf_29 (hp := ?_)
    refine ⟨?_, rfl⟩
    unfold clsOf
    simp only [Int32.lt_iff_toInt_lt, Int32.le_iff_toInt_le, Int32.not_lt, Int32.not_le, ← Int32.toInt_inj, Int32.reduceToInt, m1_toInt] at hc3 ⊢
    repeat' split
    all_goals first | rfl | (exfalso; omega)
  · refine x_iload_n C dX9_classOf_6 (kk := ?_)
    refine x_bipush C dX9_classOf_7 (v := 65) (kk := ?_)
    refine x_bipush C dX9_classOf_9 (v := 90) (kk := ?_)
    refine x_callS C ml_X9_isIn lk_X9_111 (m_isIn l G v 65 90) dX9_classOf_11 (fun r11 h11 hp11 => ?_)
    obtain ⟨rfl, rfl⟩ := hp11
    refine x_ifB_ne C dX9_classOf_14 28 (fun hc14 => ?_) (fun hc14 => ?_)
    · refine x_iconst C dX9_classOf_28 (v := 1) (kk := ?_)
      refine x_iret C rfl dX9_classOf_29 (hp := ?_)
      refine ⟨?_, rfl⟩
      unfold clsOf
      simp only [Int32.lt_iff_toInt_lt, Int32.le_iff_toInt_le, Int32.not_lt, Int32.not_le, ← Int32.toInt_inj, Int32.reduceToInt, m1_toInt] at hc3 hc14 ⊢
      repeat' split
      all_goals first | rfl | (exfalso; omega)
    · refine x_iload_n C dX9_classOf_17 (kk := ?_)
      refine x_bipush C dX9_classOf_18 (v := 97) (kk := ?_)
      refine x_bipush C dX9_classOf_20 (v := 122) (kk := ?_)
      refine x_callS C ml_X9_isIn lk_X9_111 (m_isIn l G v 97 122) dX9_classOf_22 (fun r22 h22 hp22 => ?_)
      obtain ⟨rfl, rfl⟩ := hp22
      refine x_ifB_eq C dX9_classOf_25 30 (fun hc25 => ?_) (fun hc25 => ?_)
      · refine x_iload_n C dX9_classOf_30 (kk := ?_)
        refine x_bipush C dX9_classOf_31 (v := 48) (kk := ?_)
        refine x_bipush C dX9_classOf_33 (v := 57) (kk := ?_)
        refine x_callS C ml_X9_isIn lk_X9_111 (m_isIn l G v 48 57) dX9_classOf_35 (fun r35 h35 hp35 => ?_)
        obtain ⟨rfl, rfl⟩ := hp35
        refine x_ifB_eq C dX9_classOf_38 43 (fun hc38 => ?_) (fun hc38 => ?_)
        · refine x_iload_n C dX9_classOf_43 (kk := ?_)
          refine x_bipush C dX9_classOf_44 (v := 9) (kk := ?_)
          refine x_icmp_eq C dX9_classOf_46 67 (fun hc46 => ?_) (fun hc46 => ?_)
          · refine x_iconst C dX9_classOf_67 (v := 3) (kk := ?_)
            refine x_iret C rfl dX9_classOf_68 (hp := ?_)
            refine ⟨?_, rfl⟩
            unfold clsOf
            simp only [Int32.lt_iff_toInt_lt, Int32.le_iff_toInt_le, Int32.not_lt, Int32.not_le, ← Int32.toInt_inj, Int32.reduceToInt, m1_toInt] at hc3 hc14 hc25 hc38 hc46 ⊢
            repeat' split
            all_goals first | rfl | (exfalso; omega)
          · refine x_iload_n C dX9_classOf_49 (kk := ?_)
            refine x_bipush C dX9_classOf_50 (v := 10) (kk := ?_)
            refine x_icmp_eq C dX9_classOf_52 67 (fun hc52 => ?_) (fun hc52 => ?_)
            · refine x_iconst C dX9_classOf_67 (v := 3) (kk := ?_)
              refine x_iret C rfl dX9_classOf_68 (hp := ?_)
              refine ⟨?_, rfl⟩
              unfold clsOf
              simp only [Int32.lt_iff_toInt_lt, Int32.le_iff_toInt_le, Int32.not_lt, Int32.not_le, ← Int32.toInt_inj, Int32.reduceToInt, m1_toInt] at hc3 hc14 hc25 hc38 hc46 hc52 ⊢
              repeat' split
              all_goals first | rfl | (exfalso; omega)
            · refine x_iload_n C dX9_classOf_55 (kk := ?_)
              refine x_bipush C dX9_classOf_56 (v := 13) (kk := ?_)
              refine x_icmp_eq C dX9_classOf_58 67 (fun hc58 => ?_) (fun hc58 => ?_)
              · refine x_iconst C dX9_classOf_67 (v := 3) (kk := ?_)
                refine x_iret C rfl dX9_classOf_68 (hp := ?_)
                refine ⟨?_, rfl⟩
                unfold clsOf
                simp only [Int32.lt_iff_toInt_lt, Int32.le_iff_toInt_le, Int32.not_lt, Int32.not_le, ← Int32.toInt_inj, Int32.reduceToInt, m1_toInt] at hc3 hc14 hc25 hc38 hc46 hc52 hc58 ⊢
                repeat' split
                all_goals first | rfl | (exfalso; omega)
              · refine x_iload_n C dX9_classOf_61 (kk := ?_)
                refine x_bipush C dX9_classOf_62 (v := 32) (kk := ?_)
                refine x_icmp_ne C dX9_classOf_64 69 (fun hc64 => ?_) (fun hc64 => ?_)
                · refine x_iload_n C dX9_classOf_69 (kk := ?_)
                  refine x_bipush C dX9_classOf_70 (v := 33) (kk := ?_)
                  refine x_bipush C dX9_classOf_72 (v := 126) (kk := ?_)
                  refine x_callS C ml_X9_isIn lk_X9_111 (m_isIn l G v 33 126) dX9_classOf_74 (fun r74 h74 hp74 => ?_)
                  obtain ⟨rfl, rfl⟩ := hp74
                  refine x_ifB_eq C dX9_classOf_77 84 (fun hc77 => ?_) (fun hc77 => ?_)
                  · refine x_iconst C dX9_classOf_84 (v := 0) (kk := ?_)
                    refine x_iret C rfl dX9_classOf_85 (hp := ?_)
                    refine ⟨?_, rfl⟩
                    unfold clsOf
                    simp only [Int32.lt_iff_toInt_lt, Int32.le_iff_toInt_le, Int32.not_lt, Int32.not_le, ← Int32.toInt_inj, Int32.reduceToInt, m1_toInt] at hc3 hc14 hc25 hc38 hc46 hc52 hc58 hc64 hc77 ⊢
                    repeat' split
                    all_goals first | rfl | (exfalso; omega)
                  · refine x_iconst C dX9_classOf_80 (v := 4) (kk := ?_)
                    refine x_goto C dX9_classOf_81 85 ?_
                    refine x_iret C rfl dX9_classOf_85 (hp := ?_)
                    refine ⟨?_, rfl⟩
                    unfold clsOf
                    simp only [Int32.lt_iff_toInt_lt, Int32.le_iff_toInt_le, Int32.not_lt, Int32.not_le, ← Int32.toInt_inj, Int32.reduceToInt, m1_toInt] at hc3 hc14 hc25 hc38 hc46 hc52 hc58 hc64 hc77 ⊢
                    repeat' split
                    all_goals first | rfl | (exfalso; omega)
                · refine x_iconst C dX9_classOf_67 (v := 3) (kk := ?_)
                  refine x_iret C rfl dX9_classOf_68 (hp := ?_)
                  refine ⟨?_, rfl⟩
                  unfold clsOf
                  simp only [Int32.lt_iff_toInt_lt, Int32.le_iff_toInt_le, Int32.not_lt, Int32.not_le, ← Int32.toInt_inj, Int32.reduceToInt, m1_toInt] at hc3 hc14 hc25 hc38 hc46 hc52 hc58 hc64 ⊢
                  repeat' split
                  all_goals first | rfl | (exfalso; omega)
        · refine x_iconst C dX9_classOf_41 (v := 2) (kk := ?_)
          refine x_iret C rfl dX9_classOf_42 (hp := ?_)
          refine ⟨?_, rfl⟩
          unfold clsOf
          simp only [Int32.lt_iff_toInt_lt, Int32.le_iff_toInt_le, Int32.not_lt, Int32.not_le, ← Int32.toInt_inj, Int32.reduceToInt, m1_toInt] at hc3 hc14 hc25 hc38 ⊢
          repeat' split
          all_goals first | rfl | (exfalso; omega)
      · refine x_iconst C dX9_classOf_28 (v := 1) (kk := ?_)
        refine x_iret C rfl dX9_classOf_29 (hp := ?_)
        refine ⟨?_, rfl⟩
        unfold clsOf
        simp only [Int32.lt_iff_toInt_lt, Int32.le_iff_toInt_le, Int32.not_lt, Int32.not_le, ← Int32.toInt_inj, Int32.reduceToInt, m1_toInt] at hc3 hc14 hc25 ⊢
        repeat' split
        all_goals first | rfl | (exfalso; omega)
end
section
/-! PAIRS AND FOLDS OF THE CLASS -/
theorem fL_put {f : Nat → Int32} {q : List Int32} {n : Nat} {v : Int32} (h : fL f q) (hn : q.length = n) : fL (upd f n v) (q ++ [v]) := fL_app h hn
def Pt (G : xG) (h : xh) (z : Nat) (ps : List Pr) : Prop := ps.length ≤ 20 ∧ (ps.map (·.1)).Nodup ∧ h.1 z = some (eO 2 [.ref (z + 1), .ref (z + 2), .ref (z + 3), .int (nI ps.length)]) ∧ ∃ f g k : Nat → Int32, h.1 (z + 1) = some (eI G 20 f) ∧ h.1 (z + 2) = some (eI G 20 g) ∧ h.1 (z + 3) = some (eI G 20 k) ∧ fL f (ps.map (·.1.1)) ∧ fL g (ps.map (·.1.2)) ∧ fL k (ps.map (·.2))
theorem Pt.fr {G : xG} {h h' : xh} {z : Nat} {ps : List Pr} {A : Nat → Prop} (k : Pt G h z ps) (f : Fr A h h') (hd : ∀ b, At z 4 b → ¬ A b) : Pt G h' z ps := by
  obtain ⟨h0, h1, h2, f0, g0, k0, h3, h4, h5, h6⟩ := k
  exact ⟨h0, h1, f.at (hd _ ⟨by omega, by omega⟩) h2, f0, g0, k0, f.at (hd _ ⟨by omega, by omega⟩) h3, f.at (hd _ ⟨by omega, by omega⟩) h4, f.at (hd _ ⟨by omega, by omega⟩) h5, h6⟩
set_option maxRecDepth 100000 in
set_option maxHeartbeats 4000000 in
theorem c_p_size (l : Launch) (G : xG) {h : xh} {z : Nat} {ps : List Pr} (hz : Pt G h z ps) : Ct l G yX2_size cX2_size 1 (Option.some Jvm.ClassFile.FieldType.int) { frames := 0, cells := 0, slots := 0, locals := 0 } [.ref z] h (fun v h' => v = some (.int (nI ps.length)) ∧ h' = h) := by
  obtain ⟨hn, hnd, g0, f, g, k, g1, g2, g3, k0, k1, k2⟩ := hz
  refine Ct.of [some (.ref z)] (by decide +kernel) (Nat.le_of_ble_eq_true rfl) (fun p e s m args below meth c bs C hini => ?_)
  refine x_aload_n C dX2_size_0 (kk := ?_)
  refine x_get C fl_X2_21 dX2_size_1 (kk := ?_)
  refine x_iret C rfl dX2_size_4 (hp := ?_)
  exact ⟨rfl, rfl⟩
set_option maxRecDepth 100000 in
set_option maxHeartbeats 4000000 in
theorem c_p_slotOf (l : Launch) (G : xG) {h : xh} {z : Nat} {ps : List Pr} (x y : Int32) (hz : Pt G h z ps) : Ct l G yX2_slotOf cX2_slotOf 4 (Option.some Jvm.ClassFile.FieldType.int) { frames := 0, cells := 0, slots := 0, locals := 0 } [.ref z, .int x, .int y] h (fun v h' => ∃ r, v = some (.int r) ∧ slotR (ps.map (·.1)) (x, y) r ∧ h' = h) := by
  obtain ⟨hn, hnd, g0, f, g, k, g1, g2, g3, k0, k1, k2⟩ := hz
  refine Ct.of [some (.ref z), some (.int x), some (.int y), none] (by decide +kernel) (Nat.le_of_ble_eq_true rfl) (fun p e s m args below meth c bs C hini => ?_)
  have loop : ∀ (n i : Nat), ps.length - i < n → i ≤ ps.length → (x, y) ∉ (ps.map (·.1)).take i → X p l e { frames := 0, cells := 0, slots := 0, locals := 0 } s m args below meth c G bs (MQ below (x_Q G bs (fun v h' => ∃ r, v = some (.int r) ∧ slotR (ps.map (·.1)) (x, y) r ∧ h' = h)) args s 0 0 (fun q => bs ≤ q)) 0 0 2 [some (.ref z), some (.int x), some (.int y), some (.int (nI i))] [] h := by
    intro n
    induction n with
    | zero => intro i hn; omega
    | succ n ih =>
      intro i hn hi hd
      refine x_iload_n C dX2_slotOf_2 (kk := ?_)
      refine x_aload_n C dX2_slotOf_3 (kk := ?_)
      refine x_get C fl_X2_21 dX2_slotOf_4 (kk := ?_)
      refine x_ncmp_ge C i ps.length dX2_slotOf_7 38 (fun hc7 => ?_) (fun hc7 => ?_)
      · refine x_iconst C dX2_slotOf_38 (v := -1) (kk := ?_)
        refine x_iret C rfl dX2_slotOf_39 (hp := ?_)
        exact ⟨_, rfl, Or.inl ⟨rfl, by rw [List.take_of_length_le (by simpa using hc7)] at hd; exact hd⟩, rfl⟩
      obtain ⟨⟨⟨v1, v2⟩, v3⟩, hv⟩ : ∃ v, ps[i]? = some v := ⟨ps[i], List.getElem?_eq_getElem hc7⟩
      have hf := fL_at k0 hv
      have hg := fL_at k1 hv
      dsimp only at hf hg
      have hk : (ps.map (·.1))[i]? = some (v1, v2) := by simp [hv]
      refine x_aload_n C dX2_slotOf_10 (kk := ?_)
      refine x_get C fl_X2_9 dX2_slotOf_11 (kk := ?_)
      refine x_iload_n C dX2_slotOf_14 (kk := ?_)
      refine x_iald C _ dX2_slotOf_15 (kk := ?_)
      refine x_iload_n C dX2_slotOf_16 (kk := ?_)
      refine x_icmp_ne C dX2_slotOf_17 32 (fun hc17 => ?_) (fun hc17 => ?_)
      · refine x_iinc1 C dX2_slotOf_32 (kk := ?_)
        refine x_goto C dX2_slotOf_35 2 ?_
        exact ih (i + 1) (by omega) (by omega) (by rw [take_at hk]; intro z; rcases List.mem_append.mp z with z | z; exact hd z; rw [List.mem_singleton, Prod.mk.injEq] at z; exact hc17 (hf.trans z.1.symm))
      · refine x_aload_n C dX2_slotOf_20 (kk := ?_)
        refine x_get C fl_X2_15 dX2_slotOf_21 (kk := ?_)
        refine x_iload_n C dX2_slotOf_24 (kk := ?_)
        refine x_iald C _ dX2_slotOf_25 (kk := ?_)
        refine x_iload_n C dX2_slotOf_26 (kk := ?_)
        refine x_icmp_ne C dX2_slotOf_27 32 (fun hc27 => ?_) (fun hc27 => ?_)
        · refine x_iinc1 C dX2_slotOf_32 (kk := ?_)
          refine x_goto C dX2_slotOf_35 2 ?_
          exact ih (i + 1) (by omega) (by omega) (by rw [take_at hk]; intro z; rcases List.mem_append.mp z with z | z; exact hd z; rw [List.mem_singleton, Prod.mk.injEq] at z; exact hc27 (hg.trans z.2.symm))
        · refine x_iload_n C dX2_slotOf_30 (kk := ?_)
          refine x_iret C rfl dX2_slotOf_31 (hp := ?_)
          exact ⟨_, rfl, Or.inr ⟨i, rfl, by rw [hk, ← hf, ← hg, hc17, hc27]⟩, rfl⟩
  refine x_iconst C dX2_slotOf_0 (v := 0) (kk := ?_)
  refine x_istore_n C dX2_slotOf_1 (kk := ?_)
  exact loop (ps.length + 1) 0 (by omega) (by omega) (by simp)
theorem slotR_some {α : Type} {ks : List α} {x : α} {r : Int32} {k : Nat} (h : slotR ks x r) (hk : ks[k]? = some x) (hn : ks.Nodup) (hl : ks.length < 2 ^ 31) : r = nI k := by
  rcases h with ⟨-, h⟩ | ⟨j, rfl, hj⟩
  · exact absurd (List.mem_of_getElem? hk) h
  · have hjl : j < ks.length := (List.getElem?_eq_some_iff.mp hj).1
    have : j = k := (List.getElem?_inj hjl hn).mp (hj.trans hk.symm)
    rw [this]
theorem nI_m1 {n : Nat} (h : n < 2 ^ 31) : nI n ≠ -1 := by
  intro z
  have h1 := nI_toInt h
  rw [z] at h1
  have : (-1 : Int32).toInt = -1 := by decide
  omega
set_option maxRecDepth 100000 in
set_option maxHeartbeats 4000000 in
theorem c_p_signAt (l : Launch) (G : xG) {h : xh} {z : Nat} {ps : List Pr} {k : Nat} {v : Pr} (hk : ps[k]? = some v) (hz : Pt G h z ps) : Ct l G yX2_signAt cX2_signAt 2 (Option.some Jvm.ClassFile.FieldType.int) { frames := 0, cells := 0, slots := 0, locals := 0 } [.ref z, .int (nI k)] h (fun r h' => r = some (.int v.2) ∧ h' = h) := by
  have hkl : k < ps.length := (List.getElem?_eq_some_iff.mp hk).1
  obtain ⟨hn, hnd, g0, f, g, k', g1, g2, g3, k0, k1, k2⟩ := hz
  refine Ct.of [some (.ref z), some (.int (nI k))] (by decide +kernel) (Nat.le_of_ble_eq_true rfl) (fun p e s m args below meth c bs C hini => ?_)
  refine x_iload_n C dX2_signAt_0 (kk := ?_)
  refine x_if_lt C dX2_signAt_1 21 (fun hc1 => ?_) (fun hc1 => ?_)
  · exact absurd hc1 (nI_pos (by omega))
  · refine x_iload_n C dX2_signAt_4 (kk := ?_)
    refine x_aload_n C dX2_signAt_5 (kk := ?_)
    refine x_get C fl_X2_21 dX2_signAt_6 (kk := ?_)
    refine x_ncmp_ge C k ps.length dX2_signAt_9 21 (fun hc9 => ?_) (fun hc9 => ?_)
    · omega
    · refine x_aload_n C dX2_signAt_12 (kk := ?_)
      refine x_get C fl_X2_18 dX2_signAt_13 (kk := ?_)
      refine x_iload_n C dX2_signAt_16 (kk := ?_)
      refine x_iald C _ dX2_signAt_17 (kk := ?_)
      refine x_goto C dX2_signAt_18 22 ?_
      refine x_iret C rfl dX2_signAt_22 (hp := ?_)
      exact ⟨by rw [fL_at k2 hk], rfl⟩
set_option maxRecDepth 100000 in
set_option maxHeartbeats 4000000 in
theorem c_p_put (l : Launch) (G : xG) {h : xh} {z : Nat} {ps : List Pr} (x y w : Int32) (hz : Pt G h z ps) : Ct l G yX2_put cX2_put 5 (Option.some Jvm.ClassFile.FieldType.boolean) { frames := 1, cells := 0, slots := 0, locals := 23 } [.ref z, .int x, .int y, .int w] h (fun v h' => (((x, y) ∈ ps.map (·.1) ∨ ps.length < 20) ∧ v = some (.int 1) ∧ Pt G h' z (aput ps (x, y) w) ∧ Fr (At z 4) h h') ∨ ((x, y) ∉ ps.map (·.1) ∧ ps.length = 20 ∧ v = some (.int 0) ∧ h' = h)) := by
  have hz0 := hz
  obtain ⟨hn, hnd, g0, f, g, k, g1, g2, g3, k0, k1, k2⟩ := hz
  refine Ct.of [some (.ref z), some (.int x), some (.int y), some (.int w), none] (by decide +kernel) (Nat.le_of_ble_eq_true rfl) (fun p e s m args below meth c bs C hini => ?_)
  refine x_aload_n C dX2_put_0 (kk := ?_)
  refine x_iload_n C dX2_put_1 (kk := ?_)
  refine x_iload_n C dX2_put_2 (kk := ?_)
  refine x_callV C ml_X2_slotOf lk_X2_25 (c_p_slotOf l G x y hz0) dX2_put_3 (fun r3 h3 hp3 => ?_)
  obtain ⟨r, rfl, hs, rfl⟩ := hp3
  refine x_istore C dX2_put_6 (kk := ?_)
  refine x_iload C dX2_put_8 (kk := ?_)
  refine x_iconst C dX2_put_10 (v := -1) (kk := ?_)
  rcases hs with ⟨rfl, hno⟩ | ⟨j, rfl, hj⟩
  rotate_left
  · have hjl : j < ps.length := by simpa using (List.getElem?_eq_some_iff.mp hj).1
    refine x_icmp_ne C dX2_put_11 41 (fun hc11 => ?_) (fun hc11 => absurd hc11 (nI_m1 (by omega)))
    refine x_aload_n C dX2_put_41 (kk := ?_)
    refine x_get C fl_X2_9 dX2_put_42 (kk := ?_)
    refine x_iload C dX2_put_45 (kk := ?_)
    refine x_iload_n C dX2_put_47 (kk := ?_)
    refine x_iast C _ dX2_put_48 (kk := ?_)
    refine x_aload_n C dX2_put_49 (kk := ?_)
    refine x_get C fl_X2_15 dX2_put_50 (kk := ?_)
    refine x_iload C dX2_put_53 (kk := ?_)
    refine x_iload_n C dX2_put_55 (kk := ?_)
    refine x_iast C _ dX2_put_56 (kk := ?_)
    refine x_aload_n C dX2_put_57 (kk := ?_)
    refine x_get C fl_X2_18 dX2_put_58 (kk := ?_)
    refine x_iload C dX2_put_61 (kk := ?_)
    refine x_iload_n C dX2_put_63 (kk := ?_)
    refine x_iast C _ dX2_put_64 (kk := ?_)
    refine x_iconst C dX2_put_65 (v := 1) (kk := ?_)
    refine x_zret C rfl dX2_put_66 (by first | exact Or.inl rfl | exact Or.inr rfl | assumption | exact ite01 _) (hp := ?_)
    first | exact Or.inl ⟨Or.inl (List.mem_of_getElem? hj), rfl, by rw [aput_old hnd hj]; exact ⟨by simp; exact hn, by rw [← aput_old (v := w) hnd hj]; exact aput_keys hnd, by rw [List.length_set]; exact x_set_ne (by omega) (x_set_ne (by omega) (x_set_ne (by omega) g0)), _, _, _, x_set_ne (by omega) (x_set_ne (by omega) x_set_eq), x_set_ne (by omega) x_set_eq, x_set_eq, by rw [List.map_set]; exact fL_set k0, by rw [List.map_set]; exact fL_set k1, by rw [List.map_set]; exact fL_set k2⟩, ((Fr.rf.set ⟨by omega, by omega⟩).set ⟨by omega, by omega⟩).set ⟨by omega, by omega⟩⟩ | exact Or.inr ⟨hno, by omega, rfl, rfl⟩ | exact Or.inl ⟨Or.inr (by omega), rfl, by rw [aput_new hno]; exact ⟨by simp; omega, by rw [← aput_new (v := w) hno]; exact aput_keys hnd, by rw [List.length_append]; exact x_set_ne (by omega) (x_set_ne (by omega) (x_set_ne (by omega) x_set_eq)), _, _, _, x_set_ne (by omega) (x_set_ne (by omega) x_set_eq), x_set_ne (by omega) x_set_eq, x_set_eq, by rw [List.map_append]; exact fL_app k0 (by simp), by rw [List.map_append]; exact fL_app k1 (by simp), by rw [List.map_append]; exact fL_app k2 (by simp)⟩, (((Fr.rf.set ⟨by omega, by omega⟩).set ⟨by omega, by omega⟩).set ⟨by omega, by omega⟩).set ⟨by omega, by omega⟩⟩
  refine x_icmp_ne C dX2_put_11 41 (fun hc11 => absurd rfl hc11) (fun hc11 => ?_)
  refine x_aload_n C dX2_put_14 (kk := ?_)
  refine x_get C fl_X2_21 dX2_put_15 (kk := ?_)
  refine x_bipush C dX2_put_18 (v := 20) (kk := ?_)
  refine x_ncmp_lt C ps.length 20 dX2_put_20 25 (fun hc20 => ?_) (fun hc20 => ?_)
  · refine x_aload_n C dX2_put_25 (kk := ?_)
    refine x_get C fl_X2_21 dX2_put_26 (kk := ?_)
    refine x_istore C dX2_put_29 (kk := ?_)
    refine x_aload_n C dX2_put_31 (kk := ?_)
    refine x_dup C dX2_put_32 (kk := ?_)
    refine x_get C fl_X2_21 dX2_put_33 (kk := ?_)
    refine x_iconst C dX2_put_36 (v := 1) (kk := ?_)
    refine x_iadd C dX2_put_37 ?_
    refine x_top _ (nI_1 ps.length) ?_
    refine x_put C fp_X2_21 dX2_put_38 (kk := ?_)
    refine x_aload_n C dX2_put_41 (kk := ?_)
    refine x_get C fl_X2_9 dX2_put_42 (kk := ?_)
    refine x_iload C dX2_put_45 (kk := ?_)
    refine x_iload_n C dX2_put_47 (kk := ?_)
    refine x_iast C _ dX2_put_48 (kk := ?_)
    refine x_aload_n C dX2_put_49 (kk := ?_)
    refine x_get C fl_X2_15 dX2_put_50 (kk := ?_)
    refine x_iload C dX2_put_53 (kk := ?_)
    refine x_iload_n C dX2_put_55 (kk := ?_)
    refine x_iast C _ dX2_put_56 (kk := ?_)
    refine x_aload_n C dX2_put_57 (kk := ?_)
    refine x_get C fl_X2_18 dX2_put_58 (kk := ?_)
    refine x_iload C dX2_put_61 (kk := ?_)
    refine x_iload_n C dX2_put_63 (kk := ?_)
    refine x_iast C _ dX2_put_64 (kk := ?_)
    refine x_iconst C dX2_put_65 (v := 1) (kk := ?_)
    refine x_zret C rfl dX2_put_66 (by first | exact Or.inl rfl | exact Or.inr rfl | assumption | exact ite01 _) (hp := ?_)
    first | exact Or.inl ⟨Or.inl (List.mem_of_getElem? hj), rfl, by rw [aput_old hnd hj]; exact ⟨by simp; exact hn, by rw [← aput_old (v := w) hnd hj]; exact aput_keys hnd, by rw [List.length_set]; exact x_set_ne (by omega) (x_set_ne (by omega) (x_set_ne (by omega) g0)), _, _, _, x_set_ne (by omega) (x_set_ne (by omega) x_set_eq), x_set_ne (by omega) x_set_eq, x_set_eq, by rw [List.map_set]; exact fL_set k0, by rw [List.map_set]; exact fL_set k1, by rw [List.map_set]; exact fL_set k2⟩, ((Fr.rf.set ⟨by omega, by omega⟩).set ⟨by omega, by omega⟩).set ⟨by omega, by omega⟩⟩ | exact Or.inr ⟨hno, by omega, rfl, rfl⟩ | exact Or.inl ⟨Or.inr (by omega), rfl, by rw [aput_new hno]; exact ⟨by simp; omega, by rw [← aput_new (v := w) hno]; exact aput_keys hnd, by rw [List.length_append]; exact x_set_ne (by omega) (x_set_ne (by omega) (x_set_ne (by omega) x_set_eq)), _, _, _, x_set_ne (by omega) (x_set_ne (by omega) x_set_eq), x_set_ne (by omega) x_set_eq, x_set_eq, by rw [List.map_append]; exact fL_app k0 (by simp), by rw [List.map_append]; exact fL_app k1 (by simp), by rw [List.map_append]; exact fL_app k2 (by simp)⟩, (((Fr.rf.set ⟨by omega, by omega⟩).set ⟨by omega, by omega⟩).set ⟨by omega, by omega⟩).set ⟨by omega, by omega⟩⟩
  · refine x_iconst C dX2_put_23 (v := 0) (kk := ?_)
    refine x_zret C rfl dX2_put_24 (by first | exact Or.inl rfl | exact Or.inr rfl | assumption | exact ite01 _) (hp := ?_)
    first | exact Or.inl ⟨Or.inl (List.mem_of_getElem? hj), rfl, by rw [aput_old hnd hj]; exact ⟨by simp; exact hn, by rw [← aput_old (v := w) hnd hj]; exact aput_keys hnd, by rw [List.length_set]; exact x_set_ne (by omega) (x_set_ne (by omega) (x_set_ne (by omega) g0)), _, _, _, x_set_ne (by omega) (x_set_ne (by omega) x_set_eq), x_set_ne (by omega) x_set_eq, x_set_eq, by rw [List.map_set]; exact fL_set k0, by rw [List.map_set]; exact fL_set k1, by rw [List.map_set]; exact fL_set k2⟩, ((Fr.rf.set ⟨by omega, by omega⟩).set ⟨by omega, by omega⟩).set ⟨by omega, by omega⟩⟩ | exact Or.inr ⟨hno, by omega, rfl, rfl⟩ | exact Or.inl ⟨Or.inr (by omega), rfl, by rw [aput_new hno]; exact ⟨by simp; omega, by rw [← aput_new (v := w) hno]; exact aput_keys hnd, by rw [List.length_append]; exact x_set_ne (by omega) (x_set_ne (by omega) (x_set_ne (by omega) x_set_eq)), _, _, _, x_set_ne (by omega) (x_set_ne (by omega) x_set_eq), x_set_ne (by omega) x_set_eq, x_set_eq, by rw [List.map_append]; exact fL_app k0 (by simp), by rw [List.map_append]; exact fL_app k1 (by simp), by rw [List.map_append]; exact fL_app k2 (by simp)⟩, (((Fr.rf.set ⟨by omega, by omega⟩).set ⟨by omega, by omega⟩).set ⟨by omega, by omega⟩).set ⟨by omega, by omega⟩⟩
end
section
/-! FOLDS OF THE CLASS -/
def wfP (ps : List Int32) : Prop := ps.length ≤ 3 ∧ ∀ v ∈ ps, (0 : Int32) ≤ v
def Ft (G : xG) (h : xh) (z : Nat) (fo : List Fo) : Prop := fo.length ≤ 40 ∧ (fo.map (·.1)).Nodup ∧ (∀ e ∈ fo, wfP e.2) ∧ h.1 z = some (eO 1 [.ref (z + 1), .ref (z + 2), .ref (z + 3), .ref (z + 4), .int (nI fo.length)]) ∧ ∃ f0 f1 f2 f3 : Nat → Int32, h.1 (z + 1) = some (eI G 40 f0) ∧ h.1 (z + 2) = some (eI G 40 f1) ∧ h.1 (z + 3) = some (eI G 40 f2) ∧ h.1 (z + 4) = some (eI G 40 f3) ∧ fL f0 (fo.map (·.1)) ∧ fL f1 (fo.map (fun e => e.2.getD 0 (-1))) ∧ fL f2 (fo.map (fun e => e.2.getD 1 (-1))) ∧ fL f3 (fo.map (fun e => e.2.getD 2 (-1)))
theorem Ft.fr {G : xG} {h h' : xh} {z : Nat} {fo : List Fo} {A : Nat → Prop} (k : Ft G h z fo) (f : Fr A h h') (hd : ∀ b, At z 5 b → ¬ A b) : Ft G h' z fo := by
  obtain ⟨h0, h1, hw, h2, f0, f1, f2, f3, h3, h4, h5, h6, h7⟩ := k
  exact ⟨h0, h1, hw, f.at (hd _ ⟨by omega, by omega⟩) h2, f0, f1, f2, f3, f.at (hd _ ⟨by omega, by omega⟩) h3, f.at (hd _ ⟨by omega, by omega⟩) h4, f.at (hd _ ⟨by omega, by omega⟩) h5, f.at (hd _ ⟨by omega, by omega⟩) h6, h7⟩
theorem getD_ge {ps : List Int32} (h : ∀ v ∈ ps, (0 : Int32) ≤ v) {i : Nat} (hi : i < ps.length) : ps.getD i (-1) ≠ -1 := by
  have e : ps.getD i (-1) = ps[i] := by simp [hi]
  rw [e]
  intro z
  have := h _ (List.getElem_mem hi)
  rw [z] at this
  exact absurd this (by decide)
theorem getD_no {ps : List Int32} {i : Nat} (hi : ps.length ≤ i) : ps.getD i (-1) = -1 := by simp [hi]
theorem uSum_take {l : List Int32} {i : Nat} (hi : i < l.length) : uSum (l.take (i + 1)) = uSum (l.take i) + uOf (l.getD i (-1)) := by
  have hg : l[i]? = some (l.getD i (-1)) := by simp [hi]
  rw [take_at hg]
  simp [uSum, List.foldl_append]
set_option maxRecDepth 100000 in
set_option maxHeartbeats 4000000 in
theorem c_o_size (l : Launch) (G : xG) {h : xh} {z : Nat} {fo : List Fo} (hz : Ft G h z fo) : Ct l G yX1_size cX1_size 1 (Option.some Jvm.ClassFile.FieldType.int) { frames := 0, cells := 0, slots := 0, locals := 0 } [.ref z] h (fun v h' => v = some (.int (nI fo.length)) ∧ h' = h) := by
  obtain ⟨hn, hnd, hw, g0, f0, f1, f2, f3, g1, g2, g3, g4, k0, k1, k2, k3⟩ := hz
  refine Ct.of [some (.ref z)] (by decide +kernel) (Nat.le_of_ble_eq_true rfl) (fun p e s m args below meth c bs C hini => ?_)
  refine x_aload_n C dX1_size_0 (kk := ?_)
  refine x_get C fl_X1_24 dX1_size_1 (kk := ?_)
  refine x_iret C rfl dX1_size_4 (hp := ?_)
  exact ⟨rfl, rfl⟩
set_option maxRecDepth 100000 in
set_option maxHeartbeats 4000000 in
theorem c_o_slotOf (l : Launch) (G : xG) {h : xh} {z : Nat} {fo : List Fo} (x : Int32) (hz : Ft G h z fo) : Ct l G yX1_slotOf cX1_slotOf 3 (Option.some Jvm.ClassFile.FieldType.int) { frames := 0, cells := 0, slots := 0, locals := 0 } [.ref z, .int x] h (fun v h' => ∃ r, v = some (.int r) ∧ slotR (fo.map (·.1)) x r ∧ h' = h) := by
  obtain ⟨hn, hnd, hw, g0, f0, f1, f2, f3, g1, g2, g3, g4, k0, k1, k2, k3⟩ := hz
  refine Ct.of [some (.ref z), some (.int x), none] (by decide +kernel) (Nat.le_of_ble_eq_true rfl) (fun p e s m args below meth c bs C hini => ?_)
  have loop : ∀ (n i : Nat), fo.length - i < n → i ≤ fo.length → x ∉ (fo.map (·.1)).take i → X p l e { frames := 0, cells := 0, slots := 0, locals := 0 } s m args below meth c G bs (MQ below (x_Q G bs (fun v h' => ∃ r, v = some (.int r) ∧ slotR (fo.map (·.1)) x r ∧ h' = h)) args s 0 0 (fun q => bs ≤ q)) 0 0 2 [some (.ref z), some (.int x), some (.int (nI i))] [] h := by
    intro n
    induction n with
    | zero => intro i hn; omega
    | succ n ih =>
      intro i hn hi hd
      refine x_iload_n C dX1_slotOf_2 (kk := ?_)
      refine x_aload_n C dX1_slotOf_3 (kk := ?_)
      refine x_get C fl_X1_24 dX1_slotOf_4 (kk := ?_)
      refine x_ncmp_ge C i fo.length dX1_slotOf_7 28 (fun hc7 => ?_) (fun hc7 => ?_)
      · refine x_iconst C dX1_slotOf_28 (v := -1) (kk := ?_)
        refine x_iret C rfl dX1_slotOf_29 (hp := ?_)
        exact ⟨_, rfl, Or.inl ⟨rfl, by rw [List.take_of_length_le (by simpa using hc7)] at hd; exact hd⟩, rfl⟩
      obtain ⟨v, hv⟩ : ∃ v, fo[i]? = some v := ⟨fo[i], List.getElem?_eq_getElem hc7⟩
      have hf := fL_at k0 hv
      have hk : (fo.map (·.1))[i]? = some v.1 := by simp [hv]
      refine x_aload_n C dX1_slotOf_10 (kk := ?_)
      refine x_get C fl_X1_9 dX1_slotOf_11 (kk := ?_)
      refine x_iload_n C dX1_slotOf_14 (kk := ?_)
      refine x_iald C _ dX1_slotOf_15 (kk := ?_)
      refine x_iload_n C dX1_slotOf_16 (kk := ?_)
      refine x_icmp_ne C dX1_slotOf_17 22 (fun hc17 => ?_) (fun hc17 => ?_)
      · refine x_iinc1 C dX1_slotOf_22 (kk := ?_)
        refine x_goto C dX1_slotOf_25 2 ?_
        exact ih (i + 1) (by omega) (by omega) (by rw [take_at hk]; intro z; rcases List.mem_append.mp z with z | z; exact hd z; rw [List.mem_singleton] at z; exact hc17 (hf.trans z.symm))
      · refine x_iload_n C dX1_slotOf_20 (kk := ?_)
        refine x_iret C rfl dX1_slotOf_21 (hp := ?_)
        exact ⟨_, rfl, Or.inr ⟨i, rfl, by rw [hk, ← hf, hc17]⟩, rfl⟩
  refine x_iconst C dX1_slotOf_0 (v := 0) (kk := ?_)
  refine x_istore_n C dX1_slotOf_1 (kk := ?_)
  exact loop (fo.length + 1) 0 (by omega) (by omega) (by simp)
set_option maxRecDepth 100000 in
set_option maxHeartbeats 4000000 in
theorem c_o_partAt (l : Launch) (G : xG) {h : xh} {z : Nat} {fo : List Fo} {k j : Nat} {v : Fo} (hk : fo[k]? = some v) (hj : j < 3) (hz : Ft G h z fo) : Ct l G yX1_partAt cX1_partAt 3 (Option.some Jvm.ClassFile.FieldType.int) { frames := 0, cells := 0, slots := 0, locals := 0 } [.ref z, .int (nI k), .int (nI j)] h (fun r h' => r = some (.int (v.2.getD j (-1))) ∧ h' = h) := by
  have hkl : k < fo.length := (List.getElem?_eq_some_iff.mp hk).1
  obtain ⟨hn, hnd, hw, g0, f0, f1, f2, f3, g1, g2, g3, g4, k0, k1, k2, k3⟩ := hz
  refine Ct.of [some (.ref z), some (.int (nI k)), some (.int (nI j))] (by decide +kernel) (Nat.le_of_ble_eq_true rfl) (fun p e s m args below meth c bs C hini => ?_)
  refine x_iload_n C dX1_partAt_0 (kk := ?_)
  refine x_if_lt C dX1_partAt_1 12 (fun hc1 => ?_) (fun hc1 => ?_)
  · exact absurd hc1 (nI_pos (by omega))
  · refine x_iload_n C dX1_partAt_4 (kk := ?_)
    refine x_aload_n C dX1_partAt_5 (kk := ?_)
    refine x_get C fl_X1_24 dX1_partAt_6 (kk := ?_)
    refine x_ncmp_lt C k fo.length dX1_partAt_9 14 (fun hc9 => ?_) (fun hc9 => ?_)
    · refine x_iload_n C dX1_partAt_14 (kk := ?_)
      have hj3 : j = 0 ∨ j = 1 ∨ j = 2 := by omega
      rcases hj3 with rfl | rfl | rfl
      · refine x_tabI C 0 dX1_partAt_15 40 (by decide) (by decide) rfl ?_
        refine x_aload_n C dX1_partAt_40 (kk := ?_)
        refine x_get C fl_X1_15 dX1_partAt_41 (kk := ?_)
        refine x_iload_n C dX1_partAt_44 (kk := ?_)
        refine x_iald C _ dX1_partAt_45 (kk := ?_)
        refine x_iret C rfl dX1_partAt_46 (hp := ?_)
        first | exact ⟨by rw [fL_at k1 hk], rfl⟩ | exact ⟨by rw [fL_at k2 hk], rfl⟩ | exact ⟨by rw [fL_at k3 hk], rfl⟩
      · refine x_tabI C 1 dX1_partAt_15 47 (by decide) (by decide) rfl ?_
        refine x_aload_n C dX1_partAt_47 (kk := ?_)
        refine x_get C fl_X1_18 dX1_partAt_48 (kk := ?_)
        refine x_iload_n C dX1_partAt_51 (kk := ?_)
        refine x_iald C _ dX1_partAt_52 (kk := ?_)
        refine x_iret C rfl dX1_partAt_53 (hp := ?_)
        first | exact ⟨by rw [fL_at k1 hk], rfl⟩ | exact ⟨by rw [fL_at k2 hk], rfl⟩ | exact ⟨by rw [fL_at k3 hk], rfl⟩
      · refine x_tabI C 2 dX1_partAt_15 54 (by decide) (by decide) rfl ?_
        refine x_aload_n C dX1_partAt_54 (kk := ?_)
        refine x_get C fl_X1_21 dX1_partAt_55 (kk := ?_)
        refine x_iload_n C dX1_partAt_58 (kk := ?_)
        refine x_iald C _ dX1_partAt_59 (kk := ?_)
        refine x_iret C rfl dX1_partAt_60 (hp := ?_)
        first | exact ⟨by rw [fL_at k1 hk], rfl⟩ | exact ⟨by rw [fL_at k2 hk], rfl⟩ | exact ⟨by rw [fL_at k3 hk], rfl⟩
    · omega
set_option maxRecDepth 100000 in
set_option maxHeartbeats 4000000 in
theorem c_o_lengthAt (l : Launch) (G : xG) {h : xh} {z : Nat} {fo : List Fo} {k : Nat} {v : Fo} (hk : fo[k]? = some v) (hz : Ft G h z fo) : Ct l G yX1_lengthAt cX1_lengthAt 3 (Option.some Jvm.ClassFile.FieldType.int) { frames := 1, cells := 0, slots := 0, locals := 22 } [.ref z, .int (nI k)] h (fun r h' => r = some (.int (nI v.2.length)) ∧ h' = h) := by
  have hz0 := hz
  obtain ⟨hn, hnd, hw, g0, f0, f1, f2, f3, g1, g2, g3, g4, k0, k1, k2, k3⟩ := hz
  have hwv := hw v (List.mem_of_getElem? hk)
  have hwl := hwv.1
  refine Ct.of [some (.ref z), some (.int (nI k)), none] (by decide +kernel) (Nat.le_of_ble_eq_true rfl) (fun p e s m args below meth c bs C hini => ?_)
  have loop : ∀ (n i : Nat), v.2.length - i < n → i ≤ v.2.length → X p l e { frames := 1, cells := 0, slots := 0, locals := 22 } s m args below meth c G bs (MQ below (x_Q G bs (fun r h' => r = some (.int (nI v.2.length)) ∧ h' = h)) args s 0 0 (fun q => bs ≤ q)) 0 0 2 [some (.ref z), some (.int (nI k)), some (.int (nI i))] [] h := by
    intro n
    induction n with
    | zero => intro i hn; omega
    | succ n ih =>
      intro i hn hi
      refine x_iload_n C dX1_lengthAt_2 (kk := ?_)
      refine x_iconst C dX1_lengthAt_3 (v := 3) (kk := ?_)
      refine x_ncmp_ge C i 3 dX1_lengthAt_4 23 (fun hc4 => ?_) (fun hc4 => ?_)
      · refine x_iload_n C dX1_lengthAt_23 (kk := ?_)
        refine x_iret C rfl dX1_lengthAt_24 (hp := ?_)
        exact ⟨by rw [show i = v.2.length by omega], rfl⟩
      · refine x_aload_n C dX1_lengthAt_7 (kk := ?_)
        refine x_iload_n C dX1_lengthAt_8 (kk := ?_)
        refine x_iload_n C dX1_lengthAt_9 (kk := ?_)
        refine x_callV C ml_X1_partAt lk_X1_32 (c_o_partAt l G (j := i) hk (by omega) hz0) dX1_lengthAt_10 (fun r10 h10 hp10 => ?_)
        obtain ⟨rfl, rfl⟩ := hp10
        refine x_iconst C dX1_lengthAt_13 (v := -1) (kk := ?_)
        by_cases hil : i < v.2.length
        rotate_left
        · have e : i = v.2.length := by omega
          rw [getD_no (by omega)]
          refine x_icmp_eq C dX1_lengthAt_14 23 (fun hc14 => ?_) (fun hc14 => absurd rfl hc14)
          refine x_iload_n C dX1_lengthAt_23 (kk := ?_)
          refine x_iret C rfl dX1_lengthAt_24 (hp := ?_)
          exact ⟨by rw [show i = v.2.length by omega], rfl⟩
        refine x_icmp_eq C dX1_lengthAt_14 23 (fun hc14 => absurd hc14 (getD_ge hwv.2 hil)) (fun hc14 => ?_)
        refine x_iinc1 C dX1_lengthAt_17 (kk := ?_)
        refine x_goto C dX1_lengthAt_20 2 ?_
        exact ih (i + 1) (by omega) (by omega)
  refine x_iconst C dX1_lengthAt_0 (v := 0) (kk := ?_)
  refine x_istore_n C dX1_lengthAt_1 (kk := ?_)
  exact loop (v.2.length + 1) 0 (by omega) (by omega)
set_option maxRecDepth 100000 in
set_option maxHeartbeats 4000000 in
theorem c_o_unitsAt (l : Launch) (G : xG) {h : xh} {z : Nat} {fo : List Fo} {k : Nat} {v : Fo} (hk : fo[k]? = some v) (hz : Ft G h z fo) : Ct l G yX1_unitsAt cX1_unitsAt 4 (Option.some Jvm.ClassFile.FieldType.int) { frames := 2, cells := 0, slots := 0, locals := 44 } [.ref z, .int (nI k)] h (fun r h' => r = some (.int (uSum v.2)) ∧ h' = h) := by
  have hz0 := hz
  obtain ⟨hn, hnd, hw, g0, f0, f1, f2, f3, g1, g2, g3, g4, k0, k1, k2, k3⟩ := hz
  have hwv := hw v (List.mem_of_getElem? hk)
  have hwl := hwv.1
  refine Ct.of [some (.ref z), some (.int (nI k)), none, none] (by decide +kernel) (Nat.le_of_ble_eq_true rfl) (fun p e s m args below meth c bs C hini => ?_)
  have loop : ∀ (n i : Nat), v.2.length - i < n → i ≤ v.2.length → X p l e { frames := 2, cells := 0, slots := 0, locals := 44 } s m args below meth c G bs (MQ below (x_Q G bs (fun r h' => r = some (.int (uSum v.2)) ∧ h' = h)) args s 0 0 (fun q => bs ≤ q)) 0 0 4 [some (.ref z), some (.int (nI k)), some (.int (uSum (v.2.take i))), some (.int (nI i))] [] h := by
    intro n
    induction n with
    | zero => intro i hn; omega
    | succ n ih =>
      intro i hn hi
      refine x_iload_n C dX1_unitsAt_4 (kk := ?_)
      refine x_aload_n C dX1_unitsAt_5 (kk := ?_)
      refine x_iload_n C dX1_unitsAt_6 (kk := ?_)
      refine x_callV C ml_X1_lengthAt lk_X1_36 (c_o_lengthAt l G hk hz0) dX1_unitsAt_7 (fun r7 h7 hp7 => ?_)
      obtain ⟨rfl, rfl⟩ := hp7
      refine x_ncmp_ge C i v.2.length dX1_unitsAt_10 31 (fun hc10 => ?_) (fun hc10 => ?_)
      · refine x_iload_n C dX1_unitsAt_31 (kk := ?_)
        refine x_iret C rfl dX1_unitsAt_32 (hp := ?_)
        exact ⟨by rw [List.take_of_length_le (by omega)], rfl⟩
      · refine x_iload_n C dX1_unitsAt_13 (kk := ?_)
        refine x_aload_n C dX1_unitsAt_14 (kk := ?_)
        refine x_iload_n C dX1_unitsAt_15 (kk := ?_)
        refine x_iload_n C dX1_unitsAt_16 (kk := ?_)
        refine x_callV C ml_X1_partAt lk_X1_32 (c_o_partAt l G (j := i) hk (by omega) hz0) dX1_unitsAt_17 (fun r17 h17 hp17 => ?_)
        obtain ⟨rfl, rfl⟩ := hp17
        refine x_callSN C ml_X8_unitsOf nl_X1_39 tw_374 (c_unitsOf l G (v.2.getD i (-1))) dX1_unitsAt_20 (fun r20 h20 hp20 => ?_)
        obtain ⟨rfl, rfl⟩ := hp20
        refine x_iadd C dX1_unitsAt_23 ?_
        refine x_top _ (uSum_take (by omega)).symm ?_
        refine x_istore_n C dX1_unitsAt_24 (kk := ?_)
        refine x_iinc1 C dX1_unitsAt_25 (kk := ?_)
        refine x_goto C dX1_unitsAt_28 4 ?_
        exact ih (i + 1) (by omega) (by omega)
  refine x_iconst C dX1_unitsAt_0 (v := 0) (kk := ?_)
  refine x_istore_n C dX1_unitsAt_1 (kk := ?_)
  refine x_iconst C dX1_unitsAt_2 (v := 0) (kk := ?_)
  refine x_istore_n C dX1_unitsAt_3 (kk := ?_)
  exact loop (v.2.length + 1) 0 (by omega) (by omega)
theorem wfP_put {fo : List Fo} {x : Int32} {ps : List Int32} (hw : ∀ e ∈ fo, wfP e.2) (hp : wfP ps) : ∀ e ∈ aput fo x ps, wfP e.2 := by
  intro e he
  unfold aput at he
  split at he
  · obtain ⟨a, ha, rfl⟩ := List.mem_map.mp he
    split
    · exact hp
    · exact hw a ha
  · rcases List.mem_append.mp he with he | he
    · exact hw e he
    · rw [List.mem_singleton] at he
      subst he
      exact hp
set_option maxRecDepth 100000 in
set_option maxHeartbeats 4000000 in
theorem c_o_put (l : Launch) (G : xG) {h : xh} {z : Nat} {fo : List Fo} (x : Int32) (w : List Int32) (hwp : wfP w) (hz : Ft G h z fo) : Ct l G yX1_put cX1_put 6 (Option.some Jvm.ClassFile.FieldType.boolean) { frames := 1, cells := 0, slots := 0, locals := 22 } [.ref z, .int x, .int (w.getD 0 (-1)), .int (w.getD 1 (-1)), .int (w.getD 2 (-1))] h (fun v h' => ((x ∈ fo.map (·.1) ∨ fo.length < 40) ∧ v = some (.int 1) ∧ Ft G h' z (aput fo x w) ∧ Fr (At z 5) h h') ∨ (x ∉ fo.map (·.1) ∧ fo.length = 40 ∧ v = some (.int 0) ∧ h' = h)) := by
  have hz0 := hz
  obtain ⟨hn, hnd, hw, g0, f0, f1, f2, f3, g1, g2, g3, g4, k0, k1, k2, k3⟩ := hz
  refine Ct.of [some (.ref z), some (.int x), some (.int (w.getD 0 (-1))), some (.int (w.getD 1 (-1))), some (.int (w.getD 2 (-1))), none] (by decide +kernel) (Nat.le_of_ble_eq_true rfl) (fun p e s m args below meth c bs C hini => ?_)
  refine x_aload_n C dX1_put_0 (kk := ?_)
  refine x_iload_n C dX1_put_1 (kk := ?_)
  refine x_callV C ml_X1_slotOf lk_X1_28 (c_o_slotOf l G x hz0) dX1_put_2 (fun r2 h2 hp2 => ?_)
  obtain ⟨r, rfl, hs, rfl⟩ := hp2
  refine x_istore C dX1_put_5 (kk := ?_)
  refine x_iload C dX1_put_7 (kk := ?_)
  refine x_iconst C dX1_put_9 (v := -1) (kk := ?_)
  rcases hs with ⟨rfl, hno⟩ | ⟨j, rfl, hj⟩
  rotate_left
  · have hjl : j < fo.length := by simpa using (List.getElem?_eq_some_iff.mp hj).1
    refine x_icmp_ne C dX1_put_10 40 (fun hc10 => ?_) (fun hc10 => absurd hc10 (nI_m1 (by omega)))
    refine x_aload_n C dX1_put_40 (kk := ?_)
    refine x_get C fl_X1_9 dX1_put_41 (kk := ?_)
    refine x_iload C dX1_put_44 (kk := ?_)
    refine x_iload_n C dX1_put_46 (kk := ?_)
    refine x_iast C _ dX1_put_47 (kk := ?_)
    refine x_aload_n C dX1_put_48 (kk := ?_)
    refine x_get C fl_X1_15 dX1_put_49 (kk := ?_)
    refine x_iload C dX1_put_52 (kk := ?_)
    refine x_iload_n C dX1_put_54 (kk := ?_)
    refine x_iast C _ dX1_put_55 (kk := ?_)
    refine x_aload_n C dX1_put_56 (kk := ?_)
    refine x_get C fl_X1_18 dX1_put_57 (kk := ?_)
    refine x_iload C dX1_put_60 (kk := ?_)
    refine x_iload_n C dX1_put_62 (kk := ?_)
    refine x_iast C _ dX1_put_63 (kk := ?_)
    refine x_aload_n C dX1_put_64 (kk := ?_)
    refine x_get C fl_X1_21 dX1_put_65 (kk := ?_)
    refine x_iload C dX1_put_68 (kk := ?_)
    refine x_iload C dX1_put_70 (kk := ?_)
    refine x_iast C _ dX1_put_72 (kk := ?_)
    refine x_iconst C dX1_put_73 (v := 1) (kk := ?_)
    refine x_zret C rfl dX1_put_74 (by first | exact Or.inl rfl | exact Or.inr rfl | assumption | exact ite01 _) (hp := ?_)
    first | exact Or.inl ⟨Or.inl (List.mem_of_getElem? hj), rfl, ⟨by rw [aput_old hnd hj]; simp; exact hn, aput_keys hnd, wfP_put hw hwp, by rw [aput_old hnd hj, List.length_set]; exact x_set_ne (by omega) (x_set_ne (by omega) (x_set_ne (by omega) (x_set_ne (by omega) g0))), _, _, _, _, x_set_ne (by omega) (x_set_ne (by omega) (x_set_ne (by omega) x_set_eq)), x_set_ne (by omega) (x_set_ne (by omega) x_set_eq), x_set_ne (by omega) x_set_eq, x_set_eq, by rw [aput_old hnd hj, List.map_set]; exact fL_set k0, by rw [aput_old hnd hj, List.map_set]; exact fL_set k1, by rw [aput_old hnd hj, List.map_set]; exact fL_set k2, by rw [aput_old hnd hj, List.map_set]; exact fL_set k3⟩, (((Fr.rf.set ⟨by omega, by omega⟩).set ⟨by omega, by omega⟩).set ⟨by omega, by omega⟩).set ⟨by omega, by omega⟩⟩ | exact Or.inr ⟨hno, by omega, rfl, rfl⟩ | exact Or.inl ⟨Or.inr (by omega), rfl, ⟨by rw [aput_new hno]; simp; omega, aput_keys hnd, wfP_put hw hwp, by rw [aput_new hno, List.length_append]; exact x_set_ne (by omega) (x_set_ne (by omega) (x_set_ne (by omega) (x_set_ne (by omega) x_set_eq))), _, _, _, _, x_set_ne (by omega) (x_set_ne (by omega) (x_set_ne (by omega) x_set_eq)), x_set_ne (by omega) (x_set_ne (by omega) x_set_eq), x_set_ne (by omega) x_set_eq, x_set_eq, by rw [aput_new hno, List.map_append]; exact fL_app k0 (by simp), by rw [aput_new hno, List.map_append]; exact fL_app k1 (by simp), by rw [aput_new hno, List.map_append]; exact fL_app k2 (by simp), by rw [aput_new hno, List.map_append]; exact fL_app k3 (by simp)⟩, ((((Fr.rf.set ⟨by omega, by omega⟩).set ⟨by omega, by omega⟩).set ⟨by omega, by omega⟩).set ⟨by omega, by omega⟩).set ⟨by omega, by omega⟩⟩
  refine x_icmp_ne C dX1_put_10 40 (fun hc10 => absurd rfl hc10) (fun hc10 => ?_)
  refine x_aload_n C dX1_put_13 (kk := ?_)
  refine x_get C fl_X1_24 dX1_put_14 (kk := ?_)
  refine x_bipush C dX1_put_17 (v := 40) (kk := ?_)
  refine x_ncmp_lt C fo.length 40 dX1_put_19 24 (fun hc19 => ?_) (fun hc19 => ?_)
  · refine x_aload_n C dX1_put_24 (kk := ?_)
    refine x_get C fl_X1_24 dX1_put_25 (kk := ?_)
    refine x_istore C dX1_put_28 (kk := ?_)
    refine x_aload_n C dX1_put_30 (kk := ?_)
    refine x_dup C dX1_put_31 (kk := ?_)
    refine x_get C fl_X1_24 dX1_put_32 (kk := ?_)
    refine x_iconst C dX1_put_35 (v := 1) (kk := ?_)
    refine x_iadd C dX1_put_36 ?_
    refine x_top _ (nI_1 fo.length) ?_
    refine x_put C fp_X1_24 dX1_put_37 (kk := ?_)
    refine x_aload_n C dX1_put_40 (kk := ?_)
    refine x_get C fl_X1_9 dX1_put_41 (kk := ?_)
    refine x_iload C dX1_put_44 (kk := ?_)
    refine x_iload_n C dX1_put_46 (kk := ?_)
    refine x_iast C _ dX1_put_47 (kk := ?_)
    refine x_aload_n C dX1_put_48 (kk := ?_)
    refine x_get C fl_X1_15 dX1_put_49 (kk := ?_)
    refine x_iload C dX1_put_52 (kk := ?_)
    refine x_iload_n C dX1_put_54 (kk := ?_)
    refine x_iast C _ dX1_put_55 (kk := ?_)
    refine x_aload_n C dX1_put_56 (kk := ?_)
    refine x_get C fl_X1_18 dX1_put_57 (kk := ?_)
    refine x_iload C dX1_put_60 (kk := ?_)
    refine x_iload_n C dX1_put_62 (kk := ?_)
    refine x_iast C _ dX1_put_63 (kk := ?_)
    refine x_aload_n C dX1_put_64 (kk := ?_)
    refine x_get C fl_X1_21 dX1_put_65 (kk := ?_)
    refine x_iload C dX1_put_68 (kk := ?_)
    refine x_iload C dX1_put_70 (kk := ?_)
    refine x_iast C _ dX1_put_72 (kk := ?_)
    refine x_iconst C dX1_put_73 (v := 1) (kk := ?_)
    refine x_zret C rfl dX1_put_74 (by first | exact Or.inl rfl | exact Or.inr rfl | assumption | exact ite01 _) (hp := ?_)
    first | exact Or.inl ⟨Or.inl (List.mem_of_getElem? hj), rfl, ⟨by rw [aput_old hnd hj]; simp; exact hn, aput_keys hnd, wfP_put hw hwp, by rw [aput_old hnd hj, List.length_set]; exact x_set_ne (by omega) (x_set_ne (by omega) (x_set_ne (by omega) (x_set_ne (by omega) g0))), _, _, _, _, x_set_ne (by omega) (x_set_ne (by omega) (x_set_ne (by omega) x_set_eq)), x_set_ne (by omega) (x_set_ne (by omega) x_set_eq), x_set_ne (by omega) x_set_eq, x_set_eq, by rw [aput_old hnd hj, List.map_set]; exact fL_set k0, by rw [aput_old hnd hj, List.map_set]; exact fL_set k1, by rw [aput_old hnd hj, List.map_set]; exact fL_set k2, by rw [aput_old hnd hj, List.map_set]; exact fL_set k3⟩, (((Fr.rf.set ⟨by omega, by omega⟩).set ⟨by omega, by omega⟩).set ⟨by omega, by omega⟩).set ⟨by omega, by omega⟩⟩ | exact Or.inr ⟨hno, by omega, rfl, rfl⟩ | exact Or.inl ⟨Or.inr (by omega), rfl, ⟨by rw [aput_new hno]; simp; omega, aput_keys hnd, wfP_put hw hwp, by rw [aput_new hno, List.length_append]; exact x_set_ne (by omega) (x_set_ne (by omega) (x_set_ne (by omega) (x_set_ne (by omega) x_set_eq))), _, _, _, _, x_set_ne (by omega) (x_set_ne (by omega) (x_set_ne (by omega) x_set_eq)), x_set_ne (by omega) (x_set_ne (by omega) x_set_eq), x_set_ne (by omega) x_set_eq, x_set_eq, by rw [aput_new hno, List.map_append]; exact fL_app k0 (by simp), by rw [aput_new hno, List.map_append]; exact fL_app k1 (by simp), by rw [aput_new hno, List.map_append]; exact fL_app k2 (by simp), by rw [aput_new hno, List.map_append]; exact fL_app k3 (by simp)⟩, ((((Fr.rf.set ⟨by omega, by omega⟩).set ⟨by omega, by omega⟩).set ⟨by omega, by omega⟩).set ⟨by omega, by omega⟩).set ⟨by omega, by omega⟩⟩
  · refine x_iconst C dX1_put_22 (v := 0) (kk := ?_)
    refine x_zret C rfl dX1_put_23 (by first | exact Or.inl rfl | exact Or.inr rfl | assumption | exact ite01 _) (hp := ?_)
    first | exact Or.inl ⟨Or.inl (List.mem_of_getElem? hj), rfl, ⟨by rw [aput_old hnd hj]; simp; exact hn, aput_keys hnd, wfP_put hw hwp, by rw [aput_old hnd hj, List.length_set]; exact x_set_ne (by omega) (x_set_ne (by omega) (x_set_ne (by omega) (x_set_ne (by omega) g0))), _, _, _, _, x_set_ne (by omega) (x_set_ne (by omega) (x_set_ne (by omega) x_set_eq)), x_set_ne (by omega) (x_set_ne (by omega) x_set_eq), x_set_ne (by omega) x_set_eq, x_set_eq, by rw [aput_old hnd hj, List.map_set]; exact fL_set k0, by rw [aput_old hnd hj, List.map_set]; exact fL_set k1, by rw [aput_old hnd hj, List.map_set]; exact fL_set k2, by rw [aput_old hnd hj, List.map_set]; exact fL_set k3⟩, (((Fr.rf.set ⟨by omega, by omega⟩).set ⟨by omega, by omega⟩).set ⟨by omega, by omega⟩).set ⟨by omega, by omega⟩⟩ | exact Or.inr ⟨hno, by omega, rfl, rfl⟩ | exact Or.inl ⟨Or.inr (by omega), rfl, ⟨by rw [aput_new hno]; simp; omega, aput_keys hnd, wfP_put hw hwp, by rw [aput_new hno, List.length_append]; exact x_set_ne (by omega) (x_set_ne (by omega) (x_set_ne (by omega) (x_set_ne (by omega) x_set_eq))), _, _, _, _, x_set_ne (by omega) (x_set_ne (by omega) (x_set_ne (by omega) x_set_eq)), x_set_ne (by omega) (x_set_ne (by omega) x_set_eq), x_set_ne (by omega) x_set_eq, x_set_eq, by rw [aput_new hno, List.map_append]; exact fL_app k0 (by simp), by rw [aput_new hno, List.map_append]; exact fL_app k1 (by simp), by rw [aput_new hno, List.map_append]; exact fL_app k2 (by simp), by rw [aput_new hno, List.map_append]; exact fL_app k3 (by simp)⟩, ((((Fr.rf.set ⟨by omega, by omega⟩).set ⟨by omega, by omega⟩).set ⟨by omega, by omega⟩).set ⟨by omega, by omega⟩).set ⟨by omega, by omega⟩⟩
end
section
/-! STRINGS OF THE CLASS -/
section XR4
variable {p : Program} {l : Launch} {e : Env} {R : Room} {s : State} {m : MethodId} {args : Array Value} {below : List Frame} {meth : Method} {c : Code} {G : xG} {bs : Nat} {Q : State → Prop} {cells slots pc : Nat} {L : List (Option Value)} {st : List Value} {h : xh}
variable {own : String} {cc : ByteArray} {nL : Nat} {ret : Option FieldType}
/-- the JDK's own copy of a row of ints, from the first one on -/
theorem x_acopy (C : Cx p s m args meth c G own cc nL ret) {idx a0 a n0 n1 k : Nat} {f g : Nat → Int32} (w1 : Cond.methodLink own idx arraycopyName ∈ TB) (w2 : Cond.native arraycopyName ∈ TB) (w3 : Cond.static arraycopyName ∈ TB) (w4 : Cond.initialized "java/lang/System" ∈ TB) (hd : decode cc pc = .ok (.invokestatic idx, 3)) (hh0 : h.1 a0 = some (eI G n0 f)) (hh1 : h.1 a = some (eI G n1 g)) (hk0 : k ≤ n0) (hk1 : k ≤ n1) (hk : k < 2 ^ 31) (hfr : 1 ≤ R.frames) (hlo : (st.map fun v => v.category).sum + (nativeFrameWords "java/lang/System" "arraycopy" 5 + 11) ≤ R.locals)
    (kk : X p l e R s m args below meth c G bs Q cells slots (pc + 3) L st (x_set h a (eI G n1 (va_cpy f g 0 0 k)))) : X p l e R s m args below meth c G bs Q cells slots pc L (.int (nI k) :: .int 0 :: .ref a :: .int 0 :: .ref a0 :: st) h := by
  intro H ls locs hH hS hL T hT X0
  have hc0 : H[a0]? = some (vp_cell (G.2 0) (n0, .inl f)) := (hH.2.2 a0 _ hh0).2
  have hc1 : H[a]? = some (vp_cell (G.2 0) (n1, .inl g)) := (hH.2.2 a _ hh1).2
  have hK := C.2.2.2.2.2.2.2.1
  obtain ⟨-, k0, hk0', cm0, hkk0⟩ := (hK.2 0 _ rfl).1 n0 (fun j => .int (f j))
  obtain ⟨-, k1, hk1', cm1, hkk1⟩ := (hK.2 0 _ rfl).1 n1 (fun j => .int (g j))
  have ek : (nI k).toNatClampNeg = k := nI_clamp hk
  have et : (nI k).toInt = (k : Int) := nI_toInt hk
  have e00 : ((0 : Int32).toNatClampNeg) = 0 := by decide
  have e0t : ((0 : Int32).toInt) = 0 := by decide
  obtain ⟨vm', X', step⟩ := X0.arraycopy C.1 C.2.2.2.2.2.1 (C.2.2.2.2.1 _ w1) (C.2.2.2.2.1 _ w2) (C.2.2.2.2.1 _ w3) (C.2.2.2.2.1 _ w4) (src := a0) (dst := a) (cs := vp_cell (G.2 0) (n0, .inl f)) (cd := vp_cell (G.2 0) (n1, .inl g)) (srcPos := 0) (destPos := 0) (n := nI k) (by rw [hT]; exact hc0) (by rw [hT]; exact hc1)
    (fun _ h => by cases h) (fun _ h => by cases h) (fun h => by cases h) (fun h => by cases h) hk0' hk1' hkk0 hkk1 (by simp [refKind]) (by decide) (by decide) (nI_pos hk)
    (by rw [et, e0t]; show ¬ _ > ((arrV (G.2 0) n0 (fun j => .int (f j))).slots.size : Int); rw [arrV_size]; omega)
    (by rw [et, e0t]; show ¬ _ > ((arrV (G.2 0) n1 (fun j => .int (g j))).slots.size : Int); rw [arrV_size]; omega)
    (fun vm₁ _ i hi => by
      rw [ek] at hi
      have e : (vp_cell (G.2 0) (n0, .inl f)).slots.getD ((0 : Int32).toNatClampNeg + i) .null = .int (f ((0 : Int32).toNatClampNeg + i)) := by
        show (arrV (G.2 0) n0 (fun j => .int (f j))).slots.getD _ _ = _
        rw [Array.getD_eq_getD_getElem?, arrV_read _ _ (by omega)]
        rfl
      exact ⟨by rw [e]; rfl, by rw [e]; exact trivial⟩)
    (g := F0 m pc ls (.int (nI k) :: .int 0 :: .ref a :: .int 0 :: .ref a0 :: st)) rfl (by rw [hL.1]) (rest := st) rfl (by rw [C.2.1]; exact hd) hfr (by show 2 * 0 + _ + _ ≤ _; omega)
  have e1 : copied (vp_cell (G.2 0) (n0, .inl f)) (vp_cell (G.2 0) (n1, .inl g)) 0 0 (nI k) = vp_cell (G.2 0) (n1, .inl (va_cpy f g (0 : Int32).toNatClampNeg (0 : Int32).toNatClampNeg (nI k).toNatClampNeg)) := va_copied (fun z => .int z) (G.2 0) (G.2 0) f g (by rw [ek, e00]; omega)
  rw [ek, e00] at e1
  rw [e1] at X' step
  have hl : a < H.size := (Array.getElem?_eq_some_iff.mp hc1).1
  generalize hH1 : H.setIfInBounds a (vp_cell (G.2 0) (n1, .inl (va_cpy f g 0 0 k))) = H1
  have hheap : ((T.setVm vm').setCell a (vp_cell (G.2 0) (n1, .inl (va_cpy f g 0 0 k)))).heap = H1 := by rw [← hH1, ← hT]; rfl
  have oq : ∀ q : Nat, q ≠ a → H1[q]? = H[q]? := fun q hq => by rw [← hH1]; simp [Array.getElem?_setIfInBounds, Ne.symm hq]
  have z1 : H1.size = H.size := by rw [← hH1]; simp
  have ha1 : H1[a]? = some (vp_cell (G.2 0) (n1, .inl (va_cpy f g 0 0 k))) := by rw [← hH1]; simp [Array.getElem?_setIfInBounds, hl]
  obtain ⟨t, a1, b1⟩ := kk H1 ls _ (hH.put hh1 z1 oq ha1) ⟨by rw [z1]; exact hS.1, fun q g1 g2 => by
      rw [oq q (fun e => g2 (by rw [e]; exact (hH.2.2 a _ hh1).1))]
      exact hS.2.1 q g1 g2, fun q hq => by
      rcases List.mem_append.mp hq with h | h
      · exact hS.2.2 q h
      · obtain ⟨z, -, hz⟩ := List.mem_map.mp h
        rw [← hz]
        exact (hH.2.2 a _ hh1).1⟩ hL _ hheap X'
  exact ⟨t, step t a1, b1⟩
theorem x_mmin (C : Cx p s m args meth c G own cc nL ret) {idx : Nat} {x y : Int32} (w1 : Cond.methodLink own idx Lib.Math.min.name ∈ TB) (hd : decode cc pc = .ok (.invokestatic idx, 3)) (w2 : Cond.static Lib.Math.min.name ∈ TB) (w3 : Cond.initialized "java/lang/Math" ∈ TB) (w4 : Cond.code Lib.Math.min.name Lib.Math.min.code 2 (some .int) ∈ TB) (hfr : 1 ≤ R.frames) (hlo : (st.map fun v => v.category).sum + 13 ≤ R.locals) (hc : cells ≤ R.cells) (hs : slots ≤ R.slots)
    (kk : X p l e R s m args below meth c G bs Q cells slots (pc + 3) L (.int (if y < x then y else x) :: st) h) : X p l e R s m args below meth c G bs Q cells slots pc L (.int y :: .int x :: st) h := fun H ls locs hH hS hL =>
  va_mmin C.1 C.2.1 hL.1.symm C.2.2.2.2.2.1 (C.2.2.2.2.1 _ w1) (C.2.2.2.2.1 _ w2) (C.2.2.2.2.1 _ w3) (C.2.2.2.2.1 _ w4) hfr hlo hc hs hd (kk H ls locs hH hS hL)
end XR4
theorem min_code : Cond.code Lib.Math.min.name Lib.Math.min.code 2 (some .int) ∈ TB := tb_t 263 (by decide +kernel) rfl
set_option maxRecDepth 100000 in
set_option maxHeartbeats 4000000 in
theorem j_copyOf (l : Launch) (G : xG) {h : xh} {a n k : Nat} {f : Nat → Int32} (ha : h.1 a = some (eI G n f)) (han : a ≠ h.2) (hn : n ≤ 300) (hk : k < n) : Ct l G yJ7_copyOf_59c91 cJ7_copyOf_59c91 3 (Option.some (Jvm.ClassFile.FieldType.array Jvm.ClassFile.FieldType.int)) { frames := 1, cells := 1, slots := 300, locals := 60 } [.ref a, .int (nI k)] h (fun v h' => v = some (.ref h.2) ∧ h' = x_set (x_new h (eI G k (fun _ => 0))) h.2 (eI G k (va_cpy f (fun _ => 0) 0 0 k))) := by
  have ha2 : (x_new h (eI G k (fun _ => 0))).1 a = some (eI G n f) := x_new_ne han ha
  have ha3 : (x_new h (eI G k (fun _ => 0))).1 h.2 = some (eI G k (fun _ => 0)) := x_new_eq rfl
  refine Ct.of [some (.ref a), some (.int (nI k)), none] (by decide +kernel) (Nat.le_of_ble_eq_true rfl) (fun p e s m args below meth c bs C hini => ?_)
  refine x_iload_n C dJ7_copyOf_59c91_0 (kk := ?_)
  refine x_aload_n C dJ7_copyOf_59c91_1 (kk := ?_)
  refine x_alen C dJ7_copyOf_59c91_2 (kk := ?_)
  refine x_ncmp_ne C k n dJ7_copyOf_59c91_3 14 (fun hc3 => ?_) (fun hc3 => ?_)
  · refine x_iload_n C dJ7_copyOf_59c91_14 (kk := ?_)
    refine x_newi C k tw_37 dJ7_copyOf_59c91_15 (hslots := by show 0 + k ≤ 300; omega) (kk := ?_)
    refine x_wd C (k := 1) (n := 300) (by omega) (by omega) ?_
    refine x_astore_n C dJ7_copyOf_59c91_17 (kk := ?_)
    refine x_aload_n C dJ7_copyOf_59c91_18 (kk := ?_)
    refine x_iconst C dJ7_copyOf_59c91_19 (v := 0) (kk := ?_)
    refine x_aload_n C dJ7_copyOf_59c91_20 (kk := ?_)
    refine x_iconst C dJ7_copyOf_59c91_21 (v := 0) (kk := ?_)
    refine x_aload_n C dJ7_copyOf_59c91_22 (kk := ?_)
    refine x_alen C dJ7_copyOf_59c91_23 (kk := ?_)
    refine x_iload_n C dJ7_copyOf_59c91_24 (kk := ?_)
    refine x_mmin C tw_207 dJ7_copyOf_59c91_25 tw_208 tw_11 min_code (Nat.le_of_ble_eq_true rfl) (Nat.le_of_ble_eq_true rfl) (Nat.le_of_ble_eq_true rfl) (Nat.le_of_ble_eq_true rfl) ?_
    refine x_top _ (if_pos (nI_lt hk (by omega))) ?_
    refine x_acopy C tw_210 tw_212 tw_211 tw_12 dJ7_copyOf_59c91_28 ha2 ha3 (by omega) (by omega) (by omega) (Nat.le_of_ble_eq_true rfl) (Nat.le_of_ble_eq_true (by decide +kernel)) ?_
    refine x_aload_n C dJ7_copyOf_59c91_31 (kk := ?_)
    refine x_aret C rfl (by first | exact Or.inl ⟨_, rfl⟩ | exact Or.inr ⟨_, rfl⟩) (by first | exact Or.inl rfl | exact Or.inr ⟨_, rfl⟩ | exact va_rf_or _) dJ7_copyOf_59c91_32 (hp := ?_)
    exact ⟨rfl, rfl⟩
  · omega
end
section
/-! STRINGS OF THE CLASS, II -/
theorem Rw.same {G : xG} {h h' : xh} {r : Nat} {q : List Sg} (k : Rw G h r q) (e : ∀ b, At r 4 b → h'.1 b = h.1 b) : Rw G h' r q := by
  obtain ⟨hn, f0, f1, f2, ⟨g0, g1, g2, g3⟩, k0⟩ := k
  exact ⟨hn, f0, f1, f2, ⟨(e r ⟨by omega, by omega⟩).trans g0, (e _ ⟨by omega, by omega⟩).trans g1, (e _ ⟨by omega, by omega⟩).trans g2, (e _ ⟨by omega, by omega⟩).trans g3⟩, k0⟩
theorem st_step {b w : List Int32} {i k : Nat} {u v : Int32} (hu : b[k]? = some u) (hv : w[i + k]? = some v) : (b.drop k).isPrefixOf (w.drop (i + k)) = (u == v && (b.drop (k + 1)).isPrefixOf (w.drop (i + (k + 1)))) := by
  rw [drop_at hu, drop_at hv]
  rfl
theorem st_end {b w : List Int32} {i k : Nat} (hk : b.length ≤ k) : (b.drop k).isPrefixOf (w.drop (i + k)) = true := by
  rw [List.drop_eq_nil_of_le hk]
  rfl
theorem st_len {b w : List Int32} {i : Nat} (h : stands b w i = true) : b.length ≤ w.length - i := by
  have := (List.isPrefixOf_iff_prefix.mp h).length_le
  simpa using this
theorem st_long {b w : List Int32} {i : Nat} (h : w.length - i < b.length) : stands b w i = false := by
  cases hs : stands b w i with
  | false => rfl
  | true => have := st_len hs; omega
theorem cpy_fL {f g : Nat → Int32} {q : List Int32} {n : Nat} (h : fL f q) (hn : n = q.length) : fL (va_cpy f g 0 0 n) q := by
  intro j v hj
  have hl : j < q.length := (List.getElem?_eq_some_iff.mp hj).1
  subst hn
  have := h j v hj
  simp [va_cpy, hl, this]
set_option maxRecDepth 100000 in
set_option maxHeartbeats 4000000 in
theorem c_row_signsAlone (l : Launch) (G : xG) {h : xh} {r : Nat} {q : List Sg} (hq : q.length ≤ 100) (hb : r + 4 ≤ h.2) (hr : Rw G h r q) : Ct l G yX5_signsAlone cX5_signsAlone 1 (Option.some (Jvm.ClassFile.FieldType.array Jvm.ClassFile.FieldType.int)) { frames := 2, cells := 1, slots := 300, locals := 82 } [.ref r] h (fun v h' => v = some (.ref h.2) ∧ (∃ g : Nat → Int32, h'.1 h.2 = some (eI G q.length g) ∧ fL g (q.map (·.1))) ∧ h'.2 = h.2 + 1 ∧ ∀ b, b < h.2 → h'.1 b = h.1 b) := by
  obtain ⟨hn, f0, f1, f2, ⟨g0, g1, g2, g3⟩, k0, k1, k2⟩ := hr
  refine Ct.of [some (.ref r)] (by decide +kernel) (Nat.le_of_ble_eq_true rfl) (fun p e s m args below meth c bs C hini => ?_)
  refine x_aload_n C dX5_signsAlone_0 (kk := ?_)
  refine x_get C fl_X5_9 dX5_signsAlone_1 (kk := ?_)
  refine x_aload_n C dX5_signsAlone_4 (kk := ?_)
  refine x_get C fl_X5_21 dX5_signsAlone_5 (kk := ?_)
  refine x_callS C ml_J7_copyOf_59c91 lk_X5_49 (j_copyOf l G g1 (by omega) (by omega) (k := q.length) (by omega)) dX5_signsAlone_8 (fun r8 h8 hp8 => ?_)
  obtain ⟨rfl, rfl⟩ := hp8
  refine x_aret C rfl (by first | exact Or.inl ⟨_, rfl⟩ | exact Or.inr ⟨_, rfl⟩) (by first | exact Or.inl rfl | exact Or.inr ⟨_, rfl⟩ | exact va_rf_or _) dX5_signsAlone_11 (hp := ?_)
  exact ⟨rfl, ⟨_, x_set_eq, cpy_fL k0 (by simp)⟩, rfl, fun b hb => x_set_ne (by omega) (x_new_ne (by omega) rfl)⟩
def Rp (G : xG) (h : xh) (q : Nat) (w : Sr) : Prop := w.1.length ≤ 100 ∧ w.2.length ≤ 100 ∧ 1 ≤ w.1.length ∧ h.1 q = some (eO 4 [.ref (q + 1), .ref (q + 2)]) ∧ ∃ f g : Nat → Int32, h.1 (q + 1) = some (eI G w.1.length f) ∧ h.1 (q + 2) = some (eI G w.2.length g) ∧ fL f w.1 ∧ fL g w.2
theorem Rp.same {G : xG} {h h' : xh} {q : Nat} {w : Sr} (k : Rp G h q w) (e : ∀ b, At q 3 b → h'.1 b = h.1 b) : Rp G h' q w := by
  obtain ⟨h0, h1, h2, h3, f, g, h4, h5, h6⟩ := k
  exact ⟨h0, h1, h2, (e _ ⟨by omega, by omega⟩).trans h3, f, g, (e _ ⟨by omega, by omega⟩).trans h4, (e _ ⟨by omega, by omega⟩).trans h5, h6⟩
set_option maxRecDepth 100000 in
set_option maxHeartbeats 4000000 in
theorem c_rp_init (l : Launch) (G : xG) {h : xh} {q rb ra : Nat} {wb wa : List Sg} (hq : h.2 = q + 1) (h0 : h.1 q = some (eO 4 [.null, .null])) (hb : rb + 4 ≤ q) (ha : ra + 4 ≤ q) (hbl : wb.length ≤ 100) (hal : wa.length ≤ 100) (hb1 : 1 ≤ wb.length) (hrb : Rw G h rb wb) (hra : Rw G h ra wa) : Ct l G yX4_init cX4_init 3 (Option.none : Option Jvm.ClassFile.FieldType) { frames := 3, cells := 2, slots := 600, locals := 102 } [.ref q, .ref rb, .ref ra] h (fun v h' => v = none ∧ Rp G h' q (wb.map (·.1), wa.map (·.1)) ∧ h'.2 = q + 3 ∧ ∀ b, b < q → h'.1 b = h.1 b) := by
  have hob := hrb.ob
  have hoa := hra.ob
  refine Ct.of [some (.ref q), some (.ref rb), some (.ref ra)] (by decide +kernel) (Nat.le_of_ble_eq_true rfl) (fun p e s m args below meth c bs C hini => ?_)
  refine x_aload_n C dX4_init_0 (kk := ?_)
  refine x_oinit C tw_195 dX4_init_1 tw_20 tw_21 (kk := ?_)
  refine x_aload_n C dX4_init_4 (kk := ?_)
  refine x_aload_n C dX4_init_5 (kk := ?_)
  refine x_callV C ml_X5_signsAlone lk_X4_7 (c_row_signsAlone l G hbl (by omega) hrb) dX4_init_6 (fun r6 h6 hp6 => ?_)
  obtain ⟨rfl, ⟨f, e1, e2⟩, e3, e4⟩ := hp6
  have h06 := (e4 q (by omega)).trans h0
  rw [hq] at e1 e3 e4 ⊢
  refine x_putF C hini fp_X4_13 dX4_init_9 (kk := ?_)
  have hra6 : Rw G (x_set h6 q (eO 4 ([.null, .null].set 0 (.ref (q + 1))))) ra wa := hra.same (fun b z => (x_set_ne (by unfold At at z; omega) rfl).trans (e4 b (by unfold At at z; omega)))
  have hoa6 := hra6.ob
  refine x_aload_n C dX4_init_12 (kk := ?_)
  refine x_aload_n C dX4_init_13 (kk := ?_)
  refine x_callV C ml_X5_signsAlone lk_X4_7 (c_row_signsAlone l G hal (by show ra + 4 ≤ h6.2; omega) hra6) dX4_init_14 (fun r14 h14 hp14 => ?_)
  obtain ⟨rfl, ⟨g, e5, e6⟩, e7, e8⟩ := hp14
  have hz2 : (x_set h6 q (eO 4 ([.null, .null].set 0 (.ref (q + 1))))).2 = q + 2 := by show h6.2 = _; omega
  rw [hz2] at e5 e7 e8 ⊢
  have h014 := (e8 q (by omega)).trans x_set_eq
  have h114 := (e8 (q + 1) (by omega)).trans (x_set_ne (by omega) e1)
  refine x_putF C hini fp_X4_19 dX4_init_17 (kk := ?_)
  refine x_vret C rfl dX4_init_20 (hp := ?_)
  exact ⟨rfl, ⟨by simpa using hbl, by simpa using hal, by simpa using hb1, x_set_eq, f, g, x_set_ne (by omega) (by rw [List.length_map]; exact h114), x_set_ne (by omega) (by rw [List.length_map]; exact e5), e2, e6⟩, by show h14.2 = _; omega, fun b hb => (x_set_ne (by omega) rfl).trans ((e8 b (by omega)).trans ((x_set_ne (by omega) rfl).trans (e4 b (by omega))))⟩
set_option maxRecDepth 100000 in
set_option maxHeartbeats 4000000 in
theorem c_rp_length (l : Launch) (G : xG) {h : xh} {q : Nat} {w : Sr} (hq : Rp G h q w) : Ct l G yX4_length cX4_length 1 (Option.some Jvm.ClassFile.FieldType.int) { frames := 0, cells := 0, slots := 0, locals := 0 } [.ref q] h (fun v h' => v = some (.int (nI w.1.length)) ∧ h' = h) := by
  obtain ⟨h0, h1, h2, h3, f, g, h4, h5, h6, h7⟩ := hq
  refine Ct.of [some (.ref q)] (by decide +kernel) (Nat.le_of_ble_eq_true rfl) (fun p e s m args below meth c bs C hini => ?_)
  refine x_aload_n C dX4_length_0 (kk := ?_)
  refine x_get C fl_X4_13 dX4_length_1 (kk := ?_)
  refine x_alen C dX4_length_4 (kk := ?_)
  refine x_iret C rfl dX4_length_5 (hp := ?_)
  exact ⟨rfl, rfl⟩
set_option maxRecDepth 100000 in
set_option maxHeartbeats 4000000 in
theorem c_rp_standsAt (l : Launch) (G : xG) {h : xh} {q r i : Nat} {w : Sr} {y : List Sg} (hi : i ≤ y.length) (hq : Rp G h q w) (hr : Rw G h r y) : Ct l G yX4_standsAt cX4_standsAt 4 (Option.some Jvm.ClassFile.FieldType.boolean) { frames := 2, cells := 0, slots := 0, locals := 42 } [.ref q, .ref r, .int (nI i)] h (fun v h' => v = some (.int (if stands w.1 (y.map (·.1)) i = true then 1 else 0)) ∧ h' = h) := by
  obtain ⟨h0, h1, h2, h3, f, g, h4, h5, h6, h7⟩ := hq
  have hro := hr.ob
  have hyl := hr.1
  refine Ct.of [some (.ref q), some (.ref r), some (.int (nI i)), none] (by decide +kernel) (Nat.le_of_ble_eq_true rfl) (fun p e s m args below meth c bs C hini => ?_)
  have loop : ∀ (n k : Nat), w.1.length - k < n → k ≤ w.1.length → w.1.length ≤ y.length - i → stands w.1 (y.map (·.1)) i = (w.1.drop k).isPrefixOf ((y.map (·.1)).drop (i + k)) → X p l e { frames := 2, cells := 0, slots := 0, locals := 42 } s m args below meth c G bs (MQ below (x_Q G bs (fun v h' => v = some (.int (if stands w.1 (y.map (·.1)) i = true then 1 else 0)) ∧ h' = h)) args s 0 0 (fun q => bs ≤ q)) 0 0 18 [some (.ref q), some (.ref r), some (.int (nI i)), some (.int (nI k))] [] h := by
    intro n
    induction n with
    | zero => intro k hn; omega
    | succ n ih =>
      intro k hn hk hle hs
      refine x_iload_n C dX4_standsAt_18 (kk := ?_)
      refine x_aload_n C dX4_standsAt_19 (kk := ?_)
      refine x_get C fl_X4_13 dX4_standsAt_20 (kk := ?_)
      refine x_alen C dX4_standsAt_23 (kk := ?_)
      refine x_ncmp_ge C k w.1.length dX4_standsAt_24 51 (fun hc24 => ?_) (fun hc24 => ?_)
      · refine x_iconst C dX4_standsAt_51 (v := 1) (kk := ?_)
        refine x_zret C rfl dX4_standsAt_52 (Or.inr rfl) (hp := ?_)
        exact ⟨by rw [hs, st_end hc24]; rfl, rfl⟩
      obtain ⟨u, hu⟩ : ∃ u, w.1[k]? = some u := ⟨w.1[k], List.getElem?_eq_getElem hc24⟩
      obtain ⟨v, hv⟩ : ∃ v, y[i + k]? = some v := ⟨y[i + k]'(by omega), List.getElem?_eq_getElem (by omega)⟩
      have hfu := h6 k u hu
      rw [st_step hu (v := v.1) (by simp [hv])] at hs
      refine x_aload_n C dX4_standsAt_27 (kk := ?_)
      refine x_iload_n C dX4_standsAt_28 (kk := ?_)
      refine x_iload_n C dX4_standsAt_29 (kk := ?_)
      refine x_iadd C dX4_standsAt_30 ?_
      refine x_top _ (nI_add i k) ?_
      refine x_callV C ml_X5_signAt lk_X4_26 (c_row_signAt l G hv hr) dX4_standsAt_31 (fun r31 h31 hp31 => ?_)
      obtain ⟨rfl, rfl⟩ := hp31
      refine x_aload_n C dX4_standsAt_34 (kk := ?_)
      refine x_get C fl_X4_13 dX4_standsAt_35 (kk := ?_)
      refine x_iload_n C dX4_standsAt_38 (kk := ?_)
      refine x_iald C _ dX4_standsAt_39 (kk := ?_)
      refine x_icmp_eq C dX4_standsAt_40 45 (fun hc40 => ?_) (fun hc40 => ?_)
      · refine x_iinc1 C dX4_standsAt_45 (kk := ?_)
        refine x_goto C dX4_standsAt_48 18 ?_
        exact ih (k + 1) (by omega) (by omega) hle (by rw [hs, show (u == v.1) = true from by rw [← hfu]; simpa using hc40.symm]; rfl)
      · refine x_iconst C dX4_standsAt_43 (v := 0) (kk := ?_)
        refine x_zret C rfl dX4_standsAt_44 (by first | exact Or.inl rfl | exact Or.inr rfl | assumption | exact ite01 _) (hp := ?_)
        exact ⟨by rw [hs, show (u == v.1) = false from by rw [← hfu]; simpa using fun z : f k = v.1 => hc40 z.symm]; rfl, rfl⟩
  refine x_aload_n C dX4_standsAt_0 (kk := ?_)
  refine x_get C fl_X4_13 dX4_standsAt_1 (kk := ?_)
  refine x_alen C dX4_standsAt_4 (kk := ?_)
  refine x_aload_n C dX4_standsAt_5 (kk := ?_)
  refine x_callV C ml_X5_size lk_X4_22 (c_row_size l G hr) dX4_standsAt_6 (fun r6 h6 hp6 => ?_)
  obtain ⟨rfl, rfl⟩ := hp6
  refine x_iload_n C dX4_standsAt_9 (kk := ?_)
  refine x_isub C dX4_standsAt_10 ?_
  refine x_top _ (pk_sub hi) ?_
  refine x_ncmp_le C w.1.length (y.length - i) dX4_standsAt_11 16 (fun hc11 => ?_) (fun hc11 => ?_)
  · refine x_iconst C dX4_standsAt_16 (v := 0) (kk := ?_)
    refine x_istore_n C dX4_standsAt_17 (kk := ?_)
    exact loop (w.1.length + 1) 0 (by omega) (by omega) hc11 rfl
  · refine x_iconst C dX4_standsAt_14 (v := 0) (kk := ?_)
    refine x_zret C rfl dX4_standsAt_15 (by first | exact Or.inl rfl | exact Or.inr rfl | assumption | exact ite01 _) (hp := ?_)
    exact ⟨by rw [st_long (by simpa using hc11)]; rfl, rfl⟩
set_option maxRecDepth 100000 in
set_option maxHeartbeats 4000000 in
theorem c_rp_writeTo (l : Launch) (G : xG) {h : xh} {q r : Nat} {w : Sr} {y : List Sg} (b d : Int32) (hd : q + 3 ≤ r ∨ r + 4 ≤ q) (hq : Rp G h q w) (hr : Rw G h r y) : Ct l G yX4_writeTo cX4_writeTo 6 (Option.some Jvm.ClassFile.FieldType.boolean) { frames := 1, cells := 0, slots := 0, locals := 23 } [.ref q, .ref r, .int b, .int d] h (fun v h' => (v = some (.int 1) ∧ Rw G h' r (y ++ w.2.map (fun u => (u, b, d))) ∨ v = some (.int 0) ∧ 300 < (y ++ w.2.map (fun u => (u, b, d))).length ∧ ∃ y', Rw G h' r y') ∧ Fr (At r 4) h h') := by
  have hq0 := hq
  obtain ⟨h0, h1, h2, h3, f, g, h4, h5, h6, h7⟩ := hq
  have hro := hr.ob
  refine Ct.of [some (.ref q), some (.ref r), some (.int b), some (.int d), none, none] (by decide +kernel) (Nat.le_of_ble_eq_true rfl) (fun p e s m args below meth c bs C hini => ?_)
  have loop : ∀ (n k : Nat) (h8 : xh), w.2.length - k < n → k ≤ w.2.length → Rw G h8 r (y ++ (w.2.take k).map (fun u => (u, b, d))) → Fr (At r 4) h h8 → X p l e { frames := 1, cells := 0, slots := 0, locals := 23 } s m args below meth c G bs (MQ below (x_Q G bs (fun v h' => (v = some (.int 1) ∧ Rw G h' r (y ++ w.2.map (fun u => (u, b, d))) ∨ v = some (.int 0) ∧ 300 < (y ++ w.2.map (fun u => (u, b, d))).length ∧ ∃ y', Rw G h' r y') ∧ Fr (At r 4) h h')) args s 0 0 (fun q => bs ≤ q)) 0 0 6 [some (.ref q), some (.ref r), some (.int b), some (.int d), some (.int 1), some (.int (nI k))] [] h8 := by
    intro n
    induction n with
    | zero => intro k h8 hn; omega
    | succ n ih =>
      intro k h8 hn hk hr8 hf
      have hnA : ∀ b, At q 3 b → ¬ At r 4 b := fun b z1 z2 => by unfold At at z1 z2; omega
      have h38 := hf.at (hnA q ⟨by omega, by omega⟩) h3
      have h58 := hf.at (hnA (q + 2) ⟨by omega, by omega⟩) h5
      have hro8 := hr8.ob
      refine x_iload C dX4_writeTo_6 (kk := ?_)
      refine x_aload_n C dX4_writeTo_8 (kk := ?_)
      refine x_get C fl_X4_19 dX4_writeTo_9 (kk := ?_)
      refine x_alen C dX4_writeTo_12 (kk := ?_)
      refine x_ncmp_ge C k w.2.length dX4_writeTo_13 42 (fun hc13 => ?_) (fun hc13 => ?_)
      · refine x_iload C dX4_writeTo_42 (kk := ?_)
        refine x_zret C rfl dX4_writeTo_44 (Or.inr rfl) (hp := ?_)
        exact ⟨Or.inl ⟨rfl, by rw [List.take_of_length_le hc13] at hr8; exact hr8⟩, hf⟩
      obtain ⟨u, hu⟩ : ∃ u, w.2[k]? = some u := ⟨w.2[k], List.getElem?_eq_getElem hc13⟩
      have hgu := h7 k u hu
      refine x_iload C dX4_writeTo_16 (kk := ?_)
      refine x_if_eq C dX4_writeTo_18 42 (fun hc18 => ?_) (fun hc18 => ?_)
      · exact absurd hc18 (by decide)
      · refine x_aload_n C dX4_writeTo_21 (kk := ?_)
        refine x_aload_n C dX4_writeTo_22 (kk := ?_)
        refine x_get C fl_X4_19 dX4_writeTo_23 (kk := ?_)
        refine x_iload C dX4_writeTo_26 (kk := ?_)
        refine x_iald C _ dX4_writeTo_28 (kk := ?_)
        rw [hgu]
        refine x_iload_n C dX4_writeTo_29 (kk := ?_)
        refine x_iload_n C dX4_writeTo_30 (kk := ?_)
        refine x_callV C ml_X5_add lk_X4_30 (c_row_add l G (u, b, d) hr8) dX4_writeTo_31 (fun r31 h31 hp31 => ?_)
        rcases hp31 with ⟨hl, rfl, hr9, hf9⟩ | ⟨hl, rfl, rfl⟩
        rotate_left
        · refine x_istore C dX4_writeTo_34 (kk := ?_)
          refine x_iinc1 C dX4_writeTo_36 (kk := ?_)
          refine x_goto C dX4_writeTo_39 6 ?_
          refine x_iload C dX4_writeTo_6 (kk := ?_)
          refine x_aload_n C dX4_writeTo_8 (kk := ?_)
          refine x_get C fl_X4_19 dX4_writeTo_9 (kk := ?_)
          refine x_alen C dX4_writeTo_12 (kk := ?_)
          have hbig : 300 < (y ++ w.2.map (fun u => (u, b, d))).length := by simp at hl ⊢; omega
          refine x_ncmp_ge C (k + 1) w.2.length dX4_writeTo_13 42 (fun hcz => ?_) (fun hcz => ?_)
          · refine x_iload C dX4_writeTo_42 (kk := ?_)
            refine x_zret C rfl dX4_writeTo_44 (Or.inl rfl) (hp := ?_)
            exact ⟨Or.inr ⟨rfl, hbig, _, hr8⟩, hf⟩
          · refine x_iload C dX4_writeTo_16 (kk := ?_)
            refine x_if_eq C dX4_writeTo_18 42 (fun hcy => ?_) (fun hcy => absurd rfl hcy)
            refine x_iload C dX4_writeTo_42 (kk := ?_)
            refine x_zret C rfl dX4_writeTo_44 (Or.inl rfl) (hp := ?_)
            exact ⟨Or.inr ⟨rfl, hbig, _, hr8⟩, hf⟩
        refine x_istore C dX4_writeTo_34 (kk := ?_)
        refine x_iinc1 C dX4_writeTo_36 (kk := ?_)
        refine x_goto C dX4_writeTo_39 6 ?_
        exact ih (k + 1) _ (by omega) (by omega) (by rw [take_at hu, List.map_append, ← List.append_assoc]; exact hr9) (hf.tr hf9)
  refine x_iconst C dX4_writeTo_0 (v := 1) (kk := ?_)
  refine x_istore C dX4_writeTo_1 (kk := ?_)
  refine x_iconst C dX4_writeTo_3 (v := 0) (kk := ?_)
  refine x_istore C dX4_writeTo_4 (kk := ?_)
  exact loop (w.2.length + 1) 0 h (by omega) (by omega) (by simpa using hr) Fr.rf
/-- a StringTable at z, its rows at dy and behind -/
def Sx (G : xG) (h : xh) (z dy : Nat) (ss : List Sr) : Prop := ss.length ≤ 20 ∧ (ss.map (·.1)).Nodup ∧ h.1 z = some (eO 6 [.ref (z + 1), .int (nI ss.length)]) ∧ ∃ f : Nat → Option Nat, h.1 (z + 1) = some (eR G 2 20 f) ∧ ∀ (j : Nat) (w : Sr), ss[j]? = some w → ∃ q, f j = some q ∧ dy ≤ q ∧ q + 3 ≤ h.2 ∧ Rp G h q w
theorem Sx.same {G : xG} {h h' : xh} {z dy : Nat} {ss : List Sr} (k : Sx G h z dy ss) (hsz : h.2 ≤ h'.2) (e : ∀ b, At z 2 b → h'.1 b = h.1 b) (e2 : ∀ q, dy ≤ q → q + 3 ≤ h.2 → ∀ w, Rp G h q w → Rp G h' q w) : Sx G h' z dy ss := by
  obtain ⟨h0, h1, h2, f, h3, h4⟩ := k
  refine ⟨h0, h1, (e _ ⟨by omega, by omega⟩).trans h2, f, (e _ ⟨by omega, by omega⟩).trans h3, fun j w hw => ?_⟩
  obtain ⟨q, a1, a2, a3, a4⟩ := h4 j w hw
  exact ⟨q, a1, a2, by omega, e2 q a2 a3 w a4⟩
set_option maxRecDepth 100000 in
set_option maxHeartbeats 4000000 in
theorem c_s_size (l : Launch) (G : xG) {h : xh} {z dy : Nat} {ss : List Sr} (hz : Sx G h z dy ss) : Ct l G yX6_size cX6_size 1 (Option.some Jvm.ClassFile.FieldType.int) { frames := 0, cells := 0, slots := 0, locals := 0 } [.ref z] h (fun v h' => v = some (.int (nI ss.length)) ∧ h' = h) := by
  obtain ⟨hn, hnd, g0, f, g1, g2⟩ := hz
  refine Ct.of [some (.ref z)] (by decide +kernel) (Nat.le_of_ble_eq_true rfl) (fun p e s m args below meth c bs C hini => ?_)
  refine x_aload_n C dX6_size_0 (kk := ?_)
  refine x_get C fl_X6_17 dX6_size_1 (kk := ?_)
  refine x_iret C rfl dX6_size_4 (hp := ?_)
  exact ⟨rfl, rfl⟩
theorem st_0 {b w : List Int32} (hl : b.length = w.length) : stands b w 0 = decide (b = w) := by
  unfold stands
  rw [List.drop_zero]
  by_cases h : b = w
  · subst h
    simp [List.isPrefixOf_iff_prefix]
  · rw [decide_eq_false h]
    cases hs : b.isPrefixOf w with
    | false => rfl
    | true => exact absurd ((List.isPrefixOf_iff_prefix.mp hs).eq_of_length hl) h
set_option maxRecDepth 100000 in
set_option maxHeartbeats 4000000 in
theorem c_s_slotOf (l : Launch) (G : xG) {h : xh} {z dy r : Nat} {ss : List Sr} {y : List Sg} (hz : Sx G h z dy ss) (hr : Rw G h r y) : Ct l G yX6_slotOf cX6_slotOf 4 (Option.some Jvm.ClassFile.FieldType.int) { frames := 3, cells := 0, slots := 0, locals := 65 } [.ref z, .ref r] h (fun v h' => ∃ x, v = some (.int x) ∧ slotR (ss.map (·.1)) (y.map (·.1)) x ∧ h' = h) := by
  obtain ⟨hn, hnd, g0, f, g1, g2⟩ := hz
  have hro := hr.ob
  refine Ct.of [some (.ref z), some (.ref r), none, none] (by decide +kernel) (Nat.le_of_ble_eq_true rfl) (fun p e s m args below meth c bs C hini => ?_)
  have loop : ∀ (n i : Nat), ss.length - i < n → i ≤ ss.length → y.map (·.1) ∉ (ss.map (·.1)).take i → X p l e { frames := 3, cells := 0, slots := 0, locals := 65 } s m args below meth c G bs (MQ below (x_Q G bs (fun v h' => ∃ x, v = some (.int x) ∧ slotR (ss.map (·.1)) (y.map (·.1)) x ∧ h' = h)) args s 0 0 (fun q => bs ≤ q)) 0 0 2 [some (.ref z), some (.ref r), some (.int (nI i)), none] [] h := by
    intro n
    induction n with
    | zero => intro i hn; omega
    | succ n ih =>
      intro i hn hi hd
      refine x_iload_n C dX6_slotOf_2 (kk := ?_)
      refine x_aload_n C dX6_slotOf_3 (kk := ?_)
      refine x_get C fl_X6_17 dX6_slotOf_4 (kk := ?_)
      refine x_ncmp_ge C i ss.length dX6_slotOf_7 49 (fun hc7 => ?_) (fun hc7 => ?_)
      · refine x_iconst C dX6_slotOf_49 (v := -1) (kk := ?_)
        refine x_iret C rfl dX6_slotOf_50 (hp := ?_)
        exact ⟨_, rfl, Or.inl ⟨rfl, by rw [List.take_of_length_le (by simpa using hc7)] at hd; exact hd⟩, rfl⟩
      obtain ⟨w, hw⟩ : ∃ w, ss[i]? = some w := ⟨ss[i], List.getElem?_eq_getElem hc7⟩
      obtain ⟨q, fq, q1, q2, hq⟩ := g2 i w hw
      have hk : (ss.map (·.1))[i]? = some w.1 := by simp [hw]
      have hqo := hq.2.2.2.1
      have hwl := hq.1
      have hyl := hr.1
      refine x_aload_n C dX6_slotOf_10 (kk := ?_)
      refine x_get C fl_X6_11 dX6_slotOf_11 (kk := ?_)
      refine x_iload_n C dX6_slotOf_14 (kk := ?_)
      refine x_aald C _ dX6_slotOf_15 (t := 2) (cn := RX4) (kk := ?_)
      rw [fq]
      show X p l e { frames := 3, cells := 0, slots := 0, locals := 65 } s m args below meth c G bs (MQ below (x_Q G bs (fun v h' => ∃ x, v = some (.int x) ∧ slotR (ss.map (·.1)) (y.map (·.1)) x ∧ h' = h)) args s 0 0 (fun q => bs ≤ q)) 0 0 16 _ [.ref q] h
      refine x_astore_n C dX6_slotOf_16 (kk := ?_)
      refine x_aload_n C dX6_slotOf_17 (kk := ?_)
      refine x_ifnull C dX6_slotOf_18 ?_
      refine x_aload_n C dX6_slotOf_21 (kk := ?_)
      refine x_callV C ml_X4_length lk_X6_28 (c_rp_length l G hq) dX6_slotOf_22 (fun r22 h22 hp22 => ?_)
      obtain ⟨rfl, rfl⟩ := hp22
      refine x_aload_n C dX6_slotOf_25 (kk := ?_)
      refine x_callV C ml_X5_size lk_X6_32 (c_row_size l G hr) dX6_slotOf_26 (fun r26 h26 hp26 => ?_)
      obtain ⟨rfl, rfl⟩ := hp26
      refine x_ncmp_ne C w.1.length y.length dX6_slotOf_29 43 (fun hc29 => ?_) (fun hc29 => ?_)
      · refine x_iinc1 C dX6_slotOf_43 (kk := ?_)
        refine x_goto C dX6_slotOf_46 2 ?_
        refine x_fg 3 ?_
        exact ih (i + 1) (by omega) (by omega) (by rw [take_at hk]; intro z; rcases List.mem_append.mp z with z | z; exact hd z; rw [List.mem_singleton] at z; exact hc29 (by rw [← z]; simp))
      · refine x_aload_n C dX6_slotOf_32 (kk := ?_)
        refine x_aload_n C dX6_slotOf_33 (kk := ?_)
        refine x_iconst C dX6_slotOf_34 (v := 0) (kk := ?_)
        refine x_callV C ml_X4_standsAt lk_X6_36 (c_rp_standsAt l G (i := 0) (Nat.zero_le _) hq hr) dX6_slotOf_35 (fun r35 h35 hp35 => ?_)
        obtain ⟨rfl, rfl⟩ := hp35
        refine x_ifB_eq C dX6_slotOf_38 43 (fun hc38 => ?_) (fun hc38 => ?_)
        · refine x_iinc1 C dX6_slotOf_43 (kk := ?_)
          refine x_goto C dX6_slotOf_46 2 ?_
          refine x_fg 3 ?_
          exact ih (i + 1) (by omega) (by omega) (by rw [take_at hk]; intro z; rcases List.mem_append.mp z with z | z; exact hd z; rw [List.mem_singleton] at z; exact hc38 (by rw [st_0 (by simpa using hc29)]; exact decide_eq_true z.symm))
        · refine x_iload_n C dX6_slotOf_41 (kk := ?_)
          refine x_iret C rfl dX6_slotOf_42 (hp := ?_)
          exact ⟨_, rfl, Or.inr ⟨i, rfl, by rw [hk]; rw [st_0 (by simpa using hc29)] at hc38; rw [of_decide_eq_true hc38]⟩, rfl⟩
  refine x_iconst C dX6_slotOf_0 (v := 0) (kk := ?_)
  refine x_istore_n C dX6_slotOf_1 (kk := ?_)
  exact loop (ss.length + 1) 0 (by omega) (by omega) (by simp)
/-- the longest one so far, as it lies in a local -/
def Bst (G : xG) (h : xh) (b : Option Sr) (v : Value) : Prop := (b = none ∧ v = .null) ∨ ∃ w q, b = some w ∧ v = .ref q ∧ Rp G h q w
def lstep (w : List Int32) (i : Nat) (best : Option Sr) (s : Sr) : Option Sr := if stands s.1 w i && (match best with | none => true | some z => decide (z.1.length < s.1.length)) then some s else best
theorem longest_eq (ss : List Sr) (w : List Int32) (i : Nat) : longest ss w i = ss.foldl (lstep w i) none := rfl
theorem lfold_at {ss : List Sr} {w : List Int32} {i k : Nat} {s : Sr} (hs : ss[k]? = some s) : (ss.take (k + 1)).foldl (lstep w i) none = lstep w i ((ss.take k).foldl (lstep w i) none) s := by
  rw [take_at hs, List.foldl_append]
  rfl
theorem lstep_no {w : List Int32} {i : Nat} {best : Option Sr} {s : Sr} (h : ¬ stands s.1 w i = true) : lstep w i best s = best := by simp [lstep, h]
theorem lstep_new {w : List Int32} {i : Nat} {s : Sr} (h : stands s.1 w i = true) : lstep w i none s = some s := by simp [lstep, h]
theorem lstep_gt {w : List Int32} {i : Nat} {z s : Sr} (h : stands s.1 w i = true) (hl : z.1.length < s.1.length) : lstep w i (some z) s = some s := by simp [lstep, h, hl]
theorem lstep_le {w : List Int32} {i : Nat} {z s : Sr} (hl : s.1.length ≤ z.1.length) : lstep w i (some z) s = some z := by
  have : ¬ z.1.length < s.1.length := by omega
  simp [lstep, this]
set_option maxRecDepth 100000 in
set_option maxHeartbeats 4000000 in
theorem c_s_longestAt (l : Launch) (G : xG) {h : xh} {z dy r i : Nat} {ss : List Sr} {y : List Sg} (hi : i ≤ y.length) (hz : Sx G h z dy ss) (hr : Rw G h r y) : Ct l G yX6_longestAt cX6_longestAt 6 (Option.some (Jvm.ClassFile.FieldType.object "SignTables$Replacement")) { frames := 3, cells := 0, slots := 0, locals := 65 } [.ref z, .ref r, .int (nI i)] h (fun v h' => ∃ x, v = some x ∧ Bst G h (longest ss (y.map (·.1)) i) x ∧ h' = h) := by
  obtain ⟨hn, hnd, g0, f, g1, g2⟩ := hz
  have hro := hr.ob
  refine Ct.of [some (.ref z), some (.ref r), some (.int (nI i)), none, none, none] (by decide +kernel) (Nat.le_of_ble_eq_true rfl) (fun p e s m args below meth c bs C hini => ?_)
  have loop : ∀ (n k : Nat) (bv : Value), ss.length - k < n → k ≤ ss.length → Bst G h ((ss.take k).foldl (lstep (y.map (·.1)) i) none) bv → X p l e { frames := 3, cells := 0, slots := 0, locals := 65 } s m args below meth c G bs (MQ below (x_Q G bs (fun v h' => ∃ x, v = some x ∧ Bst G h (longest ss (y.map (·.1)) i) x ∧ h' = h)) args s 0 0 (fun q => bs ≤ q)) 0 0 5 [some (.ref z), some (.ref r), some (.int (nI i)), some bv, some (.int (nI k)), none] [] h := by
    intro n
    induction n with
    | zero => intro k bv hn; omega
    | succ n ih =>
      intro k bv hn hk hb
      have hyl := hr.1
      rcases hb with ⟨hbn, rfl⟩ | ⟨w0, q0, hbn, rfl, hq0⟩
      · skip
        refine x_iload C dX6_longestAt_5 (kk := ?_)
        refine x_aload_n C dX6_longestAt_7 (kk := ?_)
        refine x_get C fl_X6_17 dX6_longestAt_8 (kk := ?_)
        refine x_ncmp_ge C k ss.length dX6_longestAt_11 63 (fun hc11 => ?_) (fun hc11 => ?_)
        · refine x_aload_nN C dX6_longestAt_63 (kk := ?_)
          refine x_aret C rfl (Or.inl ⟨_, rfl⟩) (Or.inl rfl) dX6_longestAt_64 (hp := ?_)
          exact ⟨_, rfl, by rw [longest_eq, ← List.take_of_length_le hc11, hbn]; exact Or.inl ⟨rfl, rfl⟩, rfl⟩
        obtain ⟨w, hw⟩ : ∃ w, ss[k]? = some w := ⟨ss[k], List.getElem?_eq_getElem hc11⟩
        obtain ⟨q, fq, q1, q2, hq⟩ := g2 k w hw
        have hqo := hq.2.2.2.1
        have hwl := hq.1
        refine x_aload_n C dX6_longestAt_14 (kk := ?_)
        refine x_get C fl_X6_11 dX6_longestAt_15 (kk := ?_)
        refine x_iload C dX6_longestAt_18 (kk := ?_)
        refine x_aald C _ dX6_longestAt_20 (t := 2) (cn := RX4) (kk := ?_)
        rw [fq]
        show X p l e { frames := 3, cells := 0, slots := 0, locals := 65 } s m args below meth c G bs (MQ below (x_Q G bs (fun v h' => ∃ x, v = some x ∧ Bst G h (longest ss (y.map (·.1)) i) x ∧ h' = h)) args s 0 0 (fun q => bs ≤ q)) 0 0 21 _ [.ref q] h
        refine x_astore C dX6_longestAt_21 (kk := ?_)
        refine x_aload C dX6_longestAt_23 (kk := ?_)
        refine x_ifnull C dX6_longestAt_25 ?_
        refine x_aload C dX6_longestAt_28 (kk := ?_)
        refine x_aload_n C dX6_longestAt_30 (kk := ?_)
        refine x_iload_n C dX6_longestAt_31 (kk := ?_)
        refine x_callV C ml_X4_standsAt lk_X6_36 (c_rp_standsAt l G hi hq hr) dX6_longestAt_32 (fun r32 h32 hp32 => ?_)
        obtain ⟨rfl, rfl⟩ := hp32
        refine x_ifB_eq C dX6_longestAt_35 57 (fun hc35 => ?_) (fun hc35 => ?_)
        · refine x_iinc1 C dX6_longestAt_57 (kk := ?_)
          refine x_goto C dX6_longestAt_60 5 ?_
          refine x_fg 5 ?_
          exact ih (k + 1) _ (by omega) (by omega) (by rw [lfold_at hw, hbn, lstep_no hc35]; exact Or.inl ⟨rfl, rfl⟩)
        · refine x_aload_nN C dX6_longestAt_38 (kk := ?_)
          refine x_ifnullN C dX6_longestAt_39 54 ?_
          refine x_aload C dX6_longestAt_54 (kk := ?_)
          refine x_astore_n C dX6_longestAt_56 (kk := ?_)
          refine x_iinc1 C dX6_longestAt_57 (kk := ?_)
          refine x_goto C dX6_longestAt_60 5 ?_
          refine x_fg 5 ?_
          exact ih (k + 1) _ (by omega) (by omega) (by rw [lfold_at hw, hbn, lstep_new hc35]; exact Or.inr ⟨w, q, rfl, rfl, hq⟩)
      · skip
        refine x_iload C dX6_longestAt_5 (kk := ?_)
        refine x_aload_n C dX6_longestAt_7 (kk := ?_)
        refine x_get C fl_X6_17 dX6_longestAt_8 (kk := ?_)
        refine x_ncmp_ge C k ss.length dX6_longestAt_11 63 (fun hc11 => ?_) (fun hc11 => ?_)
        · refine x_aload_n C dX6_longestAt_63 (kk := ?_)
          refine x_aret C rfl (Or.inl ⟨_, rfl⟩) (Or.inr ⟨_, rfl⟩) dX6_longestAt_64 (hp := ?_)
          exact ⟨_, rfl, by rw [longest_eq, ← List.take_of_length_le hc11, hbn]; exact Or.inr ⟨w0, q0, rfl, rfl, hq0⟩, rfl⟩
        obtain ⟨w, hw⟩ : ∃ w, ss[k]? = some w := ⟨ss[k], List.getElem?_eq_getElem hc11⟩
        obtain ⟨q, fq, q1, q2, hq⟩ := g2 k w hw
        have hqo := hq.2.2.2.1
        have hwl := hq.1
        refine x_aload_n C dX6_longestAt_14 (kk := ?_)
        refine x_get C fl_X6_11 dX6_longestAt_15 (kk := ?_)
        refine x_iload C dX6_longestAt_18 (kk := ?_)
        refine x_aald C _ dX6_longestAt_20 (t := 2) (cn := RX4) (kk := ?_)
        rw [fq]
        show X p l e { frames := 3, cells := 0, slots := 0, locals := 65 } s m args below meth c G bs (MQ below (x_Q G bs (fun v h' => ∃ x, v = some x ∧ Bst G h (longest ss (y.map (·.1)) i) x ∧ h' = h)) args s 0 0 (fun q => bs ≤ q)) 0 0 21 _ [.ref q] h
        refine x_astore C dX6_longestAt_21 (kk := ?_)
        refine x_aload C dX6_longestAt_23 (kk := ?_)
        refine x_ifnull C dX6_longestAt_25 ?_
        refine x_aload C dX6_longestAt_28 (kk := ?_)
        refine x_aload_n C dX6_longestAt_30 (kk := ?_)
        refine x_iload_n C dX6_longestAt_31 (kk := ?_)
        refine x_callV C ml_X4_standsAt lk_X6_36 (c_rp_standsAt l G hi hq hr) dX6_longestAt_32 (fun r32 h32 hp32 => ?_)
        obtain ⟨rfl, rfl⟩ := hp32
        refine x_ifB_eq C dX6_longestAt_35 57 (fun hc35 => ?_) (fun hc35 => ?_)
        · refine x_iinc1 C dX6_longestAt_57 (kk := ?_)
          refine x_goto C dX6_longestAt_60 5 ?_
          refine x_fg 5 ?_
          exact ih (k + 1) _ (by omega) (by omega) (by rw [lfold_at hw, hbn, lstep_no hc35]; exact Or.inr ⟨w0, q0, rfl, rfl, hq0⟩)
        · refine x_aload_n C dX6_longestAt_38 (kk := ?_)
          refine x_ifnull C dX6_longestAt_39 ?_
          refine x_aload C dX6_longestAt_42 (kk := ?_)
          refine x_callV C ml_X4_length lk_X6_28 (c_rp_length l G hq) dX6_longestAt_44 (fun r44 h44 hp44 => ?_)
          obtain ⟨rfl, rfl⟩ := hp44
          have hqo0 := hq0.2.2.2.1
          have hwl0 := hq0.1
          refine x_aload_n C dX6_longestAt_47 (kk := ?_)
          refine x_callV C ml_X4_length lk_X6_28 (c_rp_length l G hq0) dX6_longestAt_48 (fun r48 h48 hp48 => ?_)
          obtain ⟨rfl, rfl⟩ := hp48
          refine x_ncmp_le C w.1.length w0.1.length dX6_longestAt_51 57 (fun hc51 => ?_) (fun hc51 => ?_)
          · refine x_iinc1 C dX6_longestAt_57 (kk := ?_)
            refine x_goto C dX6_longestAt_60 5 ?_
            refine x_fg 5 ?_
            exact ih (k + 1) _ (by omega) (by omega) (by rw [lfold_at hw, hbn, lstep_le hc51]; exact Or.inr ⟨w0, q0, rfl, rfl, hq0⟩)
          · refine x_aload C dX6_longestAt_54 (kk := ?_)
            refine x_astore_n C dX6_longestAt_56 (kk := ?_)
            refine x_iinc1 C dX6_longestAt_57 (kk := ?_)
            refine x_goto C dX6_longestAt_60 5 ?_
            refine x_fg 5 ?_
            exact ih (k + 1) _ (by omega) (by omega) (by rw [lfold_at hw, hbn, lstep_gt hc35 hc51]; exact Or.inr ⟨w, q, rfl, rfl, hq⟩)
  refine x_null C dX6_longestAt_0 ?_
  refine x_astore_nN C dX6_longestAt_1 (kk := ?_)
  refine x_iconst C dX6_longestAt_2 (v := 0) (kk := ?_)
  refine x_istore C dX6_longestAt_3 (kk := ?_)
  exact loop (ss.length + 1) 0 .null (by omega) (by omega) (Or.inl ⟨rfl, rfl⟩)
end
section
/-! STRINGS OF THE CLASS, III -/
theorem Sx_fin {G : xG} {h : xh} {z dy : Nat} {ss : List Sr} {f : Nat → Option Nat} {j q : Nat} {w : Sr} (hlen : ss.length ≤ 20) (hnd : (ss.map (·.1)).Nodup) (ho : h.1 z = some (eO 6 [.ref (z + 1), .int (nI ss.length)])) (hq : Rp G h q w) (hqd : dy ≤ q) (hzd : z + 2 ≤ dy) (hsz : q + 3 ≤ h.2) (hj : ss[j]? = some w) (hold : ∀ (i : Nat) (u : Sr), i ≠ j → ss[i]? = some u → ∃ q', f i = some q' ∧ dy ≤ q' ∧ q' + 3 ≤ h.2 ∧ Rp G h q' u) :
    Sx G (x_set h (z + 1) (eR G 2 20 (va_up f j (some q)))) z dy ss := by
  refine ⟨hlen, hnd, x_set_ne (by omega) ho, _, x_set_eq, fun i u hi => ?_⟩
  by_cases hij : i = j
  · subst hij
    rw [hj] at hi
    cases hi
    exact ⟨q, by simp [va_up], hqd, hsz, hq.same (fun b hb => x_set_ne (by unfold At at hb; omega) rfl)⟩
  · obtain ⟨q', a1, a2, a3, a4⟩ := hold i u hij hi
    exact ⟨q', by simp [va_up, hij, a1], a2, a3, a4.same (fun b hb => x_set_ne (by unfold At at hb; omega) rfl)⟩
set_option maxRecDepth 100000 in
set_option maxHeartbeats 4000000 in
theorem c_s_put (l : Launch) (G : xG) {h : xh} {z dy rb ra : Nat} {ss : List Sr} {yb ya : List Sg} (hbl : yb.length ≤ 100) (hb1 : 1 ≤ yb.length) (hal : ya.length ≤ 100) (hrbz : (z + 2 ≤ rb ∨ rb + 4 ≤ z) ∧ rb + 4 ≤ h.2) (hraz : (z + 2 ≤ ra ∨ ra + 4 ≤ z) ∧ ra + 4 ≤ h.2) (hzd : z + 2 ≤ dy) (hdy : dy ≤ h.2) (hz : Sx G h z dy ss) (hrb : Rw G h rb yb) (hra : Rw G h ra ya) : Ct l G yX6_put cX6_put 4 (Option.some Jvm.ClassFile.FieldType.boolean) { frames := 4, cells := 3, slots := 602, locals := 124 } [.ref z, .ref rb, .ref ra] h (fun v h' => ((yb.map (·.1) ∈ ss.map (·.1) ∨ ss.length < 20) ∧ v = some (.int 1) ∧ Sx G h' z dy (aput ss (yb.map (·.1)) (ya.map (·.1))) ∧ h'.2 = h.2 + 3 ∧ ∀ b, b < h.2 → ¬ At z 2 b → h'.1 b = h.1 b) ∨ (yb.map (·.1) ∉ ss.map (·.1) ∧ ss.length = 20 ∧ v = some (.int 0) ∧ h' = h)) := by
  have hz0 := hz
  obtain ⟨hn, hnd, g0, f, g1, g2⟩ := hz
  refine Ct.of [some (.ref z), some (.ref rb), some (.ref ra), none] (by decide +kernel) (Nat.le_of_ble_eq_true rfl) (fun p e s m args below meth c bs C hini => ?_)
  refine x_aload_n C dX6_put_0 (kk := ?_)
  refine x_aload_n C dX6_put_1 (kk := ?_)
  refine x_callV C ml_X6_slotOf lk_X6_21 (c_s_slotOf l G hz0 hrb) dX6_put_2 (fun r2 h2 hp2 => ?_)
  obtain ⟨x, rfl, hs, rfl⟩ := hp2
  refine x_istore_n C dX6_put_5 (kk := ?_)
  refine x_iload_n C dX6_put_6 (kk := ?_)
  refine x_iconst C dX6_put_7 (v := -1) (kk := ?_)
  rcases hs with ⟨rfl, hno⟩ | ⟨j, rfl, hj⟩
  rotate_left
  · have hjl : j < ss.length := by simpa using (List.getElem?_eq_some_iff.mp hj).1
    refine x_icmp_ne C dX6_put_8 37 (fun hc8 => ?_) (fun hc8 => absurd hc8 (nI_m1 (by omega)))
    have hrb7 := hrb
    have hra7 := hra
    have ho7 := g0
    have hz17 := g1
    have hnew : ∀ b, b ≠ z → h2.1 b = h2.1 b := fun _ _ => rfl
    refine x_aload_n C dX6_put_37 (kk := ?_)
    refine x_get C fl_X6_11 dX6_put_38 (kk := ?_)
    refine x_iload_n C dX6_put_41 (kk := ?_)
    refine x_obj C (fs := [.null, .null]) tyX4 (ci := 4) rfl inT4 tyX4_ok tw_76 tw_191 tw_9 (fun j hj => match j, hj with | 0, _ => rfl | 1, _ => rfl | k + 2, h => absurd h (by omega)) dX6_put_42 (kk := ?_)
    refine x_dup C dX6_put_45 (kk := ?_)
    refine x_aload_n C dX6_put_46 (kk := ?_)
    refine x_aload_n C dX6_put_47 (kk := ?_)
    refine x_callI C ml_X4_init lk_X6_25 (c_rp_init l G (q := h2.2) (rb := rb) (ra := ra) rfl (x_new_eq rfl) (by omega) (by omega) hbl hal hb1 (hrb7.same (fun b hb => x_new_ne (by show b ≠ h2.2; unfold At at hb; omega) rfl)) (hra7.same (fun b hb => x_new_ne (by show b ≠ h2.2; unfold At at hb; omega) rfl))) dX6_put_48 (fun r48 h48 hp48 => ?_)
    obtain ⟨rfl, hrp, hsz0, hsm⟩ := hp48
    have hsz : h48.2 = h2.2 + 3 := hsz0
    have hz148 := (hsm (z + 1) (by omega)).trans (x_new_ne (by show z + 1 ≠ h2.2; omega) hz17)
    have hz48 := (hsm z (by omega)).trans (x_new_ne (by show z ≠ h2.2; omega) ho7)
    have hrpo := hrp.2.2.2.1
    refine x_aast C _ dX6_put_51 (t := 2) (ci := 4) (r := (RX4, TX4, 2)) rfl rfl (hh := hz148) (hv := hrpo) (kk := ?_)
    refine x_iconst C dX6_put_52 (v := 1) (kk := ?_)
    refine x_zret C rfl dX6_put_53 (by first | exact Or.inl rfl | exact Or.inr rfl | assumption | exact ite01 _) (hp := ?_)
    first
    | exact Or.inl ⟨Or.inl (List.mem_of_getElem? hj), rfl, by rw [aput_old hnd hj]; exact Sx_fin (h := h48) (by simp; exact hn) (by rw [← aput_old hnd hj]; exact aput_keys hnd) (by rw [List.length_set]; exact hz48) hrp hdy hzd (by show h2.2 + 3 ≤ h48.2; omega) (List.getElem?_set_self hjl) (fun i u hij hu => by
        rw [List.getElem?_set_ne (Ne.symm hij)] at hu
        obtain ⟨q', a1, a2, a3, a4⟩ := g2 i u hu
        exact ⟨q', a1, a2, by omega, a4.same (fun b hb => (hsm b (by unfold At at hb; omega)).trans ((x_new_ne (by show b ≠ h2.2; unfold At at hb; omega) rfl).trans (hnew b (by unfold At at hb; omega))))⟩), hsz, fun b hb hb2 => (x_set_ne (by intro z9; apply hb2; unfold At; omega) rfl).trans ((hsm b hb).trans ((x_new_ne (by show b ≠ h2.2; omega) rfl).trans (hnew b (by intro z9; apply hb2; unfold At; omega))))⟩
    | exact Or.inr ⟨hno, by omega, rfl, rfl⟩
    | exact Or.inl ⟨Or.inr (by omega), rfl, by rw [aput_new hno]; exact Sx_fin (h := h48) (by simp; omega) (by rw [← aput_new hno]; exact aput_keys hnd) (by rw [List.length_append]; exact hz48) hrp hdy hzd (by show h2.2 + 3 ≤ h48.2; omega) (by simp) (fun i u hij hu => by
        have hil : i < ss.length := by
          have := (List.getElem?_eq_some_iff.mp hu).1
          simp at this
          omega
        rw [List.getElem?_append_left hil] at hu
        obtain ⟨q', a1, a2, a3, a4⟩ := g2 i u hu
        exact ⟨q', a1, a2, by omega, a4.same (fun b hb => (hsm b (by unfold At at hb; omega)).trans ((x_new_ne (by show b ≠ h2.2; unfold At at hb; omega) rfl).trans (hnew b (by unfold At at hb; omega))))⟩), hsz, fun b hb hb2 => (x_set_ne (by intro z9; apply hb2; unfold At; omega) rfl).trans ((hsm b hb).trans ((x_new_ne (by show b ≠ h2.2; omega) rfl).trans (hnew b (by intro z9; apply hb2; unfold At; omega))))⟩
  refine x_icmp_ne C dX6_put_8 37 (fun hc8 => absurd rfl hc8) (fun hc8 => ?_)
  refine x_aload_n C dX6_put_11 (kk := ?_)
  refine x_get C fl_X6_17 dX6_put_12 (kk := ?_)
  refine x_bipush C dX6_put_15 (v := 20) (kk := ?_)
  refine x_ncmp_lt C ss.length 20 dX6_put_17 22 (fun hc17 => ?_) (fun hc17 => ?_)
  · refine x_aload_n C dX6_put_22 (kk := ?_)
    refine x_get C fl_X6_17 dX6_put_23 (kk := ?_)
    refine x_istore_n C dX6_put_26 (kk := ?_)
    refine x_aload_n C dX6_put_27 (kk := ?_)
    refine x_dup C dX6_put_28 (kk := ?_)
    refine x_get C fl_X6_17 dX6_put_29 (kk := ?_)
    refine x_iconst C dX6_put_32 (v := 1) (kk := ?_)
    refine x_iadd C dX6_put_33 ?_
    refine x_top _ (nI_1 ss.length) ?_
    refine x_put C fp_X6_17 dX6_put_34 (kk := ?_)
    have hrb7 : Rw G (x_set h2 z (eO 6 ([.ref (z + 1), .int (nI ss.length)].set 1 (.int (nI (ss.length + 1)))))) rb yb := hrb.same (fun b hb => x_set_ne (by unfold At at hb; omega) rfl)
    have hra7 : Rw G (x_set h2 z (eO 6 ([.ref (z + 1), .int (nI ss.length)].set 1 (.int (nI (ss.length + 1)))))) ra ya := hra.same (fun b hb => x_set_ne (by unfold At at hb; omega) rfl)
    have ho7 : (x_set h2 z (eO 6 ([.ref (z + 1), .int (nI ss.length)].set 1 (.int (nI (ss.length + 1)))))).1 z = some (eO 6 [.ref (z + 1), .int (nI (ss.length + 1))]) := x_set_eq
    have hz17 : (x_set h2 z (eO 6 ([.ref (z + 1), .int (nI ss.length)].set 1 (.int (nI (ss.length + 1)))))).1 (z + 1) = _ := x_set_ne (by omega) g1
    have hnew : ∀ b, b ≠ z → (x_set h2 z (eO 6 ([.ref (z + 1), .int (nI ss.length)].set 1 (.int (nI (ss.length + 1)))))).1 b = h2.1 b := fun b hb => x_set_ne hb rfl
    refine x_aload_n C dX6_put_37 (kk := ?_)
    refine x_get C fl_X6_11 dX6_put_38 (kk := ?_)
    refine x_iload_n C dX6_put_41 (kk := ?_)
    refine x_obj C (fs := [.null, .null]) tyX4 (ci := 4) rfl inT4 tyX4_ok tw_76 tw_191 tw_9 (fun j hj => match j, hj with | 0, _ => rfl | 1, _ => rfl | k + 2, h => absurd h (by omega)) dX6_put_42 (kk := ?_)
    refine x_dup C dX6_put_45 (kk := ?_)
    refine x_aload_n C dX6_put_46 (kk := ?_)
    refine x_aload_n C dX6_put_47 (kk := ?_)
    refine x_callI C ml_X4_init lk_X6_25 (c_rp_init l G (q := h2.2) (rb := rb) (ra := ra) rfl (x_new_eq rfl) (by omega) (by omega) hbl hal hb1 (hrb7.same (fun b hb => x_new_ne (by show b ≠ h2.2; unfold At at hb; omega) rfl)) (hra7.same (fun b hb => x_new_ne (by show b ≠ h2.2; unfold At at hb; omega) rfl))) dX6_put_48 (fun r48 h48 hp48 => ?_)
    obtain ⟨rfl, hrp, hsz0, hsm⟩ := hp48
    have hsz : h48.2 = h2.2 + 3 := hsz0
    have hz148 := (hsm (z + 1) (by omega)).trans (x_new_ne (by show z + 1 ≠ h2.2; omega) hz17)
    have hz48 := (hsm z (by omega)).trans (x_new_ne (by show z ≠ h2.2; omega) ho7)
    have hrpo := hrp.2.2.2.1
    refine x_aast C _ dX6_put_51 (t := 2) (ci := 4) (r := (RX4, TX4, 2)) rfl rfl (hh := hz148) (hv := hrpo) (kk := ?_)
    refine x_iconst C dX6_put_52 (v := 1) (kk := ?_)
    refine x_zret C rfl dX6_put_53 (by first | exact Or.inl rfl | exact Or.inr rfl | assumption | exact ite01 _) (hp := ?_)
    first
    | exact Or.inl ⟨Or.inl (List.mem_of_getElem? hj), rfl, by rw [aput_old hnd hj]; exact Sx_fin (h := h48) (by simp; exact hn) (by rw [← aput_old hnd hj]; exact aput_keys hnd) (by rw [List.length_set]; exact hz48) hrp hdy hzd (by show h2.2 + 3 ≤ h48.2; omega) (List.getElem?_set_self hjl) (fun i u hij hu => by
        rw [List.getElem?_set_ne (Ne.symm hij)] at hu
        obtain ⟨q', a1, a2, a3, a4⟩ := g2 i u hu
        exact ⟨q', a1, a2, by omega, a4.same (fun b hb => (hsm b (by unfold At at hb; omega)).trans ((x_new_ne (by show b ≠ h2.2; unfold At at hb; omega) rfl).trans (hnew b (by unfold At at hb; omega))))⟩), hsz, fun b hb hb2 => (x_set_ne (by intro z9; apply hb2; unfold At; omega) rfl).trans ((hsm b hb).trans ((x_new_ne (by show b ≠ h2.2; omega) rfl).trans (hnew b (by intro z9; apply hb2; unfold At; omega))))⟩
    | exact Or.inr ⟨hno, by omega, rfl, rfl⟩
    | exact Or.inl ⟨Or.inr (by omega), rfl, by rw [aput_new hno]; exact Sx_fin (h := h48) (by simp; omega) (by rw [← aput_new hno]; exact aput_keys hnd) (by rw [List.length_append]; exact hz48) hrp hdy hzd (by show h2.2 + 3 ≤ h48.2; omega) (by simp) (fun i u hij hu => by
        have hil : i < ss.length := by
          have := (List.getElem?_eq_some_iff.mp hu).1
          simp at this
          omega
        rw [List.getElem?_append_left hil] at hu
        obtain ⟨q', a1, a2, a3, a4⟩ := g2 i u hu
        exact ⟨q', a1, a2, by omega, a4.same (fun b hb => (hsm b (by unfold At at hb; omega)).trans ((x_new_ne (by show b ≠ h2.2; unfold At at hb; omega) rfl).trans (hnew b (by unfold At at hb; omega))))⟩), hsz, fun b hb hb2 => (x_set_ne (by intro z9; apply hb2; unfold At; omega) rfl).trans ((hsm b hb).trans ((x_new_ne (by show b ≠ h2.2; omega) rfl).trans (hnew b (by intro z9; apply hb2; unfold At; omega))))⟩
  · refine x_iconst C dX6_put_20 (v := 0) (kk := ?_)
    refine x_zret C rfl dX6_put_21 (by first | exact Or.inl rfl | exact Or.inr rfl | assumption | exact ite01 _) (hp := ?_)
    first
    | exact Or.inl ⟨Or.inl (List.mem_of_getElem? hj), rfl, by rw [aput_old hnd hj]; exact Sx_fin (h := h48) (by simp; exact hn) (by rw [← aput_old hnd hj]; exact aput_keys hnd) (by rw [List.length_set]; exact hz48) hrp hdy hzd (by show h2.2 + 3 ≤ h48.2; omega) (List.getElem?_set_self hjl) (fun i u hij hu => by
        rw [List.getElem?_set_ne (Ne.symm hij)] at hu
        obtain ⟨q', a1, a2, a3, a4⟩ := g2 i u hu
        exact ⟨q', a1, a2, by omega, a4.same (fun b hb => (hsm b (by unfold At at hb; omega)).trans ((x_new_ne (by show b ≠ h2.2; unfold At at hb; omega) rfl).trans (hnew b (by unfold At at hb; omega))))⟩), hsz, fun b hb hb2 => (x_set_ne (by intro z9; apply hb2; unfold At; omega) rfl).trans ((hsm b hb).trans ((x_new_ne (by show b ≠ h2.2; omega) rfl).trans (hnew b (by intro z9; apply hb2; unfold At; omega))))⟩
    | exact Or.inr ⟨hno, by omega, rfl, rfl⟩
    | exact Or.inl ⟨Or.inr (by omega), rfl, by rw [aput_new hno]; exact Sx_fin (h := h48) (by simp; omega) (by rw [← aput_new hno]; exact aput_keys hnd) (by rw [List.length_append]; exact hz48) hrp hdy hzd (by show h2.2 + 3 ≤ h48.2; omega) (by simp) (fun i u hij hu => by
        have hil : i < ss.length := by
          have := (List.getElem?_eq_some_iff.mp hu).1
          simp at this
          omega
        rw [List.getElem?_append_left hil] at hu
        obtain ⟨q', a1, a2, a3, a4⟩ := g2 i u hu
        exact ⟨q', a1, a2, by omega, a4.same (fun b hb => (hsm b (by unfold At at hb; omega)).trans ((x_new_ne (by show b ≠ h2.2; unfold At at hb; omega) rfl).trans (hnew b (by unfold At at hb; omega))))⟩), hsz, fun b hb hb2 => (x_set_ne (by intro z9; apply hb2; unfold At; omega) rfl).trans ((hsm b hb).trans ((x_new_ne (by show b ≠ h2.2; omega) rfl).trans (hnew b (by intro z9; apply hb2; unfold At; omega))))⟩
set_option maxRecDepth 100000 in
set_option maxHeartbeats 4000000 in
theorem c_o_init (l : Launch) (G : xG) {h : xh} {r : Nat} (hr : h.1 r = some (eO 1 [.null, .null, .null, .null, .int 0])) (hn : h.2 = r + 1) : Ct l G yX1_init cX1_init 1 (Option.none : Option Jvm.ClassFile.FieldType) { frames := 1, cells := 4, slots := 160, locals := 16 } [.ref r] h (fun v h' => v = none ∧ Ft G h' r [] ∧ h'.2 = r + 5 ∧ ∀ b, b < r → h'.1 b = h.1 b) := by
  refine Ct.of [some (.ref r)] (by decide +kernel) (Nat.le_of_ble_eq_true rfl) (fun p e s m args below meth c bs C hini => ?_)
  refine x_aload_n C dX1_init_0 (kk := ?_)
  refine x_oinit C tw_26 dX1_init_1 tw_20 tw_21 (kk := ?_)
  refine x_aload_n C dX1_init_4 (kk := ?_)
  refine x_bipush C dX1_init_5 (v := 40) (kk := ?_)
  refine x_newi C 40 tw_37 dX1_init_7 (kk := ?_)
  refine x_putF C hini fp_X1_9 dX1_init_9 (kk := ?_)
  refine x_aload_n C dX1_init_12 (kk := ?_)
  refine x_bipush C dX1_init_13 (v := 40) (kk := ?_)
  refine x_newi C 40 tw_37 dX1_init_15 (kk := ?_)
  refine x_putF C hini fp_X1_15 dX1_init_17 (fs := [.ref (r + 1), .null, .null, .null, .int 0]) (hh := by simp [x_set, x_new, *] <;> omega) (kk := ?_)
  refine x_aload_n C dX1_init_20 (kk := ?_)
  refine x_bipush C dX1_init_21 (v := 40) (kk := ?_)
  refine x_newi C 40 tw_37 dX1_init_23 (kk := ?_)
  refine x_putF C hini fp_X1_18 dX1_init_25 (fs := [.ref (r + 1), .ref (r + 2), .null, .null, .int 0]) (hh := by simp [x_set, x_new, *] <;> omega) (kk := ?_)
  refine x_aload_n C dX1_init_28 (kk := ?_)
  refine x_bipush C dX1_init_29 (v := 40) (kk := ?_)
  refine x_newi C 40 tw_37 dX1_init_31 (kk := ?_)
  refine x_putF C hini fp_X1_21 dX1_init_33 (fs := [.ref (r + 1), .ref (r + 2), .ref (r + 3), .null, .int 0]) (hh := by simp [x_set, x_new, *] <;> omega) (kk := ?_)
  refine x_aload_n C dX1_init_36 (kk := ?_)
  refine x_iconst C dX1_init_37 (v := 0) (kk := ?_)
  refine x_put C fp_X1_24 dX1_init_38 (fs := [.ref (r + 1), .ref (r + 2), .ref (r + 3), .ref (r + 4), .int 0]) (hh := by simp [x_set, x_new, *] <;> omega) (kk := ?_)
  refine x_vret C rfl dX1_init_41 (hp := ?_)
  exact ⟨rfl, ⟨by simp, by simp, by simp, by simp [x_set, x_new, hn]; rfl, (fun _ => 0), (fun _ => 0), (fun _ => 0), (fun _ => 0), by simp [x_set, x_new, hn], by simp [x_set, x_new, hn], by simp [x_set, x_new, hn], by simp [x_set, x_new, hn], fL_nil _, fL_nil _, fL_nil _, fL_nil _⟩, by simp [x_set, x_new, hn], fun b hb => by simp [x_set, x_new, hn, show b ≠ r by omega, show b ≠ r + 1 by omega, show b ≠ r + 2 by omega, show b ≠ r + 3 by omega, show b ≠ r + 4 by omega]⟩
set_option maxRecDepth 100000 in
set_option maxHeartbeats 4000000 in
theorem c_p_init (l : Launch) (G : xG) {h : xh} {r : Nat} (hr : h.1 r = some (eO 2 [.null, .null, .null, .int 0])) (hn : h.2 = r + 1) : Ct l G yX2_init cX2_init 1 (Option.none : Option Jvm.ClassFile.FieldType) { frames := 1, cells := 3, slots := 60, locals := 16 } [.ref r] h (fun v h' => v = none ∧ Pt G h' r [] ∧ h'.2 = r + 4 ∧ ∀ b, b < r → h'.1 b = h.1 b) := by
  refine Ct.of [some (.ref r)] (by decide +kernel) (Nat.le_of_ble_eq_true rfl) (fun p e s m args below meth c bs C hini => ?_)
  refine x_aload_n C dX2_init_0 (kk := ?_)
  refine x_oinit C tw_42 dX2_init_1 tw_20 tw_21 (kk := ?_)
  refine x_aload_n C dX2_init_4 (kk := ?_)
  refine x_bipush C dX2_init_5 (v := 20) (kk := ?_)
  refine x_newi C 20 tw_37 dX2_init_7 (kk := ?_)
  refine x_putF C hini fp_X2_9 dX2_init_9 (kk := ?_)
  refine x_aload_n C dX2_init_12 (kk := ?_)
  refine x_bipush C dX2_init_13 (v := 20) (kk := ?_)
  refine x_newi C 20 tw_37 dX2_init_15 (kk := ?_)
  refine x_putF C hini fp_X2_15 dX2_init_17 (fs := [.ref (r + 1), .null, .null, .int 0]) (hh := by simp [x_set, x_new, *] <;> omega) (kk := ?_)
  refine x_aload_n C dX2_init_20 (kk := ?_)
  refine x_bipush C dX2_init_21 (v := 20) (kk := ?_)
  refine x_newi C 20 tw_37 dX2_init_23 (kk := ?_)
  refine x_putF C hini fp_X2_18 dX2_init_25 (fs := [.ref (r + 1), .ref (r + 2), .null, .int 0]) (hh := by simp [x_set, x_new, *] <;> omega) (kk := ?_)
  refine x_aload_n C dX2_init_28 (kk := ?_)
  refine x_iconst C dX2_init_29 (v := 0) (kk := ?_)
  refine x_put C fp_X2_21 dX2_init_30 (fs := [.ref (r + 1), .ref (r + 2), .ref (r + 3), .int 0]) (hh := by simp [x_set, x_new, *] <;> omega) (kk := ?_)
  refine x_vret C rfl dX2_init_33 (hp := ?_)
  exact ⟨rfl, ⟨by simp, by simp, by simp [x_set, x_new, hn]; rfl, (fun _ => 0), (fun _ => 0), (fun _ => 0), by simp [x_set, x_new, hn], by simp [x_set, x_new, hn], by simp [x_set, x_new, hn], fL_nil _, fL_nil _, fL_nil _⟩, by simp [x_set, x_new, hn], fun b hb => by simp [x_set, x_new, hn, show b ≠ r by omega, show b ≠ r + 1 by omega, show b ≠ r + 2 by omega, show b ≠ r + 3 by omega]⟩
set_option maxRecDepth 100000 in
set_option maxHeartbeats 4000000 in
theorem c_r_init (l : Launch) (G : xG) {h : xh} {r : Nat} (hr : h.1 r = some (eO 3 [.null, .null, .int 0])) (hn : h.2 = r + 1) : Ct l G yX3_init cX3_init 1 (Option.none : Option Jvm.ClassFile.FieldType) { frames := 1, cells := 2, slots := 16, locals := 16 } [.ref r] h (fun v h' => v = none ∧ Rt G h' r [] ∧ h'.2 = r + 3 ∧ ∀ b, b < r → h'.1 b = h.1 b) := by
  refine Ct.of [some (.ref r)] (by decide +kernel) (Nat.le_of_ble_eq_true rfl) (fun p e s m args below meth c bs C hini => ?_)
  refine x_aload_n C dX3_init_0 (kk := ?_)
  refine x_oinit C tw_64 dX3_init_1 tw_20 tw_21 (kk := ?_)
  refine x_aload_n C dX3_init_4 (kk := ?_)
  refine x_bipush C dX3_init_5 (v := 8) (kk := ?_)
  refine x_newi C 8 tw_37 dX3_init_7 (kk := ?_)
  refine x_putF C hini fp_X3_9 dX3_init_9 (kk := ?_)
  refine x_aload_n C dX3_init_12 (kk := ?_)
  refine x_bipush C dX3_init_13 (v := 8) (kk := ?_)
  refine x_newi C 8 tw_37 dX3_init_15 (kk := ?_)
  refine x_putF C hini fp_X3_15 dX3_init_17 (fs := [.ref (r + 1), .null, .int 0]) (hh := by simp [x_set, x_new, *] <;> omega) (kk := ?_)
  refine x_aload_n C dX3_init_20 (kk := ?_)
  refine x_iconst C dX3_init_21 (v := 0) (kk := ?_)
  refine x_put C fp_X3_18 dX3_init_22 (fs := [.ref (r + 1), .ref (r + 2), .int 0]) (hh := by simp [x_set, x_new, *] <;> omega) (kk := ?_)
  refine x_vret C rfl dX3_init_25 (hp := ?_)
  exact ⟨rfl, ⟨by simp, by simp [x_set, x_new, hn]; rfl, (fun _ => 0), (fun _ => 0), by simp [x_set, x_new, hn], by simp [x_set, x_new, hn], fL_nil _, fL_nil _⟩, by simp [x_set, x_new, hn], fun b hb => by simp [x_set, x_new, hn, show b ≠ r by omega, show b ≠ r + 1 by omega, show b ≠ r + 2 by omega]⟩
set_option maxRecDepth 100000 in
set_option maxHeartbeats 4000000 in
theorem c_z_init (l : Launch) (G : xG) {h : xh} {r : Nat} (hr : h.1 r = some (eO 7 [.null, .int 0])) (hn : h.2 = r + 1) : Ct l G yX7_init cX7_init 1 (Option.none : Option Jvm.ClassFile.FieldType) { frames := 1, cells := 1, slots := 10, locals := 16 } [.ref r] h (fun v h' => v = none ∧ Zt G h' r [] ∧ h'.2 = r + 2 ∧ ∀ b, b < r → h'.1 b = h.1 b) := by
  refine Ct.of [some (.ref r)] (by decide +kernel) (Nat.le_of_ble_eq_true rfl) (fun p e s m args below meth c bs C hini => ?_)
  refine x_aload_n C dX7_init_0 (kk := ?_)
  refine x_oinit C tw_55 dX7_init_1 tw_20 tw_21 (kk := ?_)
  refine x_aload_n C dX7_init_4 (kk := ?_)
  refine x_bipush C dX7_init_5 (v := 10) (kk := ?_)
  refine x_newi C 10 tw_37 dX7_init_7 (kk := ?_)
  refine x_putF C hini fp_X7_9 dX7_init_9 (kk := ?_)
  refine x_aload_n C dX7_init_12 (kk := ?_)
  refine x_iconst C dX7_init_13 (v := 0) (kk := ?_)
  refine x_put C fp_X7_15 dX7_init_14 (fs := [.ref (r + 1), .int 0]) (hh := by simp [x_set, x_new, *] <;> omega) (kk := ?_)
  refine x_vret C rfl dX7_init_17 (hp := ?_)
  exact ⟨rfl, ⟨by simp, by simp [x_set, x_new, hn]; rfl, (fun _ => 0), by simp [x_set, x_new, hn], fL_nil _⟩, by simp [x_set, x_new, hn], fun b hb => by simp [x_set, x_new, hn, show b ≠ r by omega, show b ≠ r + 1 by omega]⟩
set_option maxRecDepth 100000 in
set_option maxHeartbeats 4000000 in
theorem c_s_init (l : Launch) (G : xG) {h : xh} {r dy : Nat} (hr : h.1 r = some (eO 6 [.null, .int 0])) (hn : h.2 = r + 1) : Ct l G yX6_init cX6_init 1 (Option.none : Option Jvm.ClassFile.FieldType) { frames := 1, cells := 1, slots := 20, locals := 16 } [.ref r] h (fun v h' => v = none ∧ Sx G h' r dy [] ∧ h'.2 = r + 2 ∧ ∀ b, b < r → h'.1 b = h.1 b) := by
  refine Ct.of [some (.ref r)] (by decide +kernel) (Nat.le_of_ble_eq_true rfl) (fun p e s m args below meth c bs C hini => ?_)
  refine x_aload_n C dX6_init_0 (kk := ?_)
  refine x_oinit C tw_75 dX6_init_1 tw_20 tw_21 (kk := ?_)
  refine x_aload_n C dX6_init_4 (kk := ?_)
  refine x_bipush C dX6_init_5 (v := 20) (kk := ?_)
  refine x_newr C (t := 2) (cn := RX4) 20 rfl (fun U k => k.2.2.2) tw_76 dX6_init_7 (kk := ?_)
  refine x_putF C hini fp_X6_11 dX6_init_10 (kk := ?_)
  refine x_aload_n C dX6_init_13 (kk := ?_)
  refine x_iconst C dX6_init_14 (v := 0) (kk := ?_)
  refine x_put C fp_X6_17 dX6_init_15 (fs := [.ref (r + 1), .int 0]) (hh := by simp [x_set, x_new, *] <;> omega) (kk := ?_)
  refine x_vret C rfl dX6_init_18 (hp := ?_)
  exact ⟨rfl, ⟨by simp, by simp, by simp [x_set, x_new, hn]; rfl, (fun _ => none), by simp [x_set, x_new, hn], fun j w hw => by simp at hw⟩, by simp [x_set, x_new, hn], fun b hb => by simp [x_set, x_new, hn, show b ≠ r by omega, show b ≠ r + 1 by omega]⟩
end
section
/-! THE FILTERS OF THE CLASS, ONE ROW TO ANOTHER -/
abbrev co (x : Nat) (dsz mk : Int32) (la s1 s2 : Nat) : List Value := [.ref (x + 1), .int dsz, .int mk, .ref (x + 2), .ref (x + 7), .ref (x + 11), .ref (x + 13), .ref (x + 16), .ref (x + 18), .ref (x + 19), .ref la, .ref s1, .ref s2]
def PA (ro fa : Nat) : Nat → Prop := fun b => At ro 4 b ∨ b = fa
theorem Fa.fr {h h' : xh} {a : Nat} {kd rl sm sg rm rg : Int32} {A : Nat → Prop} (k : Fa h a kd rl sm sg rm rg) (f : Fr A h h') (hd : ¬ A a) : Fa h' a kd rl sm sg rm rg := f.at hd k
theorem Rp.ne {G : xG} {h : xh} {q fa : Nat} {w : Sr} {kd rl sm sg rm rg : Int32} (k : Rp G h q w) (hF : Fa h fa kd rl sm sg rm rg) : ∀ b, At q 3 b → b ≠ fa := by
  intro b hb e
  subst e
  unfold Fa at hF
  obtain ⟨-, -, -, h3, f, g, h4, h5, -⟩ := k
  have : b = q ∨ b = q + 1 ∨ b = q + 2 := by unfold At at hb; omega
  rcases this with rfl | rfl | rfl
  · rw [hF] at h3; simp [eO] at h3
  · rw [hF] at h4; simp [eO, eI] at h4
  · rw [hF] at h5; simp [eO, eI] at h5
theorem Sx.pa {G : xG} {h h' : xh} {x dy ro fa : Nat} {ss : List Sr} {kd rl sm sg rm rg : Int32} (k : Sx G h (x + 16) dy ss) (hF : Fa h fa kd rl sm sg rm rg) (hdy : x + 35 ≤ dy) (hro : x + 19 ≤ ro ∧ ro + 4 ≤ x + 35) (hfa : x + 35 ≤ fa) (f : Fr (PA ro fa) h h') : Sx G h' (x + 16) dy ss :=
  k.same (Nat.le_of_eq f.1.symm) (fun b hb => f.2 b (by unfold PA At at *; omega)) (fun q h1 h2 w hw => hw.same (fun b hb => f.2 b (fun z => z.elim (fun z => by unfold At at hb z; omega) (fun z => hw.ne hF b hb z))))
def PPost (G : xG) (ts : TS) (K rl : Int32) (q : List Sg) (h : xh) (ro fa : Nat) (sm sg : Int32) (v : Option Value) (h' : xh) : Prop := Fr (PA ro fa) h h' ∧ ((v = some (.int 1) ∧ (pas ts K rl q).1.length ≤ 300 ∧ Rw G h' ro (pas ts K rl q).1 ∧ Fa h' fa K rl sm sg (pas ts K rl q).2.1 (pas ts K rl q).2.2) ∨ (v = some (.int 0) ∧ 300 < (pas ts K rl q).1.length ∧ (∃ w, Rw G h' ro w) ∧ ∃ rm rg, Fa h' fa K rl sm sg rm rg))
def PInv (G : xG) (ts : TS) (K rl : Int32) (q : List Sg) (h : xh) (ro fa : Nat) (sm sg : Int32) (i : Nat) (h1 : xh) : Prop := Fr (PA ro fa) h h1 ∧ Rw G h1 ro (pasN ts K rl q i).1.1 ∧ Fa h1 fa K rl sm sg (pasN ts K rl q i).1.2.1 (pasN ts K rl q i).1.2.2
def PBad (G : xG) (ts : TS) (K rl : Int32) (q : List Sg) (h : xh) (ro fa : Nat) (sm sg : Int32) (i : Nat) (h1 : xh) : Prop := Fr (PA ro fa) h h1 ∧ i ≤ q.length ∧ 300 < (pasN ts K rl q i).1.1.length ∧ (∃ w, Rw G h1 ro w) ∧ ∃ rm rg, Fa h1 fa K rl sm sg rm rg
theorem PInv.post {G : xG} {ts : TS} {K rl : Int32} {q : List Sg} {h h1 : xh} {ro fa : Nat} {sm sg : Int32} {i : Nat} (k : PInv G ts K rl q h ro fa sm sg i h1) (hi : i = q.length) : PPost G ts K rl q h ro fa sm sg (some (.int 1)) h1 := by
  subst hi
  exact ⟨k.1, Or.inl ⟨rfl, k.2.1.1, k.2.1, k.2.2⟩⟩
theorem PBad.post {G : xG} {ts : TS} {K rl : Int32} {q : List Sg} {h h1 : xh} {ro fa : Nat} {sm sg : Int32} {i : Nat} (k : PBad G ts K rl q h ro fa sm sg i h1) : PPost G ts K rl q h ro fa sm sg (some (.int 0)) h1 :=
  ⟨k.1, Or.inr ⟨rfl, Nat.lt_of_lt_of_le k.2.2.1 (pasN_le k.2.1), k.2.2.2⟩⟩
theorem stp0 (ts : TS) (rl : Int32) (q : List Sg) (i : Nat) (a : Ac) (x : Sg) : stp ts 0 rl q i a x = (stFold ts.1 a.1 x, a.2) := rfl
theorem stp1 (ts : TS) (rl : Int32) (q : List Sg) (i : Nat) (a : Ac) (x : Sg) : stp ts 1 rl q i a x = (stComp ts.2.1 a.1 x, a.2) := rfl
theorem stp2 (ts : TS) (rl : Int32) (q : List Sg) (i : Nat) (a : Ac) (x : Sg) : stp ts 2 rl q i a x = (stDig ts.2.2.1 a.1 x, a.2) := rfl
theorem stp3 (ts : TS) (rl : Int32) (q : List Sg) (i : Nat) (a : Ac) (x : Sg) : stp ts 3 rl q i a x = (stDrop ts.2.2.2.1 a.1 x, a.2) := rfl
theorem stp4 (ts : TS) (rl : Int32) (q : List Sg) (i : Nat) (a : Ac) (x : Sg) : stp ts 4 rl q i a x = (if i < a.2 then a else match longest ts.2.2.2.2 (q.map (·.1)) i with
    | none => ((a.1.1 ++ [x], a.1.2), a.2)
    | some s => ((a.1.1 ++ s.2.map (fun v => (v, x.2.1, ((q[i + s.1.length - 1]?).map (·.2.2)).getD 0)), a.1.2.1 + 1, a.1.2.2), i + s.1.length)) := rfl
theorem stp5 (ts : TS) (rl : Int32) (q : List Sg) (i : Nat) (a : Ac) (x : Sg) : stp ts 5 rl q i a x = (stHalf rl a.1 x, a.2) := rfl
theorem stp6 (ts : TS) (rl : Int32) (q : List Sg) (i : Nat) (a : Ac) (x : Sg) : stp ts 6 rl q i a x = (stWide a.1 x, a.2) := rfl
theorem PInv.add {G : xG} {ts : TS} {K rl : Int32} {q acc : List Sg} {h h8 h9 : xh} {ro fa : Nat} {sm sg met gr : Int32} {i : Nat} {y : Sg} {v : Option Value} (hi : i < q.length) (f8 : Fr (PA ro fa) h h8) (hr8 : Rw G h8 ro acc) (hF8 : Fa h8 fa K rl sm sg met gr) (hst : (pasN ts K rl q (i + 1)).1 = (acc ++ [y], met, gr)) (hfr : ¬ At ro 4 fa)
    (hp : (acc.length < 300 ∧ v = some (.int 1) ∧ Rw G h9 ro (acc ++ [y]) ∧ Fr (At ro 4) h8 h9) ∨ (acc.length = 300 ∧ v = some (.int 0) ∧ h9 = h8)) : (v = some (.int 1) ∧ PInv G ts K rl q h ro fa sm sg (i + 1) h9) ∨ (v = some (.int 0) ∧ PBad G ts K rl q h ro fa sm sg (i + 1) h9) := by
  rcases hp with ⟨-, h1, h2, h3⟩ | ⟨h1, h2, rfl⟩
  · exact Or.inl ⟨h1, f8.tr (h3.mono (fun b z => Or.inl z)), by rw [hst]; exact h2, by rw [hst]; exact hF8.fr h3 hfr⟩
  · exact Or.inr ⟨h2, f8, hi, by rw [hst]; simp [h1], ⟨_, hr8⟩, _, _, hF8⟩
theorem PInv.keep {G : xG} {ts : TS} {K rl : Int32} {q acc : List Sg} {h h8 : xh} {ro fa : Nat} {sm sg met gr : Int32} {i : Nat} (f8 : Fr (PA ro fa) h h8) (hr8 : Rw G h8 ro acc) (hF8 : Fa h8 fa K rl sm sg met gr) (hst : (pasN ts K rl q (i + 1)).1 = (acc, met, gr)) : PInv G ts K rl q h ro fa sm sg (i + 1) h8 :=
  ⟨f8, by rw [hst]; exact hr8, by rw [hst]; exact hF8⟩
theorem nI_sub1 {n : Nat} (h : 0 < n) : nI n - 1 = nI (n - 1) := by
  obtain ⟨k, rfl⟩ : ∃ k, n = k + 1 := ⟨n - 1, by omega⟩
  exact nI_pred k
theorem narD_no {v : Int32} (h : narD v = -1) : ¬ (65281 ≤ v ∧ v ≤ 65374) ∧ ¬ v = 12288 := by
  refine ⟨fun z => ?_, fun z => ?_⟩
  · unfold narD at h
    rw [if_pos z] at h
    have h0 : ¬ v < 0 := fun q => by
      have := z.1
      simp only [Int32.lt_iff_toInt_lt, Int32.le_iff_toInt_le, Int32.reduceToInt] at *
      omega
    obtain ⟨j, hj, rfl⟩ := nI_of2 (n := 65374) (M := 65374) (by decide) h0 z.2
    have hj2 : 65248 ≤ j := by
      have h1 : nI 65281 ≤ nI j := z.1
      have := (nI_leI (by omega) (by omega)).mp h1
      omega
    have e : nI j - 65248 = nI (j - 65248) := pk_sub (b := 65248) hj2
    rw [e] at h
    exact nI_m1 (by omega) h
  · subst z
    exact absurd h (by decide)
theorem wide_no {v : Sg} {a : List Sg × Int32 × Int32} (h : narD v.1 = -1) : stWide a v = (a.1 ++ [v], a.2) := by
  unfold stWide
  rw [if_neg (narD_no h).1, if_neg (narD_no h).2]
theorem wide_yes {v : Sg} {a : List Sg × Int32 × Int32} (h : ¬ narD v.1 = -1) : stWide a v = (a.1 ++ [(narD v.1, v.2)], a.2.1 + 1, a.2.2) := by
  unfold stWide
  unfold narD at h ⊢
  by_cases h1 : 65281 ≤ v.1 ∧ v.1 ≤ 65374
  · simp only [if_pos h1]
  · by_cases h2 : v.1 = 12288
    · simp only [if_neg h1, if_pos h2]
    · rw [if_neg h1, if_neg h2] at h
      exact absurd rfl h
set_option maxRecDepth 100000 in
set_option maxHeartbeats 4000000 in
theorem c_row_add3 (l : Launch) (G : xG) {h : xh} {r : Nat} {q : List Sg} (a b d : Int32) (hr : Rw G h r q) : Ct l G yX5_add cX5_add 4 (Option.some Jvm.ClassFile.FieldType.boolean) { frames := 0, cells := 0, slots := 0, locals := 0 } [.ref r, .int a, .int b, .int d] h (fun v h' => (q.length < 300 ∧ v = some (.int 1) ∧ Rw G h' r (q ++ [(a, b, d)]) ∧ Fr (At r 4) h h') ∨ (q.length = 300 ∧ v = some (.int 0) ∧ h' = h)) := by
  exact c_row_add l G (a, b, d) hr
theorem half_hi {v : Int32} (h : 55296 ≤ v ∧ v ≤ 56319) : 55296 ≤ v ∧ v ≤ 57343 := by
  simp only [Int32.le_iff_toInt_le, Int32.reduceToInt] at *
  omega
theorem half_lo {v : Int32} (h : 56320 ≤ v ∧ v ≤ 57343) : 55296 ≤ v ∧ v ≤ 57343 := by
  simp only [Int32.le_iff_toInt_le, Int32.reduceToInt] at *
  omega
theorem half_no {v : Int32} (h : ¬ (55296 ≤ v ∧ v ≤ 56319)) (h2 : ¬ (56320 ≤ v ∧ v ≤ 57343)) : ¬ (55296 ≤ v ∧ v ≤ 57343) := by
  simp only [Int32.le_iff_toInt_le, Int32.reduceToInt] at *
  omega
set_option maxRecDepth 100000 in
set_option maxHeartbeats 4000000 in
theorem c_x_digits (l : Launch) (G : xG) {h : xh} {x fa ri ro : Nat} {dsz mk sm sg rl : Int32} {la s1 s2 : Nat} {q : List Sg} (ts : TS) (hO : h.1 x = some (eO 8 (co x dsz mk la s1 s2))) (hri : x + 19 ≤ ri ∧ ri + 4 ≤ x + 35) (hro : x + 19 ≤ ro ∧ ro + 4 ≤ x + 35) (hd : ri + 4 ≤ ro ∨ ro + 4 ≤ ri) (hfa : x + 35 ≤ fa) (hin : Rw G h ri q) (hout : Rw G h ro []) (hF : Fa h fa 2 rl sm sg 0 0) (hz : Zt G h (x + 11) ts.2.2.1) : Ct l G yX8_passDigits cX8_passDigits 8 (Option.some Jvm.ClassFile.FieldType.boolean) { frames := 2, cells := 0, slots := 0, locals := 42 } [.ref x, .ref fa, .ref ri, .ref ro] h (fun v h' => PPost G ts 2 rl q h ro fa sm sg v h') := by
  have hnd : ∀ b, At ri 4 b → ¬ PA ro fa b := fun b z1 z2 => by unfold PA At at *; omega
  have hnx : ¬ PA ro fa x := fun z2 => by unfold PA At at *; omega
  have hql := hin.1
  refine Ct.of [some (.ref x), some (.ref fa), some (.ref ri), some (.ref ro), none, none, none, none] (by decide +kernel) (Nat.le_of_ble_eq_true rfl) (fun p e s m args below meth c bs C hini => ?_)
  have fail : ∀ (i : Nat) (h1 : xh), PBad G ts 2 rl q h ro fa sm sg i h1 → X p l e { frames := 2, cells := 0, slots := 0, locals := 42 } s m args below meth c G bs (MQ below (x_Q G bs (fun v h' => PPost G ts 2 rl q h ro fa sm sg v h')) args s 0 0 (fun q => bs ≤ q)) 0 0 6 [some (.ref x), some (.ref fa), some (.ref ri), some (.ref ro), some (.int 0), some (.int (nI i)), none, none] [] h1 := by
    intro i h1 hb
    have hil := hb.2.1
    have hin1 := hin.fr hb.1 hnd
    have hio1 := hin1.ob
    refine x_iload C dX8_passDigits_6 (kk := ?_)
    refine x_aload_n C dX8_passDigits_8 (kk := ?_)
    refine x_callV C ml_X5_size lk_X8_85 (c_row_size l G hin1) dX8_passDigits_9 (fun r9 h9 hp9 => ?_)
    obtain ⟨rfl, rfl⟩ := hp9
    refine x_ncmp_ge C i q.length dX8_passDigits_12 83 (fun hc12 => ?_) (fun hc12 => ?_)
    · refine x_iload C dX8_passDigits_83 (kk := ?_)
      refine x_zret C rfl dX8_passDigits_85 (by first | exact Or.inl rfl | exact Or.inr rfl | assumption | exact ite01 _) (hp := ?_)
      exact hb.post
    · refine x_iload C dX8_passDigits_15 (kk := ?_)
      refine x_if_eq C dX8_passDigits_17 83 (fun hc17 => ?_) (fun hc17 => ?_)
      · refine x_iload C dX8_passDigits_83 (kk := ?_)
        refine x_zret C rfl dX8_passDigits_85 (by first | exact Or.inl rfl | exact Or.inr rfl | assumption | exact ite01 _) (hp := ?_)
        exact hb.post
      · exact absurd rfl hc17
  have loop : ∀ (n i : Nat) (h1 : xh), q.length - i < n → i ≤ q.length → PInv G ts 2 rl q h ro fa sm sg i h1 → X p l e { frames := 2, cells := 0, slots := 0, locals := 42 } s m args below meth c G bs (MQ below (x_Q G bs (fun v h' => PPost G ts 2 rl q h ro fa sm sg v h')) args s 0 0 (fun q => bs ≤ q)) 0 0 6 [some (.ref x), some (.ref fa), some (.ref ri), some (.ref ro), some (.int 1), some (.int (nI i)), none, none] [] h1 := by
    intro n
    induction n with
    | zero => intro i h1 hn; omega
    | succ n ih =>
      intro i h1 hn hi hinv
      have hf := hinv.1
      have ho1 := hinv.2.1
      have hF1 := hinv.2.2
      have hfo1 : h1.1 fa = _ := hF1
      have hin1 := hin.fr hf hnd
      have hio1 := hin1.ob
      have hoo1 := ho1.ob
      have hO1 := hf.at hnx hO
      have zt1 := hz.fr hf (fun b z1 z2 => by unfold PA At at *; omega)
      have hzo1 := zt1.2.1

      refine x_iload C dX8_passDigits_6 (kk := ?_)
      refine x_aload_n C dX8_passDigits_8 (kk := ?_)
      refine x_callV C ml_X5_size lk_X8_85 (c_row_size l G hin1) dX8_passDigits_9 (fun r9 h9 hp9 => ?_)
      obtain ⟨rfl, rfl⟩ := hp9
      refine x_ncmp_ge C i q.length dX8_passDigits_12 83 (fun hcz => ?_) (fun hcz => ?_)
      · refine x_iload C dX8_passDigits_83 (kk := ?_)
        refine x_zret C rfl dX8_passDigits_85 (Or.inr rfl) (hp := ?_)
        exact hinv.post (by omega)
      obtain ⟨v, hv⟩ : ∃ v, q[i]? = some v := ⟨q[i], List.getElem?_eq_getElem hcz⟩
      have hst := (pasN_at (ts := ts) (kind := 2) (rule := rl) hv).trans (stp2 ts rl q i _ v)
      refine x_iload C dX8_passDigits_15 (kk := ?_)
      refine x_if_eq C dX8_passDigits_17 83 (fun hc17 => ?_) (fun hc17 => ?_)
      · exact absurd hc17 (by decide)
      · refine x_aload_n C dX8_passDigits_20 (kk := ?_)
        refine x_iload C dX8_passDigits_21 (kk := ?_)
        refine x_callV C ml_X5_signAt lk_X8_147 (c_row_signAt l G hv hin1) dX8_passDigits_23 (fun r23 h23 hp23 => ?_)
        obtain ⟨rfl, rfl⟩ := hp23
        refine x_istore C dX8_passDigits_26 (kk := ?_)
        refine x_aload_n C dX8_passDigits_28 (kk := ?_)
        refine x_get C fl_X8_37 dX8_passDigits_29 (kk := ?_)
        refine x_iload C dX8_passDigits_32 (kk := ?_)
        refine x_callV C ml_X7_digitOf lk_X8_173 (c_z_digitOf l G v.1 zt1) dX8_passDigits_34 (fun r34 h34 hp34 => ?_)
        obtain ⟨rfl, rfl⟩ := hp34
        refine x_istore C dX8_passDigits_37 (kk := ?_)
        refine x_iload C dX8_passDigits_39 (kk := ?_)
        refine x_bipush C dX8_passDigits_41 (v := -9) (kk := ?_)
        refine x_icmp_eq C dX8_passDigits_43 57 (fun hc43 => ?_) (fun hc43 => ?_)
        · have hst2 : (pasN ts 2 rl q (i + 1)).1 = ((pasN ts 2 rl q i).1.1 ++ [v], (pasN ts 2 rl q i).1.2.1, (pasN ts 2 rl q i).1.2.2) := by rw [hst]; show stDig _ _ _ = _; unfold stDig; rw [if_pos hc43]
          have hin8 := hin1
          have ho8 := ho1
          have hF8 := hF1
          have f8 := hf
          have hO8 := hO1
          have hoo8 := hoo1
          have hio8 := hio1
          have hy : v.1 = v.1 := rfl
          refine x_aload_n C dX8_passDigits_57 (kk := ?_)
          refine x_iload C dX8_passDigits_58 (kk := ?_)
          refine x_aload_n C dX8_passDigits_60 (kk := ?_)
          refine x_iload C dX8_passDigits_61 (kk := ?_)
          refine x_callV C ml_X5_beginAt lk_X8_154 (c_row_beginAt l G hv hin8) dX8_passDigits_63 (fun r63 h63 hp63 => ?_)
          obtain ⟨rfl, rfl⟩ := hp63
          refine x_aload_n C dX8_passDigits_66 (kk := ?_)
          refine x_iload C dX8_passDigits_67 (kk := ?_)
          refine x_callV C ml_X5_endAt lk_X8_151 (c_row_endAt l G hv hin8) dX8_passDigits_69 (fun r69 h69 hp69 => ?_)
          obtain ⟨rfl, rfl⟩ := hp69
          refine x_callV C ml_X5_add lk_X8_199 (c_row_add3 l G _ v.2.1 v.2.2 ho8) dX8_passDigits_72 (fun r72 h72 hp72 => ?_)
          rcases PInv.add hcz f8 ho8 hF8 hst2 (by unfold At; omega) hp72 with ⟨rfl, hinv2⟩ | ⟨rfl, hbad⟩
          rotate_left
          · skip
            refine x_istore C dX8_passDigits_75 (kk := ?_)
            refine x_iinc1 C dX8_passDigits_77 (kk := ?_)
            refine x_goto C dX8_passDigits_80 6 ?_
            refine x_fg 6 ?_
            refine x_fg 7 ?_
            first | exact ih (i + 1) _ (by omega) (by omega) hinv2 | exact fail (i + 1) _ hbad
          refine x_istore C dX8_passDigits_75 (kk := ?_)
          refine x_iinc1 C dX8_passDigits_77 (kk := ?_)
          refine x_goto C dX8_passDigits_80 6 ?_
          refine x_fg 6 ?_
          refine x_fg 7 ?_
          first | exact ih (i + 1) _ (by omega) (by omega) hinv2 | exact fail (i + 1) _ hbad
        have hst2 : (pasN ts 2 rl q (i + 1)).1 = ((pasN ts 2 rl q i).1.1 ++ [(48 + zdig ts.2.2.1 v.1, v.2)], (pasN ts 2 rl q i).1.2.1 + 1, (pasN ts 2 rl q i).1.2.2) := by rw [hst]; show stDig _ _ _ = _; unfold stDig; rw [if_neg hc43]
        refine x_aload_n C dX8_passDigits_46 (kk := ?_)
        refine x_callV C ml_X0_meetOne lk_X8_228 (c_f_meet l G hF1) dX8_passDigits_47 (fun r47 h47 hp47 => ?_)
        obtain ⟨rfl, hF8, hfr8⟩ := hp47
        have hin8 := hin1.fr hfr8 (fun b z1 z2 => by unfold At at *; omega)
        have ho8 := ho1.fr hfr8 (fun b z1 z2 => by unfold At at *; omega)
        have f8 := hf.tr (hfr8.mono (fun b z => Or.inr (by unfold At at z; omega)))
        have hoo8 := ho8.ob
        have hio8 := hin8.ob
        have hO8 := hfr8.at (by unfold At; omega) hO1
        refine x_bipush C dX8_passDigits_50 (v := 48) (kk := ?_)
        refine x_iload C dX8_passDigits_52 (kk := ?_)
        refine x_iadd C dX8_passDigits_54 ?_
        refine x_istore C dX8_passDigits_55 (kk := ?_)
        refine x_aload_n C dX8_passDigits_57 (kk := ?_)
        refine x_iload C dX8_passDigits_58 (kk := ?_)
        refine x_aload_n C dX8_passDigits_60 (kk := ?_)
        refine x_iload C dX8_passDigits_61 (kk := ?_)
        refine x_callV C ml_X5_beginAt lk_X8_154 (c_row_beginAt l G hv hin8) dX8_passDigits_63 (fun r63 h63 hp63 => ?_)
        obtain ⟨rfl, rfl⟩ := hp63
        refine x_aload_n C dX8_passDigits_66 (kk := ?_)
        refine x_iload C dX8_passDigits_67 (kk := ?_)
        refine x_callV C ml_X5_endAt lk_X8_151 (c_row_endAt l G hv hin8) dX8_passDigits_69 (fun r69 h69 hp69 => ?_)
        obtain ⟨rfl, rfl⟩ := hp69
        refine x_callV C ml_X5_add lk_X8_199 (c_row_add3 l G _ v.2.1 v.2.2 ho8) dX8_passDigits_72 (fun r72 h72 hp72 => ?_)
        rcases PInv.add hcz f8 ho8 hF8 hst2 (by unfold At; omega) hp72 with ⟨rfl, hinv2⟩ | ⟨rfl, hbad⟩
        rotate_left
        · skip
          refine x_istore C dX8_passDigits_75 (kk := ?_)
          refine x_iinc1 C dX8_passDigits_77 (kk := ?_)
          refine x_goto C dX8_passDigits_80 6 ?_
          refine x_fg 6 ?_
          refine x_fg 7 ?_
          first | exact ih (i + 1) _ (by omega) (by omega) hinv2 | exact fail (i + 1) _ hbad
        refine x_istore C dX8_passDigits_75 (kk := ?_)
        refine x_iinc1 C dX8_passDigits_77 (kk := ?_)
        refine x_goto C dX8_passDigits_80 6 ?_
        refine x_fg 6 ?_
        refine x_fg 7 ?_
        first | exact ih (i + 1) _ (by omega) (by omega) hinv2 | exact fail (i + 1) _ hbad
  refine x_iconst C dX8_passDigits_0 (v := 1) (kk := ?_)
  refine x_istore C dX8_passDigits_1 (kk := ?_)
  refine x_iconst C dX8_passDigits_3 (v := 0) (kk := ?_)
  refine x_istore C dX8_passDigits_4 (kk := ?_)
  exact loop (q.length + 1) 0 h (by omega) (by omega) ⟨Fr.rf, hout, hF⟩
set_option maxRecDepth 100000 in
set_option maxHeartbeats 4000000 in
theorem c_x_dropping (l : Launch) (G : xG) {h : xh} {x fa ri ro : Nat} {dsz mk sm sg rl : Int32} {la s1 s2 : Nat} {q : List Sg} (ts : TS) (hO : h.1 x = some (eO 8 (co x dsz mk la s1 s2))) (hri : x + 19 ≤ ri ∧ ri + 4 ≤ x + 35) (hro : x + 19 ≤ ro ∧ ro + 4 ≤ x + 35) (hd : ri + 4 ≤ ro ∨ ro + 4 ≤ ri) (hfa : x + 35 ≤ fa) (hin : Rw G h ri q) (hout : Rw G h ro []) (hF : Fa h fa 3 rl sm sg 0 0) (hz : Rt G h (x + 13) ts.2.2.2.1) : Ct l G yX8_passDropping cX8_passDropping 6 (Option.some Jvm.ClassFile.FieldType.boolean) { frames := 2, cells := 0, slots := 0, locals := 42 } [.ref x, .ref fa, .ref ri, .ref ro] h (fun v h' => PPost G ts 3 rl q h ro fa sm sg v h') := by
  have hnd : ∀ b, At ri 4 b → ¬ PA ro fa b := fun b z1 z2 => by unfold PA At at *; omega
  have hnx : ¬ PA ro fa x := fun z2 => by unfold PA At at *; omega
  have hql := hin.1
  refine Ct.of [some (.ref x), some (.ref fa), some (.ref ri), some (.ref ro), none, none] (by decide +kernel) (Nat.le_of_ble_eq_true rfl) (fun p e s m args below meth c bs C hini => ?_)
  have fail : ∀ (i : Nat) (h1 : xh), PBad G ts 3 rl q h ro fa sm sg i h1 → X p l e { frames := 2, cells := 0, slots := 0, locals := 42 } s m args below meth c G bs (MQ below (x_Q G bs (fun v h' => PPost G ts 3 rl q h ro fa sm sg v h')) args s 0 0 (fun q => bs ≤ q)) 0 0 6 [some (.ref x), some (.ref fa), some (.ref ri), some (.ref ro), some (.int 0), some (.int (nI i))] [] h1 := by
    intro i h1 hb
    have hil := hb.2.1
    have hin1 := hin.fr hb.1 hnd
    have hio1 := hin1.ob
    refine x_iload C dX8_passDropping_6 (kk := ?_)
    refine x_aload_n C dX8_passDropping_8 (kk := ?_)
    refine x_callV C ml_X5_size lk_X8_85 (c_row_size l G hin1) dX8_passDropping_9 (fun r9 h9 hp9 => ?_)
    obtain ⟨rfl, rfl⟩ := hp9
    refine x_ncmp_ge C i q.length dX8_passDropping_12 73 (fun hc12 => ?_) (fun hc12 => ?_)
    · refine x_iload C dX8_passDropping_73 (kk := ?_)
      refine x_zret C rfl dX8_passDropping_75 (by first | exact Or.inl rfl | exact Or.inr rfl | assumption | exact ite01 _) (hp := ?_)
      exact hb.post
    · refine x_iload C dX8_passDropping_15 (kk := ?_)
      refine x_if_eq C dX8_passDropping_17 73 (fun hc17 => ?_) (fun hc17 => ?_)
      · refine x_iload C dX8_passDropping_73 (kk := ?_)
        refine x_zret C rfl dX8_passDropping_75 (by first | exact Or.inl rfl | exact Or.inr rfl | assumption | exact ite01 _) (hp := ?_)
        exact hb.post
      · exact absurd rfl hc17
  have loop : ∀ (n i : Nat) (h1 : xh), q.length - i < n → i ≤ q.length → PInv G ts 3 rl q h ro fa sm sg i h1 → X p l e { frames := 2, cells := 0, slots := 0, locals := 42 } s m args below meth c G bs (MQ below (x_Q G bs (fun v h' => PPost G ts 3 rl q h ro fa sm sg v h')) args s 0 0 (fun q => bs ≤ q)) 0 0 6 [some (.ref x), some (.ref fa), some (.ref ri), some (.ref ro), some (.int 1), some (.int (nI i))] [] h1 := by
    intro n
    induction n with
    | zero => intro i h1 hn; omega
    | succ n ih =>
      intro i h1 hn hi hinv
      have hf := hinv.1
      have ho1 := hinv.2.1
      have hF1 := hinv.2.2
      have hfo1 : h1.1 fa = _ := hF1
      have hin1 := hin.fr hf hnd
      have hio1 := hin1.ob
      have hoo1 := ho1.ob
      have hO1 := hf.at hnx hO
      have rt1 := hz.fr hf (fun b z1 z2 => by unfold PA At at *; omega)
      have hzo1 := rt1.2.1

      refine x_iload C dX8_passDropping_6 (kk := ?_)
      refine x_aload_n C dX8_passDropping_8 (kk := ?_)
      refine x_callV C ml_X5_size lk_X8_85 (c_row_size l G hin1) dX8_passDropping_9 (fun r9 h9 hp9 => ?_)
      obtain ⟨rfl, rfl⟩ := hp9
      refine x_ncmp_ge C i q.length dX8_passDropping_12 73 (fun hcz => ?_) (fun hcz => ?_)
      · refine x_iload C dX8_passDropping_73 (kk := ?_)
        refine x_zret C rfl dX8_passDropping_75 (Or.inr rfl) (hp := ?_)
        exact hinv.post (by omega)
      obtain ⟨v, hv⟩ : ∃ v, q[i]? = some v := ⟨q[i], List.getElem?_eq_getElem hcz⟩
      have hst := (pasN_at (ts := ts) (kind := 3) (rule := rl) hv).trans (stp3 ts rl q i _ v)
      refine x_iload C dX8_passDropping_15 (kk := ?_)
      refine x_if_eq C dX8_passDropping_17 73 (fun hc17 => ?_) (fun hc17 => ?_)
      · exact absurd hc17 (by decide)
      · refine x_aload_n C dX8_passDropping_20 (kk := ?_)
        refine x_get C fl_X8_44 dX8_passDropping_21 (kk := ?_)
        refine x_aload_n C dX8_passDropping_24 (kk := ?_)
        refine x_iload C dX8_passDropping_25 (kk := ?_)
        refine x_callV C ml_X5_signAt lk_X8_147 (c_row_signAt l G hv hin1) dX8_passDropping_27 (fun r27 h27 hp27 => ?_)
        obtain ⟨rfl, rfl⟩ := hp27
        refine x_callV C ml_X3_holds lk_X8_250 (c_r_holds l G v.1 rt1) dX8_passDropping_30 (fun r30 h30 hp30 => ?_)
        obtain ⟨rfl, rfl⟩ := hp30
        refine x_ifB_eq C dX8_passDropping_33 43 (fun hc33 => ?_) (fun hc33 => ?_)
        · have hst2 : (pasN ts 3 rl q (i + 1)).1 = ((pasN ts 3 rl q i).1.1 ++ [v], (pasN ts 3 rl q i).1.2.1, (pasN ts 3 rl q i).1.2.2) := by rw [hst]; show stDrop _ _ _ = _; unfold stDrop; rw [if_neg hc33]
          have hin8 := hin1
          have ho8 := ho1
          have hF8 := hF1
          have f8 := hf
          have hO8 := hO1
          have hoo8 := hoo1
          have hio8 := hio1
          refine x_aload_n C dX8_passDropping_43 (kk := ?_)
          refine x_aload_n C dX8_passDropping_44 (kk := ?_)
          refine x_iload C dX8_passDropping_45 (kk := ?_)
          refine x_callV C ml_X5_signAt lk_X8_147 (c_row_signAt l G hv hin8) dX8_passDropping_47 (fun r47 h47 hp47 => ?_)
          obtain ⟨rfl, rfl⟩ := hp47
          refine x_aload_n C dX8_passDropping_50 (kk := ?_)
          refine x_iload C dX8_passDropping_51 (kk := ?_)
          refine x_callV C ml_X5_beginAt lk_X8_154 (c_row_beginAt l G hv hin8) dX8_passDropping_53 (fun r53 h53 hp53 => ?_)
          obtain ⟨rfl, rfl⟩ := hp53
          refine x_aload_n C dX8_passDropping_56 (kk := ?_)
          refine x_iload C dX8_passDropping_57 (kk := ?_)
          refine x_callV C ml_X5_endAt lk_X8_151 (c_row_endAt l G hv hin8) dX8_passDropping_59 (fun r59 h59 hp59 => ?_)
          obtain ⟨rfl, rfl⟩ := hp59
          refine x_callV C ml_X5_add lk_X8_199 (c_row_add l G v ho8) dX8_passDropping_62 (fun r62 h62 hp62 => ?_)
          rcases PInv.add hcz f8 ho8 hF8 hst2 (by unfold At; omega) hp62 with ⟨rfl, hinv2⟩ | ⟨rfl, hbad⟩
          rotate_left
          · skip
            refine x_istore C dX8_passDropping_65 (kk := ?_)
            refine x_iinc1 C dX8_passDropping_67 (kk := ?_)
            refine x_goto C dX8_passDropping_70 6 ?_
            first | exact ih (i + 1) _ (by omega) (by omega) hinv2 | exact fail (i + 1) _ hbad
          refine x_istore C dX8_passDropping_65 (kk := ?_)
          refine x_iinc1 C dX8_passDropping_67 (kk := ?_)
          refine x_goto C dX8_passDropping_70 6 ?_
          first | exact ih (i + 1) _ (by omega) (by omega) hinv2 | exact fail (i + 1) _ hbad
        have hst2 : (pasN ts 3 rl q (i + 1)).1 = ((pasN ts 3 rl q i).1.1, (pasN ts 3 rl q i).1.2.1 + 1, (pasN ts 3 rl q i).1.2.2) := by rw [hst]; show stDrop _ _ _ = _; unfold stDrop; rw [if_pos hc33]
        refine x_aload_n C dX8_passDropping_36 (kk := ?_)
        refine x_callV C ml_X0_meetOne lk_X8_228 (c_f_meet l G hF1) dX8_passDropping_37 (fun r37 h37 hp37 => ?_)
        obtain ⟨rfl, hF8, hfr8⟩ := hp37
        have hin8 := hin1.fr hfr8 (fun b z1 z2 => by unfold At at *; omega)
        have ho8 := ho1.fr hfr8 (fun b z1 z2 => by unfold At at *; omega)
        have f8 := hf.tr (hfr8.mono (fun b z => Or.inr (by unfold At at z; omega)))
        have hoo8 := ho8.ob
        have hio8 := hin8.ob
        have hO8 := hfr8.at (by unfold At; omega) hO1
        have hinv2 := PInv.keep f8 ho8 hF8 hst2
        refine x_goto C dX8_passDropping_40 67 ?_
        refine x_iinc1 C dX8_passDropping_67 (kk := ?_)
        refine x_goto C dX8_passDropping_70 6 ?_
        first | exact ih (i + 1) _ (by omega) (by omega) hinv2 | exact fail (i + 1) _ hbad
  refine x_iconst C dX8_passDropping_0 (v := 1) (kk := ?_)
  refine x_istore C dX8_passDropping_1 (kk := ?_)
  refine x_iconst C dX8_passDropping_3 (v := 0) (kk := ?_)
  refine x_istore C dX8_passDropping_4 (kk := ?_)
  exact loop (q.length + 1) 0 h (by omega) (by omega) ⟨Fr.rf, hout, hF⟩
set_option maxRecDepth 100000 in
set_option maxHeartbeats 4000000 in
theorem c_x_widths (l : Launch) (G : xG) {h : xh} {x fa ri ro : Nat} {dsz mk sm sg rl : Int32} {la s1 s2 : Nat} {q : List Sg} (ts : TS) (hO : h.1 x = some (eO 8 (co x dsz mk la s1 s2))) (hri : x + 19 ≤ ri ∧ ri + 4 ≤ x + 35) (hro : x + 19 ≤ ro ∧ ro + 4 ≤ x + 35) (hd : ri + 4 ≤ ro ∨ ro + 4 ≤ ri) (hfa : x + 35 ≤ fa) (hin : Rw G h ri q) (hout : Rw G h ro []) (hF : Fa h fa 6 rl sm sg 0 0)  : Ct l G yX8_passWidths cX8_passWidths 8 (Option.some Jvm.ClassFile.FieldType.boolean) { frames := 2, cells := 0, slots := 0, locals := 42 } [.ref x, .ref fa, .ref ri, .ref ro] h (fun v h' => PPost G ts 6 rl q h ro fa sm sg v h') := by
  have hnd : ∀ b, At ri 4 b → ¬ PA ro fa b := fun b z1 z2 => by unfold PA At at *; omega
  have hnx : ¬ PA ro fa x := fun z2 => by unfold PA At at *; omega
  have hql := hin.1
  refine Ct.of [some (.ref x), some (.ref fa), some (.ref ri), some (.ref ro), none, none, none, none] (by decide +kernel) (Nat.le_of_ble_eq_true rfl) (fun p e s m args below meth c bs C hini => ?_)
  have fail : ∀ (i : Nat) (h1 : xh), PBad G ts 6 rl q h ro fa sm sg i h1 → X p l e { frames := 2, cells := 0, slots := 0, locals := 42 } s m args below meth c G bs (MQ below (x_Q G bs (fun v h' => PPost G ts 6 rl q h ro fa sm sg v h')) args s 0 0 (fun q => bs ≤ q)) 0 0 6 [some (.ref x), some (.ref fa), some (.ref ri), some (.ref ro), some (.int 0), some (.int (nI i)), none, none] [] h1 := by
    intro i h1 hb
    have hil := hb.2.1
    have hin1 := hin.fr hb.1 hnd
    have hio1 := hin1.ob
    refine x_iload C dX8_passWidths_6 (kk := ?_)
    refine x_aload_n C dX8_passWidths_8 (kk := ?_)
    refine x_callV C ml_X5_size lk_X8_85 (c_row_size l G hin1) dX8_passWidths_9 (fun r9 h9 hp9 => ?_)
    obtain ⟨rfl, rfl⟩ := hp9
    refine x_ncmp_ge C i q.length dX8_passWidths_12 75 (fun hc12 => ?_) (fun hc12 => ?_)
    · refine x_iload C dX8_passWidths_75 (kk := ?_)
      refine x_zret C rfl dX8_passWidths_77 (by first | exact Or.inl rfl | exact Or.inr rfl | assumption | exact ite01 _) (hp := ?_)
      exact hb.post
    · refine x_iload C dX8_passWidths_15 (kk := ?_)
      refine x_if_eq C dX8_passWidths_17 75 (fun hc17 => ?_) (fun hc17 => ?_)
      · refine x_iload C dX8_passWidths_75 (kk := ?_)
        refine x_zret C rfl dX8_passWidths_77 (by first | exact Or.inl rfl | exact Or.inr rfl | assumption | exact ite01 _) (hp := ?_)
        exact hb.post
      · exact absurd rfl hc17
  have loop : ∀ (n i : Nat) (h1 : xh), q.length - i < n → i ≤ q.length → PInv G ts 6 rl q h ro fa sm sg i h1 → X p l e { frames := 2, cells := 0, slots := 0, locals := 42 } s m args below meth c G bs (MQ below (x_Q G bs (fun v h' => PPost G ts 6 rl q h ro fa sm sg v h')) args s 0 0 (fun q => bs ≤ q)) 0 0 6 [some (.ref x), some (.ref fa), some (.ref ri), some (.ref ro), some (.int 1), some (.int (nI i)), none, none] [] h1 := by
    intro n
    induction n with
    | zero => intro i h1 hn; omega
    | succ n ih =>
      intro i h1 hn hi hinv
      have hf := hinv.1
      have ho1 := hinv.2.1
      have hF1 := hinv.2.2
      have hfo1 : h1.1 fa = _ := hF1
      have hin1 := hin.fr hf hnd
      have hio1 := hin1.ob
      have hoo1 := ho1.ob
      have hO1 := hf.at hnx hO
      have hzz : True := trivial

      refine x_iload C dX8_passWidths_6 (kk := ?_)
      refine x_aload_n C dX8_passWidths_8 (kk := ?_)
      refine x_callV C ml_X5_size lk_X8_85 (c_row_size l G hin1) dX8_passWidths_9 (fun r9 h9 hp9 => ?_)
      obtain ⟨rfl, rfl⟩ := hp9
      refine x_ncmp_ge C i q.length dX8_passWidths_12 75 (fun hcz => ?_) (fun hcz => ?_)
      · refine x_iload C dX8_passWidths_75 (kk := ?_)
        refine x_zret C rfl dX8_passWidths_77 (Or.inr rfl) (hp := ?_)
        exact hinv.post (by omega)
      obtain ⟨v, hv⟩ : ∃ v, q[i]? = some v := ⟨q[i], List.getElem?_eq_getElem hcz⟩
      have hst := (pasN_at (ts := ts) (kind := 6) (rule := rl) hv).trans (stp6 ts rl q i _ v)
      refine x_iload C dX8_passWidths_15 (kk := ?_)
      refine x_if_eq C dX8_passWidths_17 75 (fun hc17 => ?_) (fun hc17 => ?_)
      · exact absurd hc17 (by decide)
      · refine x_aload_n C dX8_passWidths_20 (kk := ?_)
        refine x_iload C dX8_passWidths_21 (kk := ?_)
        refine x_callV C ml_X5_signAt lk_X8_147 (c_row_signAt l G hv hin1) dX8_passWidths_23 (fun r23 h23 hp23 => ?_)
        obtain ⟨rfl, rfl⟩ := hp23
        refine x_istore C dX8_passWidths_26 (kk := ?_)
        refine x_iload C dX8_passWidths_28 (kk := ?_)
        refine x_callS C ml_X8_narrowed lk_X8_267 (c_narrowed l G v.1) dX8_passWidths_30 (fun r30 h30 hp30 => ?_)
        obtain ⟨rfl, rfl⟩ := hp30
        refine x_istore C dX8_passWidths_33 (kk := ?_)
        refine x_iload C dX8_passWidths_35 (kk := ?_)
        refine x_iconst C dX8_passWidths_37 (v := -1) (kk := ?_)
        refine x_icmp_eq C dX8_passWidths_38 49 (fun hc38 => ?_) (fun hc38 => ?_)
        · have hst2 : (pasN ts 6 rl q (i + 1)).1 = ((pasN ts 6 rl q i).1.1 ++ [v], (pasN ts 6 rl q i).1.2.1, (pasN ts 6 rl q i).1.2.2) := by rw [hst]; show stWide _ _ = _; exact wide_no hc38
          have hin8 := hin1
          have ho8 := ho1
          have hF8 := hF1
          have f8 := hf
          have hO8 := hO1
          have hoo8 := hoo1
          have hio8 := hio1
          refine x_aload_n C dX8_passWidths_49 (kk := ?_)
          refine x_iload C dX8_passWidths_50 (kk := ?_)
          refine x_aload_n C dX8_passWidths_52 (kk := ?_)
          refine x_iload C dX8_passWidths_53 (kk := ?_)
          refine x_callV C ml_X5_beginAt lk_X8_154 (c_row_beginAt l G hv hin8) dX8_passWidths_55 (fun r55 h55 hp55 => ?_)
          obtain ⟨rfl, rfl⟩ := hp55
          refine x_aload_n C dX8_passWidths_58 (kk := ?_)
          refine x_iload C dX8_passWidths_59 (kk := ?_)
          refine x_callV C ml_X5_endAt lk_X8_151 (c_row_endAt l G hv hin8) dX8_passWidths_61 (fun r61 h61 hp61 => ?_)
          obtain ⟨rfl, rfl⟩ := hp61
          refine x_callV C ml_X5_add lk_X8_199 (c_row_add3 l G _ v.2.1 v.2.2 ho8) dX8_passWidths_64 (fun r64 h64 hp64 => ?_)
          rcases PInv.add hcz f8 ho8 hF8 hst2 (by unfold At; omega) hp64 with ⟨rfl, hinv2⟩ | ⟨rfl, hbad⟩
          rotate_left
          · skip
            refine x_istore C dX8_passWidths_67 (kk := ?_)
            refine x_iinc1 C dX8_passWidths_69 (kk := ?_)
            refine x_goto C dX8_passWidths_72 6 ?_
            refine x_fg 6 ?_
            refine x_fg 7 ?_
            first | exact ih (i + 1) _ (by omega) (by omega) hinv2 | exact fail (i + 1) _ hbad
          refine x_istore C dX8_passWidths_67 (kk := ?_)
          refine x_iinc1 C dX8_passWidths_69 (kk := ?_)
          refine x_goto C dX8_passWidths_72 6 ?_
          refine x_fg 6 ?_
          refine x_fg 7 ?_
          first | exact ih (i + 1) _ (by omega) (by omega) hinv2 | exact fail (i + 1) _ hbad
        have hst2 : (pasN ts 6 rl q (i + 1)).1 = ((pasN ts 6 rl q i).1.1 ++ [(narD v.1, v.2)], (pasN ts 6 rl q i).1.2.1 + 1, (pasN ts 6 rl q i).1.2.2) := by rw [hst]; show stWide _ _ = _; exact wide_yes hc38
        refine x_aload_n C dX8_passWidths_41 (kk := ?_)
        refine x_callV C ml_X0_meetOne lk_X8_228 (c_f_meet l G hF1) dX8_passWidths_42 (fun r42 h42 hp42 => ?_)
        obtain ⟨rfl, hF8, hfr8⟩ := hp42
        have hin8 := hin1.fr hfr8 (fun b z1 z2 => by unfold At at *; omega)
        have ho8 := ho1.fr hfr8 (fun b z1 z2 => by unfold At at *; omega)
        have f8 := hf.tr (hfr8.mono (fun b z => Or.inr (by unfold At at z; omega)))
        have hoo8 := ho8.ob
        have hio8 := hin8.ob
        have hO8 := hfr8.at (by unfold At; omega) hO1
        refine x_iload C dX8_passWidths_45 (kk := ?_)
        refine x_istore C dX8_passWidths_47 (kk := ?_)
        refine x_aload_n C dX8_passWidths_49 (kk := ?_)
        refine x_iload C dX8_passWidths_50 (kk := ?_)
        refine x_aload_n C dX8_passWidths_52 (kk := ?_)
        refine x_iload C dX8_passWidths_53 (kk := ?_)
        refine x_callV C ml_X5_beginAt lk_X8_154 (c_row_beginAt l G hv hin8) dX8_passWidths_55 (fun r55 h55 hp55 => ?_)
        obtain ⟨rfl, rfl⟩ := hp55
        refine x_aload_n C dX8_passWidths_58 (kk := ?_)
        refine x_iload C dX8_passWidths_59 (kk := ?_)
        refine x_callV C ml_X5_endAt lk_X8_151 (c_row_endAt l G hv hin8) dX8_passWidths_61 (fun r61 h61 hp61 => ?_)
        obtain ⟨rfl, rfl⟩ := hp61
        refine x_callV C ml_X5_add lk_X8_199 (c_row_add3 l G _ v.2.1 v.2.2 ho8) dX8_passWidths_64 (fun r64 h64 hp64 => ?_)
        rcases PInv.add hcz f8 ho8 hF8 hst2 (by unfold At; omega) hp64 with ⟨rfl, hinv2⟩ | ⟨rfl, hbad⟩
        rotate_left
        · skip
          refine x_istore C dX8_passWidths_67 (kk := ?_)
          refine x_iinc1 C dX8_passWidths_69 (kk := ?_)
          refine x_goto C dX8_passWidths_72 6 ?_
          refine x_fg 6 ?_
          refine x_fg 7 ?_
          first | exact ih (i + 1) _ (by omega) (by omega) hinv2 | exact fail (i + 1) _ hbad
        refine x_istore C dX8_passWidths_67 (kk := ?_)
        refine x_iinc1 C dX8_passWidths_69 (kk := ?_)
        refine x_goto C dX8_passWidths_72 6 ?_
        refine x_fg 6 ?_
        refine x_fg 7 ?_
        first | exact ih (i + 1) _ (by omega) (by omega) hinv2 | exact fail (i + 1) _ hbad
  refine x_iconst C dX8_passWidths_0 (v := 1) (kk := ?_)
  refine x_istore C dX8_passWidths_1 (kk := ?_)
  refine x_iconst C dX8_passWidths_3 (v := 0) (kk := ?_)
  refine x_istore C dX8_passWidths_4 (kk := ?_)
  exact loop (q.length + 1) 0 h (by omega) (by omega) ⟨Fr.rf, hout, hF⟩
end
section
/-! THE FILTERS OF THE CLASS, II -/
set_option maxRecDepth 100000 in
set_option maxHeartbeats 4000000 in
theorem c_x_halves (l : Launch) (G : xG) {h : xh} {x fa ri ro : Nat} {dsz mk sm sg rl : Int32} {la s1 s2 : Nat} {q : List Sg} (ts : TS) (hO : h.1 x = some (eO 8 (co x dsz mk la s1 s2))) (hri : x + 19 ≤ ri ∧ ri + 4 ≤ x + 35) (hro : x + 19 ≤ ro ∧ ro + 4 ≤ x + 35) (hd : ri + 4 ≤ ro ∨ ro + 4 ≤ ri) (hfa : x + 35 ≤ fa) (hin : Rw G h ri q) (hout : Rw G h ro []) (hF : Fa h fa 5 rl sm sg 0 0)  : Ct l G yX8_passHalves cX8_passHalves 8 (Option.some Jvm.ClassFile.FieldType.boolean) { frames := 2, cells := 0, slots := 0, locals := 42 } [.ref x, .ref fa, .ref ri, .ref ro] h (fun v h' => PPost G ts 5 rl q h ro fa sm sg v h') := by
  have hnd : ∀ b, At ri 4 b → ¬ PA ro fa b := fun b z1 z2 => by unfold PA At at *; omega
  have hnx : ¬ PA ro fa x := fun z2 => by unfold PA At at *; omega
  have hql := hin.1
  refine Ct.of [some (.ref x), some (.ref fa), some (.ref ri), some (.ref ro), none, none, none, none] (by decide +kernel) (Nat.le_of_ble_eq_true rfl) (fun p e s m args below meth c bs C hini => ?_)
  have fail : ∀ (i : Nat) (h1 : xh), PBad G ts 5 rl q h ro fa sm sg i h1 → X p l e { frames := 2, cells := 0, slots := 0, locals := 42 } s m args below meth c G bs (MQ below (x_Q G bs (fun v h' => PPost G ts 5 rl q h ro fa sm sg v h')) args s 0 0 (fun q => bs ≤ q)) 0 0 6 [some (.ref x), some (.ref fa), some (.ref ri), some (.ref ro), some (.int 0), some (.int (nI i)), none, none] [] h1 := by
    intro i h1 hb
    have hil := hb.2.1
    have hin1 := hin.fr hb.1 hnd
    have hio1 := hin1.ob
    refine x_iload C dX8_passHalves_6 (kk := ?_)
    refine x_aload_n C dX8_passHalves_8 (kk := ?_)
    refine x_callV C ml_X5_size lk_X8_85 (c_row_size l G hin1) dX8_passHalves_9 (fun r9 h9 hp9 => ?_)
    obtain ⟨rfl, rfl⟩ := hp9
    refine x_ncmp_ge C i q.length dX8_passHalves_12 115 (fun hc12 => ?_) (fun hc12 => ?_)
    · refine x_iload C dX8_passHalves_115 (kk := ?_)
      refine x_zret C rfl dX8_passHalves_117 (by first | exact Or.inl rfl | exact Or.inr rfl | assumption | exact ite01 _) (hp := ?_)
      exact hb.post
    · refine x_iload C dX8_passHalves_15 (kk := ?_)
      refine x_if_eq C dX8_passHalves_17 115 (fun hc17 => ?_) (fun hc17 => ?_)
      · refine x_iload C dX8_passHalves_115 (kk := ?_)
        refine x_zret C rfl dX8_passHalves_117 (by first | exact Or.inl rfl | exact Or.inr rfl | assumption | exact ite01 _) (hp := ?_)
        exact hb.post
      · exact absurd rfl hc17
  have loop : ∀ (n i : Nat) (h1 : xh), q.length - i < n → i ≤ q.length → PInv G ts 5 rl q h ro fa sm sg i h1 → X p l e { frames := 2, cells := 0, slots := 0, locals := 42 } s m args below meth c G bs (MQ below (x_Q G bs (fun v h' => PPost G ts 5 rl q h ro fa sm sg v h')) args s 0 0 (fun q => bs ≤ q)) 0 0 6 [some (.ref x), some (.ref fa), some (.ref ri), some (.ref ro), some (.int 1), some (.int (nI i)), none, none] [] h1 := by
    intro n
    induction n with
    | zero => intro i h1 hn; omega
    | succ n ih =>
      intro i h1 hn hi hinv
      have hf := hinv.1
      have ho1 := hinv.2.1
      have hF1 := hinv.2.2
      have hfo1 : h1.1 fa = _ := hF1
      have hin1 := hin.fr hf hnd
      have hio1 := hin1.ob
      have hoo1 := ho1.ob
      have hO1 := hf.at hnx hO
      have hfo2 : h1.1 fa = some (eO 0 [.int 5, .int rl, .int sm, .int sg, .int (pasN ts 5 rl q i).1.2.1, .int (pasN ts 5 rl q i).1.2.2]) := hF1

      refine x_iload C dX8_passHalves_6 (kk := ?_)
      refine x_aload_n C dX8_passHalves_8 (kk := ?_)
      refine x_callV C ml_X5_size lk_X8_85 (c_row_size l G hin1) dX8_passHalves_9 (fun r9 h9 hp9 => ?_)
      obtain ⟨rfl, rfl⟩ := hp9
      refine x_ncmp_ge C i q.length dX8_passHalves_12 115 (fun hcz => ?_) (fun hcz => ?_)
      · refine x_iload C dX8_passHalves_115 (kk := ?_)
        refine x_zret C rfl dX8_passHalves_117 (Or.inr rfl) (hp := ?_)
        exact hinv.post (by omega)
      obtain ⟨v, hv⟩ : ∃ v, q[i]? = some v := ⟨q[i], List.getElem?_eq_getElem hcz⟩
      have hst := (pasN_at (ts := ts) (kind := 5) (rule := rl) hv).trans (stp5 ts rl q i _ v)
      refine x_iload C dX8_passHalves_15 (kk := ?_)
      refine x_if_eq C dX8_passHalves_17 115 (fun hc17 => ?_) (fun hc17 => ?_)
      · exact absurd hc17 (by decide)
      · refine x_aload_n C dX8_passHalves_20 (kk := ?_)
        refine x_iload C dX8_passHalves_21 (kk := ?_)
        refine x_callV C ml_X5_signAt lk_X8_147 (c_row_signAt l G hv hin1) dX8_passHalves_23 (fun r23 h23 hp23 => ?_)
        obtain ⟨rfl, rfl⟩ := hp23
        refine x_istore C dX8_passHalves_26 (kk := ?_)
        refine x_iconst C dX8_passHalves_28 (v := 0) (kk := ?_)
        refine x_istore C dX8_passHalves_29 (kk := ?_)
        refine x_iload C dX8_passHalves_31 (kk := ?_)
        refine x_callS C ml_X8_isHigh lk_X8_193 (c_isHigh l G v.1) dX8_passHalves_33 (fun r33 h33 hp33 => ?_)
        obtain ⟨rfl, rfl⟩ := hp33
        refine x_ifB_ne C dX8_passHalves_36 47 (fun hc36 => ?_) (fun hc36 => ?_)
        · refine x_aload_n C dX8_passHalves_47 (kk := ?_)
          refine x_callV C ml_X0_meetOne lk_X8_228 (c_f_meet l G hF1) dX8_passHalves_48 (fun r48 h48 hp48 => ?_)
          obtain ⟨rfl, hF8, hfr8⟩ := hp48
          have hin8 := hin1.fr hfr8 (fun b z1 z2 => by unfold At at *; omega)
          have ho8 := ho1.fr hfr8 (fun b z1 z2 => by unfold At at *; omega)
          have f8 := hf.tr (hfr8.mono (fun b z => Or.inr (by unfold At at z; omega)))
          have hoo8 := ho8.ob
          have hio8 := hin8.ob
          have hO8 := hfr8.at (by unfold At; omega) hO1
          have hfo8 : h48.1 fa = some (eO 0 [.int 5, .int rl, .int sm, .int sg, .int ((pasN ts 5 rl q i).1.2.1 + 1), .int (pasN ts 5 rl q i).1.2.2]) := hF8
          have hh : 55296 ≤ v.1 ∧ v.1 ≤ 57343 := by first | exact half_hi hc36 | exact half_lo hc44
          refine x_aload_n C dX8_passHalves_51 (kk := ?_)
          refine x_get C fl_X8_127 dX8_passHalves_52 (kk := ?_)
          refine x_iconst C dX8_passHalves_55 (v := 2) (kk := ?_)
          refine x_icmp_ne C dX8_passHalves_56 63 (fun hc56 => ?_) (fun hc56 => ?_)
          · refine x_iconst C dX8_passHalves_63 (v := 0) (kk := ?_)
            refine x_istore C dX8_passHalves_64 (kk := ?_)
            refine x_aload_n C dX8_passHalves_66 (kk := ?_)
            refine x_get C fl_X8_127 dX8_passHalves_67 (kk := ?_)
            refine x_iconst C dX8_passHalves_70 (v := 1) (kk := ?_)
            refine x_icmp_ne C dX8_passHalves_71 80 (fun hc71 => ?_) (fun hc71 => ?_)
            · refine x_iload C dX8_passHalves_80 (kk := ?_)
              refine x_istore C dX8_passHalves_82 (kk := ?_)
              refine x_iload C dX8_passHalves_84 (kk := ?_)
              refine x_if_ne C dX8_passHalves_86 109 (fun hc86 => absurd rfl hc86) (fun hc86 => ?_)
              have hst2 : (pasN ts 5 rl q (i + 1)).1 = ((pasN ts 5 rl q i).1.1 ++ [(v.1, v.2)], (pasN ts 5 rl q i).1.2.1 + 1, (pasN ts 5 rl q i).1.2.2) := by rw [hst]; show stHalf rl _ _ = _; unfold stHalf; rw [if_pos hh, if_neg hc56, if_neg hc71]
              refine x_aload_n C dX8_passHalves_89 (kk := ?_)
              refine x_iload C dX8_passHalves_90 (kk := ?_)
              refine x_aload_n C dX8_passHalves_92 (kk := ?_)
              refine x_iload C dX8_passHalves_93 (kk := ?_)
              refine x_callV C ml_X5_beginAt lk_X8_154 (c_row_beginAt l G hv hin8) dX8_passHalves_95 (fun r95 h95 hp95 => ?_)
              obtain ⟨rfl, rfl⟩ := hp95
              refine x_aload_n C dX8_passHalves_98 (kk := ?_)
              refine x_iload C dX8_passHalves_99 (kk := ?_)
              refine x_callV C ml_X5_endAt lk_X8_151 (c_row_endAt l G hv hin8) dX8_passHalves_101 (fun r101 h101 hp101 => ?_)
              obtain ⟨rfl, rfl⟩ := hp101
              refine x_callV C ml_X5_add lk_X8_199 (c_row_add3 l G _ v.2.1 v.2.2 ho8) dX8_passHalves_104 (fun r104 h104 hp104 => ?_)
              rcases PInv.add hcz f8 ho8 hF8 hst2 (by unfold At; omega) hp104 with ⟨rfl, hinv2⟩ | ⟨rfl, hbad⟩
              rotate_left
              · skip
                refine x_istore C dX8_passHalves_107 (kk := ?_)
                refine x_iinc1 C dX8_passHalves_109 (kk := ?_)
                refine x_goto C dX8_passHalves_112 6 ?_
                refine x_fg 6 ?_
                refine x_fg 7 ?_
                first | exact ih (i + 1) _ (by omega) (by omega) hinv2 | exact fail (i + 1) _ hbad
              refine x_istore C dX8_passHalves_107 (kk := ?_)
              refine x_iinc1 C dX8_passHalves_109 (kk := ?_)
              refine x_goto C dX8_passHalves_112 6 ?_
              refine x_fg 6 ?_
              refine x_fg 7 ?_
              first | exact ih (i + 1) _ (by omega) (by omega) hinv2 | exact fail (i + 1) _ hbad
            · refine x_ldcw C tw_425 dX8_passHalves_74 ?_
              refine x_goto C dX8_passHalves_77 82 ?_
              refine x_istore C dX8_passHalves_82 (kk := ?_)
              refine x_iload C dX8_passHalves_84 (kk := ?_)
              refine x_if_ne C dX8_passHalves_86 109 (fun hc86 => absurd rfl hc86) (fun hc86 => ?_)
              have hst2 : (pasN ts 5 rl q (i + 1)).1 = ((pasN ts 5 rl q i).1.1 ++ [(65533, v.2)], (pasN ts 5 rl q i).1.2.1 + 1, (pasN ts 5 rl q i).1.2.2) := by rw [hst]; show stHalf rl _ _ = _; unfold stHalf; rw [if_pos hh, if_neg hc56, if_pos hc71]
              refine x_aload_n C dX8_passHalves_89 (kk := ?_)
              refine x_iload C dX8_passHalves_90 (kk := ?_)
              refine x_aload_n C dX8_passHalves_92 (kk := ?_)
              refine x_iload C dX8_passHalves_93 (kk := ?_)
              refine x_callV C ml_X5_beginAt lk_X8_154 (c_row_beginAt l G hv hin8) dX8_passHalves_95 (fun r95 h95 hp95 => ?_)
              obtain ⟨rfl, rfl⟩ := hp95
              refine x_aload_n C dX8_passHalves_98 (kk := ?_)
              refine x_iload C dX8_passHalves_99 (kk := ?_)
              refine x_callV C ml_X5_endAt lk_X8_151 (c_row_endAt l G hv hin8) dX8_passHalves_101 (fun r101 h101 hp101 => ?_)
              obtain ⟨rfl, rfl⟩ := hp101
              refine x_callV C ml_X5_add lk_X8_199 (c_row_add3 l G _ v.2.1 v.2.2 ho8) dX8_passHalves_104 (fun r104 h104 hp104 => ?_)
              rcases PInv.add hcz f8 ho8 hF8 hst2 (by unfold At; omega) hp104 with ⟨rfl, hinv2⟩ | ⟨rfl, hbad⟩
              rotate_left
              · skip
                refine x_istore C dX8_passHalves_107 (kk := ?_)
                refine x_iinc1 C dX8_passHalves_109 (kk := ?_)
                refine x_goto C dX8_passHalves_112 6 ?_
                refine x_fg 6 ?_
                refine x_fg 7 ?_
                first | exact ih (i + 1) _ (by omega) (by omega) hinv2 | exact fail (i + 1) _ hbad
              refine x_istore C dX8_passHalves_107 (kk := ?_)
              refine x_iinc1 C dX8_passHalves_109 (kk := ?_)
              refine x_goto C dX8_passHalves_112 6 ?_
              refine x_fg 6 ?_
              refine x_fg 7 ?_
              first | exact ih (i + 1) _ (by omega) (by omega) hinv2 | exact fail (i + 1) _ hbad
          · refine x_iconst C dX8_passHalves_59 (v := 1) (kk := ?_)
            refine x_goto C dX8_passHalves_60 64 ?_
            refine x_istore C dX8_passHalves_64 (kk := ?_)
            refine x_aload_n C dX8_passHalves_66 (kk := ?_)
            refine x_get C fl_X8_127 dX8_passHalves_67 (kk := ?_)
            refine x_iconst C dX8_passHalves_70 (v := 1) (kk := ?_)
            refine x_icmp_ne C dX8_passHalves_71 80 (fun hc71 => ?_) (fun hc71 => ?_)
            · refine x_iload C dX8_passHalves_80 (kk := ?_)
              refine x_istore C dX8_passHalves_82 (kk := ?_)
              refine x_iload C dX8_passHalves_84 (kk := ?_)
              refine x_if_ne C dX8_passHalves_86 109 (fun hc86 => ?_) (fun hc86 => absurd hc86 (by decide))
              have hst2 : (pasN ts 5 rl q (i + 1)).1 = ((pasN ts 5 rl q i).1.1, (pasN ts 5 rl q i).1.2.1 + 1, (pasN ts 5 rl q i).1.2.2) := by rw [hst]; show stHalf rl _ _ = _; unfold stHalf; rw [if_pos hh, if_pos hc56]
              have hinv2 := PInv.keep f8 ho8 hF8 hst2
              refine x_iinc1 C dX8_passHalves_109 (kk := ?_)
              refine x_goto C dX8_passHalves_112 6 ?_
              refine x_fg 6 ?_
              refine x_fg 7 ?_
              first | exact ih (i + 1) _ (by omega) (by omega) hinv2 | exact fail (i + 1) _ hbad
            · refine x_ldcw C tw_425 dX8_passHalves_74 ?_
              refine x_goto C dX8_passHalves_77 82 ?_
              refine x_istore C dX8_passHalves_82 (kk := ?_)
              refine x_iload C dX8_passHalves_84 (kk := ?_)
              refine x_if_ne C dX8_passHalves_86 109 (fun hc86 => ?_) (fun hc86 => absurd hc86 (by decide))
              have hst2 : (pasN ts 5 rl q (i + 1)).1 = ((pasN ts 5 rl q i).1.1, (pasN ts 5 rl q i).1.2.1 + 1, (pasN ts 5 rl q i).1.2.2) := by rw [hst]; show stHalf rl _ _ = _; unfold stHalf; rw [if_pos hh, if_pos hc56]
              have hinv2 := PInv.keep f8 ho8 hF8 hst2
              refine x_iinc1 C dX8_passHalves_109 (kk := ?_)
              refine x_goto C dX8_passHalves_112 6 ?_
              refine x_fg 6 ?_
              refine x_fg 7 ?_
              first | exact ih (i + 1) _ (by omega) (by omega) hinv2 | exact fail (i + 1) _ hbad
        · refine x_iload C dX8_passHalves_39 (kk := ?_)
          refine x_callS C ml_X8_isLow lk_X8_196 (c_isLow l G v.1) dX8_passHalves_41 (fun r41 h41 hp41 => ?_)
          obtain ⟨rfl, rfl⟩ := hp41
          refine x_ifB_eq C dX8_passHalves_44 84 (fun hc44 => ?_) (fun hc44 => ?_)
          · have hst2 : (pasN ts 5 rl q (i + 1)).1 = ((pasN ts 5 rl q i).1.1 ++ [v], (pasN ts 5 rl q i).1.2.1, (pasN ts 5 rl q i).1.2.2) := by rw [hst]; show stHalf rl _ _ = _; unfold stHalf; rw [if_neg (half_no hc36 hc44)]
            have hin8 := hin1
            have ho8 := ho1
            have hF8 := hF1
            have f8 := hf
            have hO8 := hO1
            have hoo8 := hoo1
            have hio8 := hio1
            refine x_iload C dX8_passHalves_84 (kk := ?_)
            refine x_if_ne C dX8_passHalves_86 109 (fun hc86 => absurd rfl hc86) (fun hc86 => ?_)
            refine x_aload_n C dX8_passHalves_89 (kk := ?_)
            refine x_iload C dX8_passHalves_90 (kk := ?_)
            refine x_aload_n C dX8_passHalves_92 (kk := ?_)
            refine x_iload C dX8_passHalves_93 (kk := ?_)
            refine x_callV C ml_X5_beginAt lk_X8_154 (c_row_beginAt l G hv hin8) dX8_passHalves_95 (fun r95 h95 hp95 => ?_)
            obtain ⟨rfl, rfl⟩ := hp95
            refine x_aload_n C dX8_passHalves_98 (kk := ?_)
            refine x_iload C dX8_passHalves_99 (kk := ?_)
            refine x_callV C ml_X5_endAt lk_X8_151 (c_row_endAt l G hv hin8) dX8_passHalves_101 (fun r101 h101 hp101 => ?_)
            obtain ⟨rfl, rfl⟩ := hp101
            refine x_callV C ml_X5_add lk_X8_199 (c_row_add3 l G _ v.2.1 v.2.2 ho8) dX8_passHalves_104 (fun r104 h104 hp104 => ?_)
            rcases PInv.add hcz f8 ho8 hF8 hst2 (by unfold At; omega) hp104 with ⟨rfl, hinv2⟩ | ⟨rfl, hbad⟩
            rotate_left
            · skip
              refine x_istore C dX8_passHalves_107 (kk := ?_)
              refine x_iinc1 C dX8_passHalves_109 (kk := ?_)
              refine x_goto C dX8_passHalves_112 6 ?_
              refine x_fg 6 ?_
              refine x_fg 7 ?_
              first | exact ih (i + 1) _ (by omega) (by omega) hinv2 | exact fail (i + 1) _ hbad
            refine x_istore C dX8_passHalves_107 (kk := ?_)
            refine x_iinc1 C dX8_passHalves_109 (kk := ?_)
            refine x_goto C dX8_passHalves_112 6 ?_
            refine x_fg 6 ?_
            refine x_fg 7 ?_
            first | exact ih (i + 1) _ (by omega) (by omega) hinv2 | exact fail (i + 1) _ hbad
          refine x_aload_n C dX8_passHalves_47 (kk := ?_)
          refine x_callV C ml_X0_meetOne lk_X8_228 (c_f_meet l G hF1) dX8_passHalves_48 (fun r48 h48 hp48 => ?_)
          obtain ⟨rfl, hF8, hfr8⟩ := hp48
          have hin8 := hin1.fr hfr8 (fun b z1 z2 => by unfold At at *; omega)
          have ho8 := ho1.fr hfr8 (fun b z1 z2 => by unfold At at *; omega)
          have f8 := hf.tr (hfr8.mono (fun b z => Or.inr (by unfold At at z; omega)))
          have hoo8 := ho8.ob
          have hio8 := hin8.ob
          have hO8 := hfr8.at (by unfold At; omega) hO1
          have hfo8 : h48.1 fa = some (eO 0 [.int 5, .int rl, .int sm, .int sg, .int ((pasN ts 5 rl q i).1.2.1 + 1), .int (pasN ts 5 rl q i).1.2.2]) := hF8
          have hh : 55296 ≤ v.1 ∧ v.1 ≤ 57343 := by first | exact half_hi hc36 | exact half_lo hc44
          refine x_aload_n C dX8_passHalves_51 (kk := ?_)
          refine x_get C fl_X8_127 dX8_passHalves_52 (kk := ?_)
          refine x_iconst C dX8_passHalves_55 (v := 2) (kk := ?_)
          refine x_icmp_ne C dX8_passHalves_56 63 (fun hc56 => ?_) (fun hc56 => ?_)
          · refine x_iconst C dX8_passHalves_63 (v := 0) (kk := ?_)
            refine x_istore C dX8_passHalves_64 (kk := ?_)
            refine x_aload_n C dX8_passHalves_66 (kk := ?_)
            refine x_get C fl_X8_127 dX8_passHalves_67 (kk := ?_)
            refine x_iconst C dX8_passHalves_70 (v := 1) (kk := ?_)
            refine x_icmp_ne C dX8_passHalves_71 80 (fun hc71 => ?_) (fun hc71 => ?_)
            · refine x_iload C dX8_passHalves_80 (kk := ?_)
              refine x_istore C dX8_passHalves_82 (kk := ?_)
              refine x_iload C dX8_passHalves_84 (kk := ?_)
              refine x_if_ne C dX8_passHalves_86 109 (fun hc86 => absurd rfl hc86) (fun hc86 => ?_)
              have hst2 : (pasN ts 5 rl q (i + 1)).1 = ((pasN ts 5 rl q i).1.1 ++ [(v.1, v.2)], (pasN ts 5 rl q i).1.2.1 + 1, (pasN ts 5 rl q i).1.2.2) := by rw [hst]; show stHalf rl _ _ = _; unfold stHalf; rw [if_pos hh, if_neg hc56, if_neg hc71]
              refine x_aload_n C dX8_passHalves_89 (kk := ?_)
              refine x_iload C dX8_passHalves_90 (kk := ?_)
              refine x_aload_n C dX8_passHalves_92 (kk := ?_)
              refine x_iload C dX8_passHalves_93 (kk := ?_)
              refine x_callV C ml_X5_beginAt lk_X8_154 (c_row_beginAt l G hv hin8) dX8_passHalves_95 (fun r95 h95 hp95 => ?_)
              obtain ⟨rfl, rfl⟩ := hp95
              refine x_aload_n C dX8_passHalves_98 (kk := ?_)
              refine x_iload C dX8_passHalves_99 (kk := ?_)
              refine x_callV C ml_X5_endAt lk_X8_151 (c_row_endAt l G hv hin8) dX8_passHalves_101 (fun r101 h101 hp101 => ?_)
              obtain ⟨rfl, rfl⟩ := hp101
              refine x_callV C ml_X5_add lk_X8_199 (c_row_add3 l G _ v.2.1 v.2.2 ho8) dX8_passHalves_104 (fun r104 h104 hp104 => ?_)
              rcases PInv.add hcz f8 ho8 hF8 hst2 (by unfold At; omega) hp104 with ⟨rfl, hinv2⟩ | ⟨rfl, hbad⟩
              rotate_left
              · skip
                refine x_istore C dX8_passHalves_107 (kk := ?_)
                refine x_iinc1 C dX8_passHalves_109 (kk := ?_)
                refine x_goto C dX8_passHalves_112 6 ?_
                refine x_fg 6 ?_
                refine x_fg 7 ?_
                first | exact ih (i + 1) _ (by omega) (by omega) hinv2 | exact fail (i + 1) _ hbad
              refine x_istore C dX8_passHalves_107 (kk := ?_)
              refine x_iinc1 C dX8_passHalves_109 (kk := ?_)
              refine x_goto C dX8_passHalves_112 6 ?_
              refine x_fg 6 ?_
              refine x_fg 7 ?_
              first | exact ih (i + 1) _ (by omega) (by omega) hinv2 | exact fail (i + 1) _ hbad
            · refine x_ldcw C tw_425 dX8_passHalves_74 ?_
              refine x_goto C dX8_passHalves_77 82 ?_
              refine x_istore C dX8_passHalves_82 (kk := ?_)
              refine x_iload C dX8_passHalves_84 (kk := ?_)
              refine x_if_ne C dX8_passHalves_86 109 (fun hc86 => absurd rfl hc86) (fun hc86 => ?_)
              have hst2 : (pasN ts 5 rl q (i + 1)).1 = ((pasN ts 5 rl q i).1.1 ++ [(65533, v.2)], (pasN ts 5 rl q i).1.2.1 + 1, (pasN ts 5 rl q i).1.2.2) := by rw [hst]; show stHalf rl _ _ = _; unfold stHalf; rw [if_pos hh, if_neg hc56, if_pos hc71]
              refine x_aload_n C dX8_passHalves_89 (kk := ?_)
              refine x_iload C dX8_passHalves_90 (kk := ?_)
              refine x_aload_n C dX8_passHalves_92 (kk := ?_)
              refine x_iload C dX8_passHalves_93 (kk := ?_)
              refine x_callV C ml_X5_beginAt lk_X8_154 (c_row_beginAt l G hv hin8) dX8_passHalves_95 (fun r95 h95 hp95 => ?_)
              obtain ⟨rfl, rfl⟩ := hp95
              refine x_aload_n C dX8_passHalves_98 (kk := ?_)
              refine x_iload C dX8_passHalves_99 (kk := ?_)
              refine x_callV C ml_X5_endAt lk_X8_151 (c_row_endAt l G hv hin8) dX8_passHalves_101 (fun r101 h101 hp101 => ?_)
              obtain ⟨rfl, rfl⟩ := hp101
              refine x_callV C ml_X5_add lk_X8_199 (c_row_add3 l G _ v.2.1 v.2.2 ho8) dX8_passHalves_104 (fun r104 h104 hp104 => ?_)
              rcases PInv.add hcz f8 ho8 hF8 hst2 (by unfold At; omega) hp104 with ⟨rfl, hinv2⟩ | ⟨rfl, hbad⟩
              rotate_left
              · skip
                refine x_istore C dX8_passHalves_107 (kk := ?_)
                refine x_iinc1 C dX8_passHalves_109 (kk := ?_)
                refine x_goto C dX8_passHalves_112 6 ?_
                refine x_fg 6 ?_
                refine x_fg 7 ?_
                first | exact ih (i + 1) _ (by omega) (by omega) hinv2 | exact fail (i + 1) _ hbad
              refine x_istore C dX8_passHalves_107 (kk := ?_)
              refine x_iinc1 C dX8_passHalves_109 (kk := ?_)
              refine x_goto C dX8_passHalves_112 6 ?_
              refine x_fg 6 ?_
              refine x_fg 7 ?_
              first | exact ih (i + 1) _ (by omega) (by omega) hinv2 | exact fail (i + 1) _ hbad
          · refine x_iconst C dX8_passHalves_59 (v := 1) (kk := ?_)
            refine x_goto C dX8_passHalves_60 64 ?_
            refine x_istore C dX8_passHalves_64 (kk := ?_)
            refine x_aload_n C dX8_passHalves_66 (kk := ?_)
            refine x_get C fl_X8_127 dX8_passHalves_67 (kk := ?_)
            refine x_iconst C dX8_passHalves_70 (v := 1) (kk := ?_)
            refine x_icmp_ne C dX8_passHalves_71 80 (fun hc71 => ?_) (fun hc71 => ?_)
            · refine x_iload C dX8_passHalves_80 (kk := ?_)
              refine x_istore C dX8_passHalves_82 (kk := ?_)
              refine x_iload C dX8_passHalves_84 (kk := ?_)
              refine x_if_ne C dX8_passHalves_86 109 (fun hc86 => ?_) (fun hc86 => absurd hc86 (by decide))
              have hst2 : (pasN ts 5 rl q (i + 1)).1 = ((pasN ts 5 rl q i).1.1, (pasN ts 5 rl q i).1.2.1 + 1, (pasN ts 5 rl q i).1.2.2) := by rw [hst]; show stHalf rl _ _ = _; unfold stHalf; rw [if_pos hh, if_pos hc56]
              have hinv2 := PInv.keep f8 ho8 hF8 hst2
              refine x_iinc1 C dX8_passHalves_109 (kk := ?_)
              refine x_goto C dX8_passHalves_112 6 ?_
              refine x_fg 6 ?_
              refine x_fg 7 ?_
              first | exact ih (i + 1) _ (by omega) (by omega) hinv2 | exact fail (i + 1) _ hbad
            · refine x_ldcw C tw_425 dX8_passHalves_74 ?_
              refine x_goto C dX8_passHalves_77 82 ?_
              refine x_istore C dX8_passHalves_82 (kk := ?_)
              refine x_iload C dX8_passHalves_84 (kk := ?_)
              refine x_if_ne C dX8_passHalves_86 109 (fun hc86 => ?_) (fun hc86 => absurd hc86 (by decide))
              have hst2 : (pasN ts 5 rl q (i + 1)).1 = ((pasN ts 5 rl q i).1.1, (pasN ts 5 rl q i).1.2.1 + 1, (pasN ts 5 rl q i).1.2.2) := by rw [hst]; show stHalf rl _ _ = _; unfold stHalf; rw [if_pos hh, if_pos hc56]
              have hinv2 := PInv.keep f8 ho8 hF8 hst2
              refine x_iinc1 C dX8_passHalves_109 (kk := ?_)
              refine x_goto C dX8_passHalves_112 6 ?_
              refine x_fg 6 ?_
              refine x_fg 7 ?_
              first | exact ih (i + 1) _ (by omega) (by omega) hinv2 | exact fail (i + 1) _ hbad
  refine x_iconst C dX8_passHalves_0 (v := 1) (kk := ?_)
  refine x_istore C dX8_passHalves_1 (kk := ?_)
  refine x_iconst C dX8_passHalves_3 (v := 0) (kk := ?_)
  refine x_istore C dX8_passHalves_4 (kk := ?_)
  exact loop (q.length + 1) 0 h (by omega) (by omega) ⟨Fr.rf, hout, hF⟩
set_option maxRecDepth 100000 in
set_option maxHeartbeats 4000000 in
theorem c_x_composing (l : Launch) (G : xG) {h : xh} {x fa ri ro : Nat} {dsz mk sm sg rl : Int32} {la s1 s2 : Nat} {q : List Sg} (ts : TS) (hO : h.1 x = some (eO 8 (co x dsz mk la s1 s2))) (hri : x + 19 ≤ ri ∧ ri + 4 ≤ x + 35) (hro : x + 19 ≤ ro ∧ ro + 4 ≤ x + 35) (hd : ri + 4 ≤ ro ∨ ro + 4 ≤ ri) (hfa : x + 35 ≤ fa) (hin : Rw G h ri q) (hout : Rw G h ro []) (hF : Fa h fa 1 rl sm sg 0 0) (hz : Pt G h (x + 7) ts.2.1) : Ct l G yX8_passComposing cX8_passComposing 7 (Option.some Jvm.ClassFile.FieldType.boolean) { frames := 2, cells := 0, slots := 0, locals := 42 } [.ref x, .ref fa, .ref ri, .ref ro] h (fun v h' => PPost G ts 1 rl q h ro fa sm sg v h') := by
  have hnd : ∀ b, At ri 4 b → ¬ PA ro fa b := fun b z1 z2 => by unfold PA At at *; omega
  have hnx : ¬ PA ro fa x := fun z2 => by unfold PA At at *; omega
  have hql := hin.1
  refine Ct.of [some (.ref x), some (.ref fa), some (.ref ri), some (.ref ro), none, none, none] (by decide +kernel) (Nat.le_of_ble_eq_true rfl) (fun p e s m args below meth c bs C hini => ?_)
  have fail : ∀ (i : Nat) (h1 : xh), PBad G ts 1 rl q h ro fa sm sg i h1 → X p l e { frames := 2, cells := 0, slots := 0, locals := 42 } s m args below meth c G bs (MQ below (x_Q G bs (fun v h' => PPost G ts 1 rl q h ro fa sm sg v h')) args s 0 0 (fun q => bs ≤ q)) 0 0 6 [some (.ref x), some (.ref fa), some (.ref ri), some (.ref ro), some (.int 0), some (.int (nI i)), none] [] h1 := by
    intro i h1 hb
    have hil := hb.2.1
    have hin1 := hin.fr hb.1 hnd
    have hio1 := hin1.ob
    refine x_iload C dX8_passComposing_6 (kk := ?_)
    refine x_aload_n C dX8_passComposing_8 (kk := ?_)
    refine x_callV C ml_X5_size lk_X8_85 (c_row_size l G hin1) dX8_passComposing_9 (fun r9 h9 hp9 => ?_)
    obtain ⟨rfl, rfl⟩ := hp9
    refine x_ncmp_ge C i q.length dX8_passComposing_12 117 (fun hc12 => ?_) (fun hc12 => ?_)
    · refine x_iload C dX8_passComposing_117 (kk := ?_)
      refine x_zret C rfl dX8_passComposing_119 (by first | exact Or.inl rfl | exact Or.inr rfl | assumption | exact ite01 _) (hp := ?_)
      exact hb.post
    · refine x_iload C dX8_passComposing_15 (kk := ?_)
      refine x_if_eq C dX8_passComposing_17 117 (fun hc17 => ?_) (fun hc17 => ?_)
      · refine x_iload C dX8_passComposing_117 (kk := ?_)
        refine x_zret C rfl dX8_passComposing_119 (by first | exact Or.inl rfl | exact Or.inr rfl | assumption | exact ite01 _) (hp := ?_)
        exact hb.post
      · exact absurd rfl hc17
  have loop : ∀ (n i : Nat) (h1 : xh), q.length - i < n → i ≤ q.length → PInv G ts 1 rl q h ro fa sm sg i h1 → X p l e { frames := 2, cells := 0, slots := 0, locals := 42 } s m args below meth c G bs (MQ below (x_Q G bs (fun v h' => PPost G ts 1 rl q h ro fa sm sg v h')) args s 0 0 (fun q => bs ≤ q)) 0 0 6 [some (.ref x), some (.ref fa), some (.ref ri), some (.ref ro), some (.int 1), some (.int (nI i)), none] [] h1 := by
    intro n
    induction n with
    | zero => intro i h1 hn; omega
    | succ n ih =>
      intro i h1 hn hi hinv
      have hf := hinv.1
      have ho1 := hinv.2.1
      have hF1 := hinv.2.2
      have hfo1 : h1.1 fa = _ := hF1
      have hin1 := hin.fr hf hnd
      have hio1 := hin1.ob
      have hoo1 := ho1.ob
      have hO1 := hf.at hnx hO
      have pt1 := hz.fr hf (fun b z1 z2 => by unfold PA At at *; omega)
      have hzo1 := pt1.2.2.1
      have hal := ho1.1
      have hpl := pt1.1

      refine x_iload C dX8_passComposing_6 (kk := ?_)
      refine x_aload_n C dX8_passComposing_8 (kk := ?_)
      refine x_callV C ml_X5_size lk_X8_85 (c_row_size l G hin1) dX8_passComposing_9 (fun r9 h9 hp9 => ?_)
      obtain ⟨rfl, rfl⟩ := hp9
      refine x_ncmp_ge C i q.length dX8_passComposing_12 117 (fun hcz => ?_) (fun hcz => ?_)
      · refine x_iload C dX8_passComposing_117 (kk := ?_)
        refine x_zret C rfl dX8_passComposing_119 (Or.inr rfl) (hp := ?_)
        exact hinv.post (by omega)
      obtain ⟨v, hv⟩ : ∃ v, q[i]? = some v := ⟨q[i], List.getElem?_eq_getElem hcz⟩
      have hst := (pasN_at (ts := ts) (kind := 1) (rule := rl) hv).trans (stp1 ts rl q i _ v)
      refine x_iload C dX8_passComposing_15 (kk := ?_)
      refine x_if_eq C dX8_passComposing_17 117 (fun hc17 => ?_) (fun hc17 => ?_)
      · exact absurd hc17 (by decide)
      · refine x_iconst C dX8_passComposing_20 (v := -1) (kk := ?_)
        refine x_istore C dX8_passComposing_21 (kk := ?_)
        refine x_aload_n C dX8_passComposing_23 (kk := ?_)
        refine x_callV C ml_X5_size lk_X8_85 (c_row_size l G ho1) dX8_passComposing_24 (fun r24 h24 hp24 => ?_)
        obtain ⟨rfl, rfl⟩ := hp24
        refine x_nif_le C (pasN ts 1 rl q i).1.1.length dX8_passComposing_27 55 (fun hc27 => ?_) (fun hc27 => ?_)
        · have hnil : (pasN ts 1 rl q i).1.1 = [] := List.length_eq_zero_iff.mp hc27
          have hst2 : (pasN ts 1 rl q (i + 1)).1 = ((pasN ts 1 rl q i).1.1 ++ [v], (pasN ts 1 rl q i).1.2.1, (pasN ts 1 rl q i).1.2.2) := by rw [hst]; show stComp _ _ _ = _; simp [stComp, hnil]
          have hin8 := hin1
          have ho8 := ho1
          have hF8 := hF1
          have f8 := hf
          have hO8 := hO1
          have hoo8 := hoo1
          have hio8 := hio1
          refine x_iload C dX8_passComposing_55 (kk := ?_)
          refine x_iconst C dX8_passComposing_57 (v := -1) (kk := ?_)
          refine x_icmp_ne C dX8_passComposing_58 88 (fun z => absurd rfl z) (fun hc58 => ?_)
          refine x_aload_n C dX8_passComposing_61 (kk := ?_)
          refine x_aload_n C dX8_passComposing_62 (kk := ?_)
          refine x_iload C dX8_passComposing_63 (kk := ?_)
          refine x_callV C ml_X5_signAt lk_X8_147 (c_row_signAt l G hv hin8) dX8_passComposing_65 (fun r65 h65 hp65 => ?_)
          obtain ⟨rfl, rfl⟩ := hp65
          refine x_aload_n C dX8_passComposing_68 (kk := ?_)
          refine x_iload C dX8_passComposing_69 (kk := ?_)
          refine x_callV C ml_X5_beginAt lk_X8_154 (c_row_beginAt l G hv hin8) dX8_passComposing_71 (fun r71 h71 hp71 => ?_)
          obtain ⟨rfl, rfl⟩ := hp71
          refine x_aload_n C dX8_passComposing_74 (kk := ?_)
          refine x_iload C dX8_passComposing_75 (kk := ?_)
          refine x_callV C ml_X5_endAt lk_X8_151 (c_row_endAt l G hv hin8) dX8_passComposing_77 (fun r77 h77 hp77 => ?_)
          obtain ⟨rfl, rfl⟩ := hp77
          refine x_callV C ml_X5_add lk_X8_199 (c_row_add l G v ho8) dX8_passComposing_80 (fun r80 h80 hp80 => ?_)
          rcases PInv.add hcz f8 ho8 hF8 hst2 (by unfold At; omega) hp80 with ⟨rfl, hinv2⟩ | ⟨rfl, hbad⟩
          rotate_left
          · skip
            refine x_istore C dX8_passComposing_83 (kk := ?_)
            refine x_goto C dX8_passComposing_85 111 ?_
            refine x_iinc1 C dX8_passComposing_111 (kk := ?_)
            refine x_goto C dX8_passComposing_114 6 ?_
            refine x_fg 6 ?_
            first | exact ih (i + 1) _ (by omega) (by omega) hinv2 | exact fail (i + 1) _ hbad
          refine x_istore C dX8_passComposing_83 (kk := ?_)
          refine x_goto C dX8_passComposing_85 111 ?_
          refine x_iinc1 C dX8_passComposing_111 (kk := ?_)
          refine x_goto C dX8_passComposing_114 6 ?_
          refine x_fg 6 ?_
          first | exact ih (i + 1) _ (by omega) (by omega) hinv2 | exact fail (i + 1) _ hbad
        obtain ⟨y, hy⟩ : ∃ y, (pasN ts 1 rl q i).1.1.getLast? = some y := ⟨_, List.getLast?_eq_some_getLast (by intro z; rw [z] at hc27; simp at hc27)⟩
        have hyi : (pasN ts 1 rl q i).1.1[(pasN ts 1 rl q i).1.1.length - 1]? = some y := by rw [← List.getLast?_eq_getElem?]; exact hy
        refine x_aload_n C dX8_passComposing_30 (kk := ?_)
        refine x_get C fl_X8_30 dX8_passComposing_31 (kk := ?_)
        refine x_aload_n C dX8_passComposing_34 (kk := ?_)
        refine x_aload_n C dX8_passComposing_35 (kk := ?_)
        refine x_callV C ml_X5_size lk_X8_85 (c_row_size l G ho1) dX8_passComposing_36 (fun r36 h36 hp36 => ?_)
        obtain ⟨rfl, rfl⟩ := hp36
        refine x_iconst C dX8_passComposing_39 (v := 1) (kk := ?_)
        refine x_isub C dX8_passComposing_40 ?_
        refine x_top _ (nI_sub1 hc27) ?_
        refine x_callV C ml_X5_signAt lk_X8_147 (c_row_signAt l G hyi ho1) dX8_passComposing_41 (fun r41 h41 hp41 => ?_)
        obtain ⟨rfl, rfl⟩ := hp41
        refine x_aload_n C dX8_passComposing_44 (kk := ?_)
        refine x_iload C dX8_passComposing_45 (kk := ?_)
        refine x_callV C ml_X5_signAt lk_X8_147 (c_row_signAt l G hv hin1) dX8_passComposing_47 (fun r47 h47 hp47 => ?_)
        obtain ⟨rfl, rfl⟩ := hp47
        refine x_callV C ml_X2_slotOf lk_X8_243 (c_p_slotOf l G y.1 v.1 pt1) dX8_passComposing_50 (fun r50 h50 hp50 => ?_)
        obtain ⟨r5, rfl, hs5, rfl⟩ := hp50
        refine x_istore C dX8_passComposing_53 (kk := ?_)
        refine x_iload C dX8_passComposing_55 (kk := ?_)
        refine x_iconst C dX8_passComposing_57 (v := -1) (kk := ?_)
        rcases hs5 with ⟨rfl, hno⟩ | ⟨k5, rfl, hk5⟩
        rotate_left
        · obtain ⟨e5, he, hek⟩ : ∃ e5, ts.2.1[k5]? = some e5 ∧ e5.1 = (y.1, v.1) := by
            rw [List.getElem?_map] at hk5
            cases hq5 : ts.2.1[k5]? with
            | none => rw [hq5] at hk5; simp at hk5
            | some e5 => rw [hq5] at hk5; exact ⟨e5, rfl, by simpa using hk5⟩
          have hkl : k5 < ts.2.1.length := (List.getElem?_eq_some_iff.mp he).1
          have hst2 : (pasN ts 1 rl q (i + 1)).1 = ((pasN ts 1 rl q i).1.1.dropLast ++ [(e5.2, y.2.1, v.2.2)], (pasN ts 1 rl q i).1.2.1 + 1, (pasN ts 1 rl q i).1.2.2) := by rw [hst]; show stComp _ _ _ = _; unfold stComp; rw [hy]; simp only [aget_at pt1.2.1 he hek]
          refine x_icmp_ne C dX8_passComposing_58 88 (fun hc58 => ?_) (fun z => absurd z (nI_m1 (by omega)))
          refine x_aload_n C dX8_passComposing_88 (kk := ?_)
          refine x_callV C ml_X0_meetOne lk_X8_228 (c_f_meet l G hF1) dX8_passComposing_89 (fun r89 h89 hp89 => ?_)
          obtain ⟨rfl, hF8, hfr8⟩ := hp89
          have hin8 := hin1.fr hfr8 (fun b z1 z2 => by unfold At at *; omega)
          have ho8 := ho1.fr hfr8 (fun b z1 z2 => by unfold At at *; omega)
          have f8 := hf.tr (hfr8.mono (fun b z => Or.inr (by unfold At at z; omega)))
          have hoo8 := ho8.ob
          have hio8 := hin8.ob
          have hO8 := hfr8.at (by unfold At; omega) hO1
          have pt8 := pt1.fr hfr8 (fun b z1 z2 => by unfold At at *; omega)
          have hzo8 := pt8.2.2.1
          refine x_aload_n C dX8_passComposing_92 (kk := ?_)
          refine x_aload_n C dX8_passComposing_93 (kk := ?_)
          refine x_get C fl_X8_30 dX8_passComposing_94 (kk := ?_)
          refine x_iload C dX8_passComposing_97 (kk := ?_)
          refine x_callV C ml_X2_signAt lk_X8_245 (c_p_signAt l G he pt8) dX8_passComposing_99 (fun r99 h99 hp99 => ?_)
          obtain ⟨rfl, rfl⟩ := hp99
          refine x_aload_n C dX8_passComposing_102 (kk := ?_)
          refine x_iload C dX8_passComposing_103 (kk := ?_)
          refine x_callV C ml_X5_endAt lk_X8_151 (c_row_endAt l G hv hin8) dX8_passComposing_105 (fun r105 h105 hp105 => ?_)
          obtain ⟨rfl, rfl⟩ := hp105
          refine x_callV C ml_X5_changeLast lk_X8_246 (c_row_changeLast l G e5.2 v.2.2 hy ho8) dX8_passComposing_108 (fun r108 h108 hp108 => ?_)
          obtain ⟨rfl, hr9, hf9⟩ := hp108
          have hinv2 : PInv G ts 1 rl q h ro fa sm sg (i + 1) h108 := ⟨f8.tr (hf9.mono (fun b z => Or.inl z)), by rw [hst2]; exact hr9, by rw [hst2]; exact hF8.fr hf9 (by unfold At; omega)⟩
          refine x_iinc1 C dX8_passComposing_111 (kk := ?_)
          refine x_goto C dX8_passComposing_114 6 ?_
          refine x_fg 6 ?_
          first | exact ih (i + 1) _ (by omega) (by omega) hinv2 | exact fail (i + 1) _ hbad
        have hst2 : (pasN ts 1 rl q (i + 1)).1 = ((pasN ts 1 rl q i).1.1 ++ [v], (pasN ts 1 rl q i).1.2.1, (pasN ts 1 rl q i).1.2.2) := by rw [hst]; show stComp _ _ _ = _; unfold stComp; rw [hy]; simp only [aget_no hno]
        have hin8 := hin1
        have ho8 := ho1
        have hF8 := hF1
        have f8 := hf
        have hO8 := hO1
        have hoo8 := hoo1
        have hio8 := hio1
        refine x_icmp_ne C dX8_passComposing_58 88 (fun z => absurd rfl z) (fun hc58 => ?_)
        refine x_aload_n C dX8_passComposing_61 (kk := ?_)
        refine x_aload_n C dX8_passComposing_62 (kk := ?_)
        refine x_iload C dX8_passComposing_63 (kk := ?_)
        refine x_callV C ml_X5_signAt lk_X8_147 (c_row_signAt l G hv hin8) dX8_passComposing_65 (fun r65 h65 hp65 => ?_)
        obtain ⟨rfl, rfl⟩ := hp65
        refine x_aload_n C dX8_passComposing_68 (kk := ?_)
        refine x_iload C dX8_passComposing_69 (kk := ?_)
        refine x_callV C ml_X5_beginAt lk_X8_154 (c_row_beginAt l G hv hin8) dX8_passComposing_71 (fun r71 h71 hp71 => ?_)
        obtain ⟨rfl, rfl⟩ := hp71
        refine x_aload_n C dX8_passComposing_74 (kk := ?_)
        refine x_iload C dX8_passComposing_75 (kk := ?_)
        refine x_callV C ml_X5_endAt lk_X8_151 (c_row_endAt l G hv hin8) dX8_passComposing_77 (fun r77 h77 hp77 => ?_)
        obtain ⟨rfl, rfl⟩ := hp77
        refine x_callV C ml_X5_add lk_X8_199 (c_row_add l G v ho8) dX8_passComposing_80 (fun r80 h80 hp80 => ?_)
        rcases PInv.add hcz f8 ho8 hF8 hst2 (by unfold At; omega) hp80 with ⟨rfl, hinv2⟩ | ⟨rfl, hbad⟩
        rotate_left
        · skip
          refine x_istore C dX8_passComposing_83 (kk := ?_)
          refine x_goto C dX8_passComposing_85 111 ?_
          refine x_iinc1 C dX8_passComposing_111 (kk := ?_)
          refine x_goto C dX8_passComposing_114 6 ?_
          refine x_fg 6 ?_
          first | exact ih (i + 1) _ (by omega) (by omega) hinv2 | exact fail (i + 1) _ hbad
        refine x_istore C dX8_passComposing_83 (kk := ?_)
        refine x_goto C dX8_passComposing_85 111 ?_
        refine x_iinc1 C dX8_passComposing_111 (kk := ?_)
        refine x_goto C dX8_passComposing_114 6 ?_
        refine x_fg 6 ?_
        first | exact ih (i + 1) _ (by omega) (by omega) hinv2 | exact fail (i + 1) _ hbad
  refine x_iconst C dX8_passComposing_0 (v := 1) (kk := ?_)
  refine x_istore C dX8_passComposing_1 (kk := ?_)
  refine x_iconst C dX8_passComposing_3 (v := 0) (kk := ?_)
  refine x_istore C dX8_passComposing_4 (kk := ?_)
  exact loop (q.length + 1) 0 h (by omega) (by omega) ⟨Fr.rf, hout, hF⟩
set_option maxRecDepth 100000 in
set_option maxHeartbeats 4000000 in
theorem c_x_folding (l : Launch) (G : xG) {h : xh} {x fa ri ro : Nat} {dsz mk sm sg rl : Int32} {la s1 s2 : Nat} {q : List Sg} (ts : TS) (hO : h.1 x = some (eO 8 (co x dsz mk la s1 s2))) (hri : x + 19 ≤ ri ∧ ri + 4 ≤ x + 35) (hro : x + 19 ≤ ro ∧ ro + 4 ≤ x + 35) (hd : ri + 4 ≤ ro ∨ ro + 4 ≤ ri) (hfa : x + 35 ≤ fa) (hin : Rw G h ri q) (hout : Rw G h ro []) (hF : Fa h fa 0 rl sm sg 0 0) (hz : Ft G h (x + 2) ts.1) : Ct l G yX8_passFolding cX8_passFolding 9 (Option.some Jvm.ClassFile.FieldType.boolean) { frames := 3, cells := 0, slots := 0, locals := 67 } [.ref x, .ref fa, .ref ri, .ref ro] h (fun v h' => PPost G ts 0 rl q h ro fa sm sg v h') := by
  have hnd : ∀ b, At ri 4 b → ¬ PA ro fa b := fun b z1 z2 => by unfold PA At at *; omega
  have hnx : ¬ PA ro fa x := fun z2 => by unfold PA At at *; omega
  have hql := hin.1
  refine Ct.of [some (.ref x), some (.ref fa), some (.ref ri), some (.ref ro), none, none, none, none, none] (by decide +kernel) (Nat.le_of_ble_eq_true rfl) (fun p e s m args below meth c bs C hini => ?_)
  have fail : ∀ (i : Nat) (h1 : xh), PBad G ts 0 rl q h ro fa sm sg i h1 → X p l e { frames := 3, cells := 0, slots := 0, locals := 67 } s m args below meth c G bs (MQ below (x_Q G bs (fun v h' => PPost G ts 0 rl q h ro fa sm sg v h')) args s 0 0 (fun q => bs ≤ q)) 0 0 6 [some (.ref x), some (.ref fa), some (.ref ri), some (.ref ro), some (.int 0), some (.int (nI i)), none, none, none] [] h1 := by
    intro i h1 hb
    have hil := hb.2.1
    have hin1 := hin.fr hb.1 hnd
    have hio1 := hin1.ob
    refine x_iload C dX8_passFolding_6 (kk := ?_)
    refine x_aload_n C dX8_passFolding_8 (kk := ?_)
    refine x_callV C ml_X5_size lk_X8_85 (c_row_size l G hin1) dX8_passFolding_9 (fun r9 h9 hp9 => ?_)
    obtain ⟨rfl, rfl⟩ := hp9
    refine x_ncmp_ge C i q.length dX8_passFolding_12 154 (fun hc12 => ?_) (fun hc12 => ?_)
    · refine x_iload C dX8_passFolding_154 (kk := ?_)
      refine x_zret C rfl dX8_passFolding_156 (by first | exact Or.inl rfl | exact Or.inr rfl | assumption | exact ite01 _) (hp := ?_)
      exact hb.post
    · refine x_iload C dX8_passFolding_15 (kk := ?_)
      refine x_if_eq C dX8_passFolding_17 154 (fun hc17 => ?_) (fun hc17 => ?_)
      · refine x_iload C dX8_passFolding_154 (kk := ?_)
        refine x_zret C rfl dX8_passFolding_156 (by first | exact Or.inl rfl | exact Or.inr rfl | assumption | exact ite01 _) (hp := ?_)
        exact hb.post
      · exact absurd rfl hc17
  have loop : ∀ (n i : Nat) (h1 : xh), q.length - i < n → i ≤ q.length → PInv G ts 0 rl q h ro fa sm sg i h1 → X p l e { frames := 3, cells := 0, slots := 0, locals := 67 } s m args below meth c G bs (MQ below (x_Q G bs (fun v h' => PPost G ts 0 rl q h ro fa sm sg v h')) args s 0 0 (fun q => bs ≤ q)) 0 0 6 [some (.ref x), some (.ref fa), some (.ref ri), some (.ref ro), some (.int 1), some (.int (nI i)), none, none, none] [] h1 := by
    intro n
    induction n with
    | zero => intro i h1 hn; omega
    | succ n ih =>
      intro i h1 hn hi hinv
      have hf := hinv.1
      have ho1 := hinv.2.1
      have hF1 := hinv.2.2
      have hfo1 : h1.1 fa = _ := hF1
      have hin1 := hin.fr hf hnd
      have hio1 := hin1.ob
      have hoo1 := ho1.ob
      have hO1 := hf.at hnx hO
      have ft1 := hz.fr hf (fun b z1 z2 => by unfold PA At at *; omega)
      have hzo1 := ft1.2.2.2.1
      have hfl := ft1.1

      refine x_iload C dX8_passFolding_6 (kk := ?_)
      refine x_aload_n C dX8_passFolding_8 (kk := ?_)
      refine x_callV C ml_X5_size lk_X8_85 (c_row_size l G hin1) dX8_passFolding_9 (fun r9 h9 hp9 => ?_)
      obtain ⟨rfl, rfl⟩ := hp9
      refine x_ncmp_ge C i q.length dX8_passFolding_12 154 (fun hcz => ?_) (fun hcz => ?_)
      · refine x_iload C dX8_passFolding_154 (kk := ?_)
        refine x_zret C rfl dX8_passFolding_156 (Or.inr rfl) (hp := ?_)
        exact hinv.post (by omega)
      obtain ⟨v, hv⟩ : ∃ v, q[i]? = some v := ⟨q[i], List.getElem?_eq_getElem hcz⟩
      have hst := (pasN_at (ts := ts) (kind := 0) (rule := rl) hv).trans (stp0 ts rl q i _ v)
      refine x_iload C dX8_passFolding_15 (kk := ?_)
      refine x_if_eq C dX8_passFolding_17 154 (fun hc17 => ?_) (fun hc17 => ?_)
      · exact absurd hc17 (by decide)
      · refine x_aload_n C dX8_passFolding_20 (kk := ?_)
        refine x_iload C dX8_passFolding_21 (kk := ?_)
        refine x_callV C ml_X5_signAt lk_X8_147 (c_row_signAt l G hv hin1) dX8_passFolding_23 (fun r23 h23 hp23 => ?_)
        obtain ⟨rfl, rfl⟩ := hp23
        refine x_istore C dX8_passFolding_26 (kk := ?_)
        refine x_aload_n C dX8_passFolding_28 (kk := ?_)
        refine x_get C fl_X8_23 dX8_passFolding_29 (kk := ?_)
        refine x_iload C dX8_passFolding_32 (kk := ?_)
        refine x_callV C ml_X1_slotOf lk_X8_225 (c_o_slotOf l G v.1 ft1) dX8_passFolding_34 (fun r34 h34 hp34 => ?_)
        obtain ⟨r5, rfl, hs5, rfl⟩ := hp34
        refine x_istore C dX8_passFolding_37 (kk := ?_)
        refine x_iload C dX8_passFolding_39 (kk := ?_)
        refine x_iconst C dX8_passFolding_41 (v := -1) (kk := ?_)
        rcases hs5 with ⟨rfl, hno⟩ | ⟨k5, rfl, hk5⟩
        rotate_left
        · obtain ⟨e5, he, hek⟩ : ∃ e5, ts.1[k5]? = some e5 ∧ e5.1 = v.1 := by
            rw [List.getElem?_map] at hk5
            cases hq5 : ts.1[k5]? with
            | none => rw [hq5] at hk5; simp at hk5
            | some e5 => rw [hq5] at hk5; exact ⟨e5, rfl, by simpa using hk5⟩
          have hkl : k5 < ts.1.length := (List.getElem?_eq_some_iff.mp he).1
          have hwf := ft1.2.2.1 e5 (List.mem_of_getElem? he)
          have hwl := hwf.1
          have hst2 : (pasN ts 0 rl q (i + 1)).1 = ((pasN ts 0 rl q i).1.1 ++ e5.2.map (fun w => (w, v.2)), (pasN ts 0 rl q i).1.2.1 + 1, (pasN ts 0 rl q i).1.2.2 + (uSum e5.2 - uOf v.1)) := by rw [hst]; show stFold _ _ _ = _; unfold stFold; simp only [aget_at ft1.2.1 he hek]
          have inner : ∀ (n2 k : Nat) (h2 : xh), e5.2.length - k < n2 → k ≤ e5.2.length → Fr (PA ro fa) h h2 → Rw G h2 ro ((pasN ts 0 rl q i).1.1 ++ (e5.2.take k).map (fun w => (w, v.2))) → Fa h2 fa 0 rl sm sg ((pasN ts 0 rl q i).1.2.1 + 1) ((pasN ts 0 rl q i).1.2.2 + (uSum e5.2 - uOf v.1)) → X p l e { frames := 3, cells := 0, slots := 0, locals := 67 } s m args below meth c G bs (MQ below (x_Q G bs (fun v h' => PPost G ts 0 rl q h ro fa sm sg v h')) args s 0 0 (fun q => bs ≤ q)) 0 0 94 [some (.ref x), some (.ref fa), some (.ref ri), some (.ref ro), some (.int 1), some (.int (nI i)), some (.int v.1), some (.int (nI k5)), some (.int (nI k))] [] h2 := by
            intro n2
            induction n2 with
            | zero => intro k h2 hn2; omega
            | succ n2 ih2 =>
              intro k h2 hn2 hk2 f8 ho8 hF8
              have hin8 := hin.fr f8 hnd
              have hO8 := f8.at hnx hO
              have hio8 := hin8.ob
              have hoo8 := ho8.ob
              have ft8 := hz.fr f8 (fun b z1 z2 => by unfold PA At at *; omega)
              have hzo8 := ft8.2.2.2.1
              refine x_iload C dX8_passFolding_94 (kk := ?_)
              refine x_aload_n C dX8_passFolding_96 (kk := ?_)
              refine x_get C fl_X8_23 dX8_passFolding_97 (kk := ?_)
              refine x_iload C dX8_passFolding_100 (kk := ?_)
              refine x_callV C ml_X1_lengthAt lk_X8_237 (c_o_lengthAt l G he ft8) dX8_passFolding_102 (fun r102 h102 hp102 => ?_)
              obtain ⟨rfl, rfl⟩ := hp102
              refine x_ncmp_ge C k e5.2.length dX8_passFolding_105 148 (fun hcq => ?_) (fun hcq => ?_)
              · have hinv2 := PInv.keep f8 (acc := (pasN ts 0 rl q i).1.1 ++ e5.2.map (fun w => (w, v.2))) (by rw [List.take_of_length_le hcq] at ho8; exact ho8) hF8 hst2
                refine x_iinc1 C dX8_passFolding_148 (kk := ?_)
                refine x_goto C dX8_passFolding_151 6 ?_
                refine x_fg 8 ?_
                refine x_fg 7 ?_
                refine x_fg 6 ?_
                first | exact ih (i + 1) _ (by omega) (by omega) hinv2 | exact fail (i + 1) _ hbad
              refine x_iload C dX8_passFolding_108 (kk := ?_)
              refine x_if_eq C dX8_passFolding_110 148 (fun hc110 => ?_) (fun hc110 => ?_)
              · exact absurd hc110 (by decide)
              · refine x_aload_n C dX8_passFolding_113 (kk := ?_)
                refine x_aload_n C dX8_passFolding_114 (kk := ?_)
                refine x_get C fl_X8_23 dX8_passFolding_115 (kk := ?_)
                refine x_iload C dX8_passFolding_118 (kk := ?_)
                refine x_iload C dX8_passFolding_120 (kk := ?_)
                refine x_callV C ml_X1_partAt lk_X8_240 (c_o_partAt l G (j := k) he (by omega) ft8) dX8_passFolding_122 (fun r122 h122 hp122 => ?_)
                obtain ⟨rfl, rfl⟩ := hp122
                refine x_aload_n C dX8_passFolding_125 (kk := ?_)
                refine x_iload C dX8_passFolding_126 (kk := ?_)
                refine x_callV C ml_X5_beginAt lk_X8_154 (c_row_beginAt l G hv hin8) dX8_passFolding_128 (fun r128 h128 hp128 => ?_)
                obtain ⟨rfl, rfl⟩ := hp128
                refine x_aload_n C dX8_passFolding_131 (kk := ?_)
                refine x_iload C dX8_passFolding_132 (kk := ?_)
                refine x_callV C ml_X5_endAt lk_X8_151 (c_row_endAt l G hv hin8) dX8_passFolding_134 (fun r134 h134 hp134 => ?_)
                obtain ⟨rfl, rfl⟩ := hp134
                refine x_callV C ml_X5_add lk_X8_199 (c_row_add3 l G _ v.2.1 v.2.2 ho8) dX8_passFolding_137 (fun r137 h137 hp137 => ?_)
                rcases hp137 with ⟨hl9, rfl, hr9, hf9⟩ | ⟨hl9, rfl, rfl⟩
                rotate_left
                · have hbad : PBad G ts 0 rl q h ro fa sm sg (i + 1) h137 := ⟨f8, hcz, by rw [hst2]; simp at hl9 ⊢; omega, ⟨_, ho8⟩, _, _, hF8⟩
                  refine x_istore C dX8_passFolding_140 (kk := ?_)
                  refine x_iinc1 C dX8_passFolding_142 (kk := ?_)
                  refine x_goto C dX8_passFolding_145 94 ?_
                  refine x_iload C dX8_passFolding_94 (kk := ?_)
                  refine x_aload_n C dX8_passFolding_96 (kk := ?_)
                  refine x_get C fl_X8_23 dX8_passFolding_97 (kk := ?_)
                  refine x_iload C dX8_passFolding_100 (kk := ?_)
                  refine x_callV C ml_X1_lengthAt lk_X8_237 (c_o_lengthAt l G he ft8) dX8_passFolding_102 (fun r102 h102 hp102 => ?_)
                  obtain ⟨rfl, rfl⟩ := hp102
                  refine x_ncmp_ge C (k + 1) e5.2.length dX8_passFolding_105 148 (fun hcx => ?_) (fun hcx => ?_)
                  · skip
                    refine x_iinc1 C dX8_passFolding_148 (kk := ?_)
                    refine x_goto C dX8_passFolding_151 6 ?_
                    refine x_fg 8 ?_
                    refine x_fg 7 ?_
                    refine x_fg 6 ?_
                    first | exact ih (i + 1) _ (by omega) (by omega) hinv2 | exact fail (i + 1) _ hbad
                  · refine x_iload C dX8_passFolding_108 (kk := ?_)
                    refine x_if_eq C dX8_passFolding_110 148 (fun hcy => ?_) (fun hcy => absurd rfl hcy)
                    refine x_iinc1 C dX8_passFolding_148 (kk := ?_)
                    refine x_goto C dX8_passFolding_151 6 ?_
                    refine x_fg 8 ?_
                    refine x_fg 7 ?_
                    refine x_fg 6 ?_
                    first | exact ih (i + 1) _ (by omega) (by omega) hinv2 | exact fail (i + 1) _ hbad
                refine x_istore C dX8_passFolding_140 (kk := ?_)
                refine x_iinc1 C dX8_passFolding_142 (kk := ?_)
                refine x_goto C dX8_passFolding_145 94 ?_
                first | exact inner (e5.2.length + 1) 0 _ (by omega) (by omega) f9 (by simpa using ho9) hF9 | exact ih2 (k + 1) _ (by omega) (by omega) (f8.tr (hf9.mono (fun b z => Or.inl z))) (by rw [take_at (v := e5.2.getD k (-1)) (by simp [hcq]), List.map_append, ← List.append_assoc]; exact hr9) (hF8.fr hf9 (by unfold At; omega))
          refine x_icmp_ne C dX8_passFolding_42 68 (fun hc42 => ?_) (fun z => absurd z (nI_m1 (by omega)))
          refine x_aload_n C dX8_passFolding_68 (kk := ?_)
          refine x_callV C ml_X0_meetOne lk_X8_228 (c_f_meet l G hF1) dX8_passFolding_69 (fun r69 h69 hp69 => ?_)
          obtain ⟨rfl, hF8, hfr8⟩ := hp69
          have hin8 := hin1.fr hfr8 (fun b z1 z2 => by unfold At at *; omega)
          have ho8 := ho1.fr hfr8 (fun b z1 z2 => by unfold At at *; omega)
          have f8 := hf.tr (hfr8.mono (fun b z => Or.inr (by unfold At at z; omega)))
          have hoo8 := ho8.ob
          have hio8 := hin8.ob
          have hO8 := hfr8.at (by unfold At; omega) hO1
          have ft8 := ft1.fr hfr8 (fun b z1 z2 => by unfold At at *; omega)
          have hzo8 := ft8.2.2.2.1
          have hfo8 : h69.1 fa = _ := hF8
          refine x_aload_n C dX8_passFolding_72 (kk := ?_)
          refine x_aload_n C dX8_passFolding_73 (kk := ?_)
          refine x_get C fl_X8_23 dX8_passFolding_74 (kk := ?_)
          refine x_iload C dX8_passFolding_77 (kk := ?_)
          refine x_callV C ml_X1_unitsAt lk_X8_231 (c_o_unitsAt l G he ft8) dX8_passFolding_79 (fun r79 h79 hp79 => ?_)
          obtain ⟨rfl, rfl⟩ := hp79
          refine x_iload C dX8_passFolding_82 (kk := ?_)
          refine x_callS C ml_X8_unitsOf lk_X8_157 (c_unitsOf l G v.1) dX8_passFolding_84 (fun r84 h84 hp84 => ?_)
          obtain ⟨rfl, rfl⟩ := hp84
          refine x_isub C dX8_passFolding_87 ?_
          refine x_callV C ml_X0_growBy lk_X8_234 (c_f_grow l G _ hF8) dX8_passFolding_88 (fun r88 h88 hp88 => ?_)
          obtain ⟨rfl, hF9, hfr9⟩ := hp88
          have ho9 := ho8.fr hfr9 (fun b z1 z2 => by unfold At at *; omega)
          have f9 := f8.tr (hfr9.mono (fun b z => Or.inr (by unfold At at z; omega)))
          refine x_iconst C dX8_passFolding_91 (v := 0) (kk := ?_)
          refine x_istore C dX8_passFolding_92 (kk := ?_)
          first | exact inner (e5.2.length + 1) 0 _ (by omega) (by omega) f9 (by simpa using ho9) hF9 | exact ih2 (k + 1) _ (by omega) (by omega) (f8.tr (hf9.mono (fun b z => Or.inl z))) (by rw [take_at (v := e5.2.getD k (-1)) (by simp [hcq]), List.map_append, ← List.append_assoc]; exact hr9) (hF8.fr hf9 (by unfold At; omega))
        have hst2 : (pasN ts 0 rl q (i + 1)).1 = ((pasN ts 0 rl q i).1.1 ++ [v], (pasN ts 0 rl q i).1.2.1, (pasN ts 0 rl q i).1.2.2) := by rw [hst]; show stFold _ _ _ = _; unfold stFold; simp only [aget_no hno]
        have hin8 := hin1
        have ho8 := ho1
        have hF8 := hF1
        have f8 := hf
        have hO8 := hO1
        have hoo8 := hoo1
        have hio8 := hio1
        refine x_icmp_ne C dX8_passFolding_42 68 (fun z => absurd rfl z) (fun hc42 => ?_)
        refine x_aload_n C dX8_passFolding_45 (kk := ?_)
        refine x_iload C dX8_passFolding_46 (kk := ?_)
        refine x_aload_n C dX8_passFolding_48 (kk := ?_)
        refine x_iload C dX8_passFolding_49 (kk := ?_)
        refine x_callV C ml_X5_beginAt lk_X8_154 (c_row_beginAt l G hv hin8) dX8_passFolding_51 (fun r51 h51 hp51 => ?_)
        obtain ⟨rfl, rfl⟩ := hp51
        refine x_aload_n C dX8_passFolding_54 (kk := ?_)
        refine x_iload C dX8_passFolding_55 (kk := ?_)
        refine x_callV C ml_X5_endAt lk_X8_151 (c_row_endAt l G hv hin8) dX8_passFolding_57 (fun r57 h57 hp57 => ?_)
        obtain ⟨rfl, rfl⟩ := hp57
        refine x_callV C ml_X5_add lk_X8_199 (c_row_add l G v ho8) dX8_passFolding_60 (fun r60 h60 hp60 => ?_)
        rcases PInv.add hcz f8 ho8 hF8 hst2 (by unfold At; omega) hp60 with ⟨rfl, hinv2⟩ | ⟨rfl, hbad⟩
        rotate_left
        · skip
          refine x_istore C dX8_passFolding_63 (kk := ?_)
          refine x_goto C dX8_passFolding_65 148 ?_
          refine x_iinc1 C dX8_passFolding_148 (kk := ?_)
          refine x_goto C dX8_passFolding_151 6 ?_
          refine x_fg 8 ?_
          refine x_fg 7 ?_
          refine x_fg 6 ?_
          first | exact ih (i + 1) _ (by omega) (by omega) hinv2 | exact fail (i + 1) _ hbad
        refine x_istore C dX8_passFolding_63 (kk := ?_)
        refine x_goto C dX8_passFolding_65 148 ?_
        refine x_iinc1 C dX8_passFolding_148 (kk := ?_)
        refine x_goto C dX8_passFolding_151 6 ?_
        refine x_fg 8 ?_
        refine x_fg 7 ?_
        refine x_fg 6 ?_
        first | exact ih (i + 1) _ (by omega) (by omega) hinv2 | exact fail (i + 1) _ hbad
  refine x_iconst C dX8_passFolding_0 (v := 1) (kk := ?_)
  refine x_istore C dX8_passFolding_1 (kk := ?_)
  refine x_iconst C dX8_passFolding_3 (v := 0) (kk := ?_)
  refine x_istore C dX8_passFolding_4 (kk := ?_)
  exact loop (q.length + 1) 0 h (by omega) (by omega) ⟨Fr.rf, hout, hF⟩
end
