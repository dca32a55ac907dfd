/-! WHAT IS ASKED OF NUMBERS ALONE -/
set_option maxRecDepth 100000 in
set_option maxHeartbeats 4000000 in
theorem c_isSign (l : Launch) (G : xG) {h : xh} (v : Int32) : Ct l G yX8_isSign cX8_isSign 1 (Option.some Jvm.ClassFile.FieldType.boolean) { frames := 0, cells := 0, slots := 0, locals := 0 } [.int v] h (fun r h' => r = some (.int (if 0 ≤ v ∧ v ≤ 1114111 then 1 else 0)) ∧ h' = h) := by
  refine Ct.of [some (.int v)] (by decide +kernel) (Nat.le_of_ble_eq_true rfl) (fun p e s m args below meth c bs C hini => ?_)
  refine x_iload_n C dX8_isSign_0 (kk := ?_)
  refine x_if_lt C dX8_isSign_1 14 (fun hc1 => ?_) (fun hc1 => ?_)
  · refine x_iconst C dX8_isSign_14 (v := 0) (kk := ?_)
    refine x_zret C rfl dX8_isSign_15 (by first | exact Or.inl rfl | exact Or.inr rfl | assumption | exact ite01 _) (hp := ?_)
    refine ⟨?_, rfl⟩
    simp only [Int32.lt_iff_toInt_lt, Int32.le_iff_toInt_le, Int32.not_lt, Int32.not_le, ← Int32.toInt_inj, Int32.reduceToInt, m1_toInt] at hc1 ⊢
    split <;> first | rfl | (exfalso; omega)
  · refine x_iload_n C dX8_isSign_4 (kk := ?_)
    refine x_ldc C tw_228 dX8_isSign_5 ?_
    refine x_icmp_gt C dX8_isSign_7 14 (fun hc7 => ?_) (fun hc7 => ?_)
    · refine x_iconst C dX8_isSign_14 (v := 0) (kk := ?_)
      refine x_zret C rfl dX8_isSign_15 (by first | exact Or.inl rfl | exact Or.inr rfl | assumption | exact ite01 _) (hp := ?_)
      refine ⟨?_, rfl⟩
      simp only [Int32.lt_iff_toInt_lt, Int32.le_iff_toInt_le, Int32.not_lt, Int32.not_le, ← Int32.toInt_inj, Int32.reduceToInt, m1_toInt] at hc1 hc7 ⊢
      split <;> first | rfl | (exfalso; omega)
    · refine x_iconst C dX8_isSign_10 (v := 1) (kk := ?_)
      refine x_goto C dX8_isSign_11 15 ?_
      refine x_zret C rfl dX8_isSign_15 (by first | exact Or.inl rfl | exact Or.inr rfl | assumption | exact ite01 _) (hp := ?_)
      refine ⟨?_, rfl⟩
      simp only [Int32.lt_iff_toInt_lt, Int32.le_iff_toInt_le, Int32.not_lt, Int32.not_le, ← Int32.toInt_inj, Int32.reduceToInt, m1_toInt] at hc1 hc7 ⊢
      split <;> first | rfl | (exfalso; omega)
set_option maxRecDepth 100000 in
set_option maxHeartbeats 4000000 in
theorem c_isSignOrNone (l : Launch) (G : xG) {h : xh} (v : Int32) : Ct l G yX8_isSignOrNone cX8_isSignOrNone 1 (Option.some Jvm.ClassFile.FieldType.boolean) { frames := 1, cells := 0, slots := 0, locals := 20 } [.int v] h (fun r h' => r = some (.int (if v = -1 ∨ 0 ≤ v ∧ v ≤ 1114111 then 1 else 0)) ∧ h' = h) := by
  refine Ct.of [some (.int v)] (by decide +kernel) (Nat.le_of_ble_eq_true rfl) (fun p e s m args below meth c bs C hini => ?_)
  refine x_iload_n C dX8_isSignOrNone_0 (kk := ?_)
  refine x_iconst C dX8_isSignOrNone_1 (v := -1) (kk := ?_)
  refine x_icmp_eq C dX8_isSignOrNone_2 12 (fun hc2 => ?_) (fun hc2 => ?_)
  · refine x_iconst C dX8_isSignOrNone_12 (v := 1) (kk := ?_)
    refine x_goto C dX8_isSignOrNone_13 17 ?_
    refine x_zret C rfl dX8_isSignOrNone_17 (by first | exact Or.inl rfl | exact Or.inr rfl | assumption | exact ite01 _) (hp := ?_)
    refine ⟨?_, rfl⟩
    simp only [Int32.lt_iff_toInt_lt, Int32.le_iff_toInt_le, Int32.not_lt, Int32.not_le, ← Int32.toInt_inj, Int32.reduceToInt, m1_toInt] at hc2 ⊢
    split <;> first | rfl | (exfalso; omega)
  · refine x_iload_n C dX8_isSignOrNone_5 (kk := ?_)
    refine x_callS C ml_X8_isSign lk_X8_94 (c_isSign l G v) dX8_isSignOrNone_6 (fun r6 h6 hp6 => ?_)
    obtain ⟨rfl, rfl⟩ := hp6
    refine x_ifB_eq C dX8_isSignOrNone_9 16 (fun hc9 => ?_) (fun hc9 => ?_)
    · refine x_iconst C dX8_isSignOrNone_16 (v := 0) (kk := ?_)
      refine x_zret C rfl dX8_isSignOrNone_17 (by first | exact Or.inl rfl | exact Or.inr rfl | assumption | exact ite01 _) (hp := ?_)
      refine ⟨?_, rfl⟩
      simp only [Int32.lt_iff_toInt_lt, Int32.le_iff_toInt_le, Int32.not_lt, Int32.not_le, ← Int32.toInt_inj, Int32.reduceToInt, m1_toInt] at hc2 hc9 ⊢
      split <;> first | rfl | (exfalso; omega)
    · refine x_iconst C dX8_isSignOrNone_12 (v := 1) (kk := ?_)
      refine x_goto C dX8_isSignOrNone_13 17 ?_
      refine x_zret C rfl dX8_isSignOrNone_17 (by first | exact Or.inl rfl | exact Or.inr rfl | assumption | exact ite01 _) (hp := ?_)
      refine ⟨?_, rfl⟩
      simp only [Int32.lt_iff_toInt_lt, Int32.le_iff_toInt_le, Int32.not_lt, Int32.not_le, ← Int32.toInt_inj, Int32.reduceToInt, m1_toInt] at hc2 hc9 ⊢
      split <;> first | rfl | (exfalso; omega)
set_option maxRecDepth 100000 in
set_option maxHeartbeats 4000000 in
theorem c_isFoldRow (l : Launch) (G : xG) {h : xh} (a b d : Int32) : Ct l G yX8_isFoldRow cX8_isFoldRow 3 (Option.some Jvm.ClassFile.FieldType.boolean) { frames := 2, cells := 0, slots := 0, locals := 40 } [.int a, .int b, .int d] h (fun r h' => r = some (.int (if ((a = -1 ∨ 0 ≤ a ∧ a ≤ 1114111) ∧ (b = -1 ∨ 0 ≤ b ∧ b ≤ 1114111) ∧ (d = -1 ∨ 0 ≤ d ∧ d ≤ 1114111)) ∧ ¬ (a = -1 ∧ ¬ b = -1) ∧ ¬ (b = -1 ∧ ¬ d = -1) then 1 else 0)) ∧ h' = h) := by
  refine Ct.of [some (.int a), some (.int b), some (.int d)] (by decide +kernel) (Nat.le_of_ble_eq_true rfl) (fun p e s m args below meth c bs C hini => ?_)
  refine x_iload_n C dX8_isFoldRow_0 (kk := ?_)
  refine x_callS C ml_X8_isSignOrNone lk_X8_180 (c_isSignOrNone l G a) dX8_isFoldRow_1 (fun r1 h1 hp1 => ?_)
  obtain ⟨rfl, rfl⟩ := hp1
  refine x_ifB_eq C dX8_isFoldRow_4 21 (fun hc4 => ?_) (fun hc4 => ?_)
  · refine x_iconst C dX8_isFoldRow_21 (v := 0) (kk := ?_)
    refine x_zret C rfl dX8_isFoldRow_22 (by first | exact Or.inl rfl | exact Or.inr rfl | assumption | exact ite01 _) (hp := ?_)
    refine ⟨?_, rfl⟩
    simp only [Int32.lt_iff_toInt_lt, Int32.le_iff_toInt_le, Int32.not_lt, Int32.not_le, ← Int32.toInt_inj, Int32.reduceToInt, m1_toInt] at hc4 ⊢
    split <;> first | rfl | (exfalso; omega)
  · refine x_iload_n C dX8_isFoldRow_7 (kk := ?_)
    refine x_callS C ml_X8_isSignOrNone lk_X8_180 (c_isSignOrNone l G b) dX8_isFoldRow_8 (fun r8 h8 hp8 => ?_)
    obtain ⟨rfl, rfl⟩ := hp8
    refine x_ifB_eq C dX8_isFoldRow_11 21 (fun hc11 => ?_) (fun hc11 => ?_)
    · refine x_iconst C dX8_isFoldRow_21 (v := 0) (kk := ?_)
      refine x_zret C rfl dX8_isFoldRow_22 (by first | exact Or.inl rfl | exact Or.inr rfl | assumption | exact ite01 _) (hp := ?_)
      refine ⟨?_, rfl⟩
      simp only [Int32.lt_iff_toInt_lt, Int32.le_iff_toInt_le, Int32.not_lt, Int32.not_le, ← Int32.toInt_inj, Int32.reduceToInt, m1_toInt] at hc4 hc11 ⊢
      split <;> first | rfl | (exfalso; omega)
    · refine x_iload_n C dX8_isFoldRow_14 (kk := ?_)
      refine x_callS C ml_X8_isSignOrNone lk_X8_180 (c_isSignOrNone l G d) dX8_isFoldRow_15 (fun r15 h15 hp15 => ?_)
      obtain ⟨rfl, rfl⟩ := hp15
      refine x_ifB_ne C dX8_isFoldRow_18 23 (fun hc18 => ?_) (fun hc18 => ?_)
      · refine x_iload_n C dX8_isFoldRow_23 (kk := ?_)
        refine x_iconst C dX8_isFoldRow_24 (v := -1) (kk := ?_)
        refine x_icmp_ne C dX8_isFoldRow_25 35 (fun hc25 => ?_) (fun hc25 => ?_)
        · refine x_iload_n C dX8_isFoldRow_35 (kk := ?_)
          refine x_iconst C dX8_isFoldRow_36 (v := -1) (kk := ?_)
          refine x_icmp_ne C dX8_isFoldRow_37 45 (fun hc37 => ?_) (fun hc37 => ?_)
          · refine x_iconst C dX8_isFoldRow_45 (v := 1) (kk := ?_)
            refine x_goto C dX8_isFoldRow_46 50 ?_
            refine x_zret C rfl dX8_isFoldRow_50 (by first | exact Or.inl rfl | exact Or.inr rfl | assumption | exact ite01 _) (hp := ?_)
            refine ⟨?_, rfl⟩
            simp only [Int32.lt_iff_toInt_lt, Int32.le_iff_toInt_le, Int32.not_lt, Int32.not_le, ← Int32.toInt_inj, Int32.reduceToInt, m1_toInt] at hc4 hc11 hc18 hc25 hc37 ⊢
            split <;> first | rfl | (exfalso; omega)
          · refine x_iload_n C dX8_isFoldRow_40 (kk := ?_)
            refine x_iconst C dX8_isFoldRow_41 (v := -1) (kk := ?_)
            refine x_icmp_ne C dX8_isFoldRow_42 49 (fun hc42 => ?_) (fun hc42 => ?_)
            · refine x_iconst C dX8_isFoldRow_49 (v := 0) (kk := ?_)
              refine x_zret C rfl dX8_isFoldRow_50 (by first | exact Or.inl rfl | exact Or.inr rfl | assumption | exact ite01 _) (hp := ?_)
              refine ⟨?_, rfl⟩
              simp only [Int32.lt_iff_toInt_lt, Int32.le_iff_toInt_le, Int32.not_lt, Int32.not_le, ← Int32.toInt_inj, Int32.reduceToInt, m1_toInt] at hc4 hc11 hc18 hc25 hc37 hc42 ⊢
              split <;> first | rfl | (exfalso; omega)
            · refine x_iconst C dX8_isFoldRow_45 (v := 1) (kk := ?_)
              refine x_goto C dX8_isFoldRow_46 50 ?_
              refine x_zret C rfl dX8_isFoldRow_50 (by first | exact Or.inl rfl | exact Or.inr rfl | assumption | exact ite01 _) (hp := ?_)
              refine ⟨?_, rfl⟩
              simp only [Int32.lt_iff_toInt_lt, Int32.le_iff_toInt_le, Int32.not_lt, Int32.not_le, ← Int32.toInt_inj, Int32.reduceToInt, m1_toInt] at hc4 hc11 hc18 hc25 hc37 hc42 ⊢
              split <;> first | rfl | (exfalso; omega)
        · refine x_iload_n C dX8_isFoldRow_28 (kk := ?_)
          refine x_iconst C dX8_isFoldRow_29 (v := -1) (kk := ?_)
          refine x_icmp_eq C dX8_isFoldRow_30 35 (fun hc30 => ?_) (fun hc30 => ?_)
          · refine x_iload_n C dX8_isFoldRow_35 (kk := ?_)
            refine x_iconst C dX8_isFoldRow_36 (v := -1) (kk := ?_)
            refine x_icmp_ne C dX8_isFoldRow_37 45 (fun hc37 => ?_) (fun hc37 => ?_)
            · refine x_iconst C dX8_isFoldRow_45 (v := 1) (kk := ?_)
              refine x_goto C dX8_isFoldRow_46 50 ?_
              refine x_zret C rfl dX8_isFoldRow_50 (by first | exact Or.inl rfl | exact Or.inr rfl | assumption | exact ite01 _) (hp := ?_)
              refine ⟨?_, rfl⟩
              simp only [Int32.lt_iff_toInt_lt, Int32.le_iff_toInt_le, Int32.not_lt, Int32.not_le, ← Int32.toInt_inj, Int32.reduceToInt, m1_toInt] at hc4 hc11 hc18 hc25 hc30 hc37 ⊢
              split <;> first | rfl | (exfalso; omega)
            · refine x_iload_n C dX8_isFoldRow_40 (kk := ?_)
              refine x_iconst C dX8_isFoldRow_41 (v := -1) (kk := ?_)
              refine x_icmp_ne C dX8_isFoldRow_42 49 (fun hc42 => ?_) (fun hc42 => ?_)
              · refine x_iconst C dX8_isFoldRow_49 (v := 0) (kk := ?_)
                refine x_zret C rfl dX8_isFoldRow_50 (by first | exact Or.inl rfl | exact Or.inr rfl | assumption | exact ite01 _) (hp := ?_)
                refine ⟨?_, rfl⟩
                simp only [Int32.lt_iff_toInt_lt, Int32.le_iff_toInt_le, Int32.not_lt, Int32.not_le, ← Int32.toInt_inj, Int32.reduceToInt, m1_toInt] at hc4 hc11 hc18 hc25 hc30 hc37 hc42 ⊢
                split <;> first | rfl | (exfalso; omega)
              · refine x_iconst C dX8_isFoldRow_45 (v := 1) (kk := ?_)
                refine x_goto C dX8_isFoldRow_46 50 ?_
                refine x_zret C rfl dX8_isFoldRow_50 (by first | exact Or.inl rfl | exact Or.inr rfl | assumption | exact ite01 _) (hp := ?_)
                refine ⟨?_, rfl⟩
                simp only [Int32.lt_iff_toInt_lt, Int32.le_iff_toInt_le, Int32.not_lt, Int32.not_le, ← Int32.toInt_inj, Int32.reduceToInt, m1_toInt] at hc4 hc11 hc18 hc25 hc30 hc37 hc42 ⊢
                split <;> first | rfl | (exfalso; omega)
          · refine x_iconst C dX8_isFoldRow_33 (v := 0) (kk := ?_)
            refine x_zret C rfl dX8_isFoldRow_34 (by first | exact Or.inl rfl | exact Or.inr rfl | assumption | exact ite01 _) (hp := ?_)
            refine ⟨?_, rfl⟩
            simp only [Int32.lt_iff_toInt_lt, Int32.le_iff_toInt_le, Int32.not_lt, Int32.not_le, ← Int32.toInt_inj, Int32.reduceToInt, m1_toInt] at hc4 hc11 hc18 hc25 hc30 ⊢
            split <;> first | rfl | (exfalso; omega)
      · refine x_iconst C dX8_isFoldRow_21 (v := 0) (kk := ?_)
        refine x_zret C rfl dX8_isFoldRow_22 (by first | exact Or.inl rfl | exact Or.inr rfl | assumption | exact ite01 _) (hp := ?_)
        refine ⟨?_, rfl⟩
        simp only [Int32.lt_iff_toInt_lt, Int32.le_iff_toInt_le, Int32.not_lt, Int32.not_le, ← Int32.toInt_inj, Int32.reduceToInt, m1_toInt] at hc4 hc11 hc18 ⊢
        split <;> first | rfl | (exfalso; omega)
set_option maxRecDepth 100000 in
set_option maxHeartbeats 4000000 in
theorem c_isPlace (l : Launch) (G : xG) {h : xh} (v : Int32) : Ct l G yX8_isPlace cX8_isPlace 1 (Option.some Jvm.ClassFile.FieldType.boolean) { frames := 0, cells := 0, slots := 0, locals := 0 } [.int v] h (fun r h' => r = some (.int (if 0 ≤ v ∧ v ≤ 7 then 1 else 0)) ∧ h' = h) := by
  refine Ct.of [some (.int v)] (by decide +kernel) (Nat.le_of_ble_eq_true rfl) (fun p e s m args below meth c bs C hini => ?_)
  refine x_iload_n C dX8_isPlace_0 (kk := ?_)
  refine x_if_lt C dX8_isPlace_1 14 (fun hc1 => ?_) (fun hc1 => ?_)
  · refine x_iconst C dX8_isPlace_14 (v := 0) (kk := ?_)
    refine x_zret C rfl dX8_isPlace_15 (by first | exact Or.inl rfl | exact Or.inr rfl | assumption | exact ite01 _) (hp := ?_)
    refine ⟨?_, rfl⟩
    simp only [Int32.lt_iff_toInt_lt, Int32.le_iff_toInt_le, Int32.not_lt, Int32.not_le, ← Int32.toInt_inj, Int32.reduceToInt, m1_toInt] at hc1 ⊢
    split <;> first | rfl | (exfalso; omega)
  · refine x_iload_n C dX8_isPlace_4 (kk := ?_)
    refine x_bipush C dX8_isPlace_5 (v := 8) (kk := ?_)
    refine x_icmp_ge C dX8_isPlace_7 14 (fun hc7 => ?_) (fun hc7 => ?_)
    · refine x_iconst C dX8_isPlace_14 (v := 0) (kk := ?_)
      refine x_zret C rfl dX8_isPlace_15 (by first | exact Or.inl rfl | exact Or.inr rfl | assumption | exact ite01 _) (hp := ?_)
      refine ⟨?_, rfl⟩
      simp only [Int32.lt_iff_toInt_lt, Int32.le_iff_toInt_le, Int32.not_lt, Int32.not_le, ← Int32.toInt_inj, Int32.reduceToInt, m1_toInt] at hc1 hc7 ⊢
      split <;> first | rfl | (exfalso; omega)
    · refine x_iconst C dX8_isPlace_10 (v := 1) (kk := ?_)
      refine x_goto C dX8_isPlace_11 15 ?_
      refine x_zret C rfl dX8_isPlace_15 (by first | exact Or.inl rfl | exact Or.inr rfl | assumption | exact ite01 _) (hp := ?_)
      refine ⟨?_, rfl⟩
      simp only [Int32.lt_iff_toInt_lt, Int32.le_iff_toInt_le, Int32.not_lt, Int32.not_le, ← Int32.toInt_inj, Int32.reduceToInt, m1_toInt] at hc1 hc7 ⊢
      split <;> first | rfl | (exfalso; omega)
set_option maxRecDepth 100000 in
set_option maxHeartbeats 4000000 in
theorem c_isHigh (l : Launch) (G : xG) {h : xh} (v : Int32) : Ct l G yX8_isHigh cX8_isHigh 1 (Option.some Jvm.ClassFile.FieldType.boolean) { frames := 0, cells := 0, slots := 0, locals := 0 } [.int v] h (fun r h' => r = some (.int (if 55296 ≤ v ∧ v ≤ 56319 then 1 else 0)) ∧ h' = h) := by
  refine Ct.of [some (.int v)] (by decide +kernel) (Nat.le_of_ble_eq_true rfl) (fun p e s m args below meth c bs C hini => ?_)
  refine x_iload_n C dX8_isHigh_0 (kk := ?_)
  refine x_ldc C tw_144 dX8_isHigh_1 ?_
  refine x_icmp_lt C dX8_isHigh_3 16 (fun hc3 => ?_) (fun hc3 => ?_)
  · refine x_iconst C dX8_isHigh_16 (v := 0) (kk := ?_)
    refine x_zret C rfl dX8_isHigh_17 (by first | exact Or.inl rfl | exact Or.inr rfl | assumption | exact ite01 _) (hp := ?_)
    refine ⟨?_, rfl⟩
    simp only [Int32.lt_iff_toInt_lt, Int32.le_iff_toInt_le, Int32.not_lt, Int32.not_le, ← Int32.toInt_inj, Int32.reduceToInt, m1_toInt] at hc3 ⊢
    split <;> first | rfl | (exfalso; omega)
  · refine x_iload_n C dX8_isHigh_6 (kk := ?_)
    refine x_ldc C tw_145 dX8_isHigh_7 ?_
    refine x_icmp_ge C dX8_isHigh_9 16 (fun hc9 => ?_) (fun hc9 => ?_)
    · refine x_iconst C dX8_isHigh_16 (v := 0) (kk := ?_)
      refine x_zret C rfl dX8_isHigh_17 (by first | exact Or.inl rfl | exact Or.inr rfl | assumption | exact ite01 _) (hp := ?_)
      refine ⟨?_, rfl⟩
      simp only [Int32.lt_iff_toInt_lt, Int32.le_iff_toInt_le, Int32.not_lt, Int32.not_le, ← Int32.toInt_inj, Int32.reduceToInt, m1_toInt] at hc3 hc9 ⊢
      split <;> first | rfl | (exfalso; omega)
    · refine x_iconst C dX8_isHigh_12 (v := 1) (kk := ?_)
      refine x_goto C dX8_isHigh_13 17 ?_
      refine x_zret C rfl dX8_isHigh_17 (by first | exact Or.inl rfl | exact Or.inr rfl | assumption | exact ite01 _) (hp := ?_)
      refine ⟨?_, rfl⟩
      simp only [Int32.lt_iff_toInt_lt, Int32.le_iff_toInt_le, Int32.not_lt, Int32.not_le, ← Int32.toInt_inj, Int32.reduceToInt, m1_toInt] at hc3 hc9 ⊢
      split <;> first | rfl | (exfalso; omega)
set_option maxRecDepth 100000 in
set_option maxHeartbeats 4000000 in
theorem c_isLow (l : Launch) (G : xG) {h : xh} (v : Int32) : Ct l G yX8_isLow cX8_isLow 1 (Option.some Jvm.ClassFile.FieldType.boolean) { frames := 0, cells := 0, slots := 0, locals := 0 } [.int v] h (fun r h' => r = some (.int (if 56320 ≤ v ∧ v ≤ 57343 then 1 else 0)) ∧ h' = h) := by
  refine Ct.of [some (.int v)] (by decide +kernel) (Nat.le_of_ble_eq_true rfl) (fun p e s m args below meth c bs C hini => ?_)
  refine x_iload_n C dX8_isLow_0 (kk := ?_)
  refine x_ldc C tw_145 dX8_isLow_1 ?_
  refine x_icmp_lt C dX8_isLow_3 16 (fun hc3 => ?_) (fun hc3 => ?_)
  · refine x_iconst C dX8_isLow_16 (v := 0) (kk := ?_)
    refine x_zret C rfl dX8_isLow_17 (by first | exact Or.inl rfl | exact Or.inr rfl | assumption | exact ite01 _) (hp := ?_)
    refine ⟨?_, rfl⟩
    simp only [Int32.lt_iff_toInt_lt, Int32.le_iff_toInt_le, Int32.not_lt, Int32.not_le, ← Int32.toInt_inj, Int32.reduceToInt, m1_toInt] at hc3 ⊢
    split <;> first | rfl | (exfalso; omega)
  · refine x_iload_n C dX8_isLow_6 (kk := ?_)
    refine x_ldc C tw_149 dX8_isLow_7 ?_
    refine x_icmp_gt C dX8_isLow_9 16 (fun hc9 => ?_) (fun hc9 => ?_)
    · refine x_iconst C dX8_isLow_16 (v := 0) (kk := ?_)
      refine x_zret C rfl dX8_isLow_17 (by first | exact Or.inl rfl | exact Or.inr rfl | assumption | exact ite01 _) (hp := ?_)
      refine ⟨?_, rfl⟩
      simp only [Int32.lt_iff_toInt_lt, Int32.le_iff_toInt_le, Int32.not_lt, Int32.not_le, ← Int32.toInt_inj, Int32.reduceToInt, m1_toInt] at hc3 hc9 ⊢
      split <;> first | rfl | (exfalso; omega)
    · refine x_iconst C dX8_isLow_12 (v := 1) (kk := ?_)
      refine x_goto C dX8_isLow_13 17 ?_
      refine x_zret C rfl dX8_isLow_17 (by first | exact Or.inl rfl | exact Or.inr rfl | assumption | exact ite01 _) (hp := ?_)
      refine ⟨?_, rfl⟩
      simp only [Int32.lt_iff_toInt_lt, Int32.le_iff_toInt_le, Int32.not_lt, Int32.not_le, ← Int32.toInt_inj, Int32.reduceToInt, m1_toInt] at hc3 hc9 ⊢
      split <;> first | rfl | (exfalso; omega)
set_option maxRecDepth 100000 in
set_option maxHeartbeats 4000000 in
theorem c_unitsOf (l : Launch) (G : xG) {h : xh} (v : Int32) : Ct l G yX8_unitsOf cX8_unitsOf 1 (Option.some Jvm.ClassFile.FieldType.int) { frames := 0, cells := 0, slots := 0, locals := 0 } [.int v] h (fun r h' => r = some (.int (uOf v)) ∧ h' = h) := by
  refine Ct.of [some (.int v)] (by decide +kernel) (Nat.le_of_ble_eq_true rfl) (fun p e s m args below meth c bs C hini => ?_)
  refine x_iload_n C dX8_unitsOf_0 (kk := ?_)
  refine x_ldc C tw_150 dX8_unitsOf_1 ?_
  refine x_icmp_lt C dX8_unitsOf_3 10 (fun hc3 => ?_) (fun hc3 => ?_)
  · refine x_iconst C dX8_unitsOf_10 (v := 1) (kk := ?_)
    refine x_iret C rfl dX8_unitsOf_11 (hp := ?_)
    refine ⟨?_, rfl⟩
    unfold uOf
    simp only [Int32.lt_iff_toInt_lt, Int32.le_iff_toInt_le, Int32.not_lt, Int32.not_le, ← Int32.toInt_inj, Int32.reduceToInt, m1_toInt] at hc3 ⊢
    split <;> first | rfl | (exfalso; omega)
  · refine x_iconst C dX8_unitsOf_6 (v := 2) (kk := ?_)
    refine x_goto C dX8_unitsOf_7 11 ?_
    refine x_iret C rfl dX8_unitsOf_11 (hp := ?_)
    refine ⟨?_, rfl⟩
    unfold uOf
    simp only [Int32.lt_iff_toInt_lt, Int32.le_iff_toInt_le, Int32.not_lt, Int32.not_le, ← Int32.toInt_inj, Int32.reduceToInt, m1_toInt] at hc3 ⊢
    split <;> first | rfl | (exfalso; omega)
set_option maxRecDepth 100000 in
set_option maxHeartbeats 4000000 in
theorem c_classOf (l : Launch) (G : xG) {h : xh} (v : Int32) : Ct l G yX8_classOf cX8_classOf 1 (Option.some Jvm.ClassFile.FieldType.int) { frames := 0, cells := 0, slots := 0, locals := 0 } [.int v] h (fun r h' => r = some (.int (clsOf v)) ∧ h' = h) := by
  refine Ct.of [some (.int v)] (by decide +kernel) (Nat.le_of_ble_eq_true rfl) (fun p e s m args below meth c bs C hini => ?_)
  refine x_iload_n C dX8_classOf_0 (kk := ?_)
  refine x_bipush C dX8_classOf_1 (v := 127) (kk := ?_)
  refine x_icmp_le C dX8_classOf_3 8 (fun hc3 => ?_) (fun hc3 => ?_)
  · refine x_iload_n C dX8_classOf_8 (kk := ?_)
    refine x_bipush C dX8_classOf_9 (v := 65) (kk := ?_)
    refine x_icmp_lt C dX8_classOf_11 20 (fun hc11 => ?_) (fun hc11 => ?_)
    · refine x_iload_n C dX8_classOf_20 (kk := ?_)
      refine x_bipush C dX8_classOf_21 (v := 97) (kk := ?_)
      refine x_icmp_lt C dX8_classOf_23 34 (fun hc23 => ?_) (fun hc23 => ?_)
      · refine x_iload_n C dX8_classOf_34 (kk := ?_)
        refine x_bipush C dX8_classOf_35 (v := 48) (kk := ?_)
        refine x_icmp_lt C dX8_classOf_37 48 (fun hc37 => ?_) (fun hc37 => ?_)
        · refine x_iload_n C dX8_classOf_48 (kk := ?_)
          refine x_bipush C dX8_classOf_49 (v := 9) (kk := ?_)
          refine x_icmp_eq C dX8_classOf_51 72 (fun hc51 => ?_) (fun hc51 => ?_)
          · refine x_iconst C dX8_classOf_72 (v := 3) (kk := ?_)
            refine x_iret C rfl dX8_classOf_73 (hp := ?_)
            refine ⟨?_, rfl⟩
            unfold clsOf
            simp only [Int32.lt_iff_toInt_lt, Int32.le_iff_toInt_le, Int32.not_lt, Int32.not_le, ← Int32.toInt_inj, Int32.reduceToInt, m1_toInt] at hc3 hc11 hc23 hc37 hc51 ⊢
            repeat' split
            all_goals first | rfl | (exfalso; omega)
          · refine x_iload_n C dX8_classOf_54 (kk := ?_)
            refine x_bipush C dX8_classOf_55 (v := 10) (kk := ?_)
            refine x_icmp_eq C dX8_classOf_57 72 (fun hc57 => ?_) (fun hc57 => ?_)
            · refine x_iconst C dX8_classOf_72 (v := 3) (kk := ?_)
              refine x_iret C rfl dX8_classOf_73 (hp := ?_)
              refine ⟨?_, rfl⟩
              unfold clsOf
              simp only [Int32.lt_iff_toInt_lt, Int32.le_iff_toInt_le, Int32.not_lt, Int32.not_le, ← Int32.toInt_inj, Int32.reduceToInt, m1_toInt] at hc3 hc11 hc23 hc37 hc51 hc57 ⊢
              repeat' split
              all_goals first | rfl | (exfalso; omega)
            · refine x_iload_n C dX8_classOf_60 (kk := ?_)
              refine x_bipush C dX8_classOf_61 (v := 13) (kk := ?_)
              refine x_icmp_eq C dX8_classOf_63 72 (fun hc63 => ?_) (fun hc63 => ?_)
              · refine x_iconst C dX8_classOf_72 (v := 3) (kk := ?_)
                refine x_iret C rfl dX8_classOf_73 (hp := ?_)
                refine ⟨?_, rfl⟩
                unfold clsOf
                simp only [Int32.lt_iff_toInt_lt, Int32.le_iff_toInt_le, Int32.not_lt, Int32.not_le, ← Int32.toInt_inj, Int32.reduceToInt, m1_toInt] at hc3 hc11 hc23 hc37 hc51 hc57 hc63 ⊢
                repeat' split
                all_goals first | rfl | (exfalso; omega)
              · refine x_iload_n C dX8_classOf_66 (kk := ?_)
                refine x_bipush C dX8_classOf_67 (v := 32) (kk := ?_)
                refine x_icmp_ne C dX8_classOf_69 74 (fun hc69 => ?_) (fun hc69 => ?_)
                · refine x_iload_n C dX8_classOf_74 (kk := ?_)
                  refine x_bipush C dX8_classOf_75 (v := 33) (kk := ?_)
                  refine x_icmp_lt C dX8_classOf_77 90 (fun hc77 => ?_) (fun hc77 => ?_)
                  · refine x_iconst C dX8_classOf_90 (v := 0) (kk := ?_)
                    refine x_iret C rfl dX8_classOf_91 (hp := ?_)
                    refine ⟨?_, rfl⟩
                    unfold clsOf
                    simp only [Int32.lt_iff_toInt_lt, Int32.le_iff_toInt_le, Int32.not_lt, Int32.not_le, ← Int32.toInt_inj, Int32.reduceToInt, m1_toInt] at hc3 hc11 hc23 hc37 hc51 hc57 hc63 hc69 hc77 ⊢
                    repeat' split
                    all_goals first | rfl | (exfalso; omega)
                  · refine x_iload_n C dX8_classOf_80 (kk := ?_)
                    refine x_bipush C dX8_classOf_81 (v := 126) (kk := ?_)
                    refine x_icmp_gt C dX8_classOf_83 90 (fun hc83 => ?_) (fun hc83 => ?_)
                    · refine x_iconst C dX8_classOf_90 (v := 0) (kk := ?_)
                      refine x_iret C rfl dX8_classOf_91 (hp := ?_)
                      refine ⟨?_, rfl⟩
                      unfold clsOf
                      simp only [Int32.lt_iff_toInt_lt, Int32.le_iff_toInt_le, Int32.not_lt, Int32.not_le, ← Int32.toInt_inj, Int32.reduceToInt, m1_toInt] at hc3 hc11 hc23 hc37 hc51 hc57 hc63 hc69 hc77 hc83 ⊢
                      repeat' split
                      all_goals first | rfl | (exfalso; omega)
                    · refine x_iconst C dX8_classOf_86 (v := 4) (kk := ?_)
                      refine x_goto C dX8_classOf_87 91 ?_
                      refine x_iret C rfl dX8_classOf_91 (hp := ?_)
                      refine ⟨?_, rfl⟩
                      unfold clsOf
                      simp only [Int32.lt_iff_toInt_lt, Int32.le_iff_toInt_le, Int32.not_lt, Int32.not_le, ← Int32.toInt_inj, Int32.reduceToInt, m1_toInt] at hc3 hc11 hc23 hc37 hc51 hc57 hc63 hc69 hc77 hc83 ⊢
                      repeat' split
                      all_goals first | rfl | (exfalso; omega)
                · refine x_iconst C dX8_classOf_72 (v := 3) (kk := ?_)
                  refine x_iret C rfl dX8_classOf_73 (hp := ?_)
                  refine ⟨?_, rfl⟩
                  unfold clsOf
                  simp only [Int32.lt_iff_toInt_lt, Int32.le_iff_toInt_le, Int32.not_lt, Int32.not_le, ← Int32.toInt_inj, Int32.reduceToInt, m1_toInt] at hc3 hc11 hc23 hc37 hc51 hc57 hc63 hc69 ⊢
                  repeat' split
                  all_goals first | rfl | (exfalso; omega)
        · refine x_iload_n C dX8_classOf_40 (kk := ?_)
          refine x_bipush C dX8_classOf_41 (v := 57) (kk := ?_)
          refine x_icmp_gt C dX8_classOf_43 48 (fun hc43 => ?_) (fun hc43 => ?_)
          · refine x_iload_n C dX8_classOf_48 (kk := ?_)
            refine x_bipush C dX8_classOf_49 (v := 9) (kk := ?_)
            refine x_icmp_eq C dX8_classOf_51 72 (fun hc51 => ?_) (fun hc51 => ?_)
            · refine x_iconst C dX8_classOf_72 (v := 3) (kk := ?_)
              refine x_iret C rfl dX8_classOf_73 (hp := ?_)
              refine ⟨?_, rfl⟩
              unfold clsOf
              simp only [Int32.lt_iff_toInt_lt, Int32.le_iff_toInt_le, Int32.not_lt, Int32.not_le, ← Int32.toInt_inj, Int32.reduceToInt, m1_toInt] at hc3 hc11 hc23 hc37 hc43 hc51 ⊢
              repeat' split
              all_goals first | rfl | (exfalso; omega)
            · refine x_iload_n C dX8_classOf_54 (kk := ?_)
              refine x_bipush C dX8_classOf_55 (v := 10) (kk := ?_)
              refine x_icmp_eq C dX8_classOf_57 72 (fun hc57 => ?_) (fun hc57 => ?_)
              · refine x_iconst C dX8_classOf_72 (v := 3) (kk := ?_)
                refine x_iret C rfl dX8_classOf_73 (hp := ?_)
                refine ⟨?_, rfl⟩
                unfold clsOf
                simp only [Int32.lt_iff_toInt_lt, Int32.le_iff_toInt_le, Int32.not_lt, Int32.not_le, ← Int32.toInt_inj, Int32.reduceToInt, m1_toInt] at hc3 hc11 hc23 hc37 hc43 hc51 hc57 ⊢
                repeat' split
                all_goals first | rfl | (exfalso; omega)
              · refine x_iload_n C dX8_classOf_60 (kk := ?_)
                refine x_bipush C dX8_classOf_61 (v := 13) (kk := ?_)
                refine x_icmp_eq C dX8_classOf_63 72 (fun hc63 => ?_) (fun hc63 => ?_)
                · refine x_iconst C dX8_classOf_72 (v := 3) (kk := ?_)
                  refine x_iret C rfl dX8_classOf_73 (hp := ?_)
                  refine ⟨?_, rfl⟩
                  unfold clsOf
                  simp only [Int32.lt_iff_toInt_lt, Int32.le_iff_toInt_le, Int32.not_lt, Int32.not_le, ← Int32.toInt_inj, Int32.reduceToInt, m1_toInt] at hc3 hc11 hc23 hc37 hc43 hc51 hc57 hc63 ⊢
                  repeat' split
                  all_goals first | rfl | (exfalso; omega)
                · refine x_iload_n C dX8_classOf_66 (kk := ?_)
                  refine x_bipush C dX8_classOf_67 (v := 32) (kk := ?_)
                  refine x_icmp_ne C dX8_classOf_69 74 (fun hc69 => ?_) (fun hc69 => ?_)
                  · refine x_iload_n C dX8_classOf_74 (kk := ?_)
                    refine x_bipush C dX8_classOf_75 (v := 33) (kk := ?_)
                    refine x_icmp_lt C dX8_classOf_77 90 (fun hc77 => ?_) (fun hc77 => ?_)
                    · refine x_iconst C dX8_classOf_90 (v := 0) (kk := ?_)
                      refine x_iret C rfl dX8_classOf_91 (hp := ?_)
                      refine ⟨?_, rfl⟩
                      unfold clsOf
                      simp only [Int32.lt_iff_toInt_lt, Int32.le_iff_toInt_le, Int32.not_lt, Int32.not_le, ← Int32.toInt_inj, Int32.reduceToInt, m1_toInt] at hc3 hc11 hc23 hc37 hc43 hc51 hc57 hc63 hc69 hc77 ⊢
                      repeat' split
                      all_goals first | rfl | (exfalso; omega)
                    · refine x_iload_n C dX8_classOf_80 (kk := ?_)
                      refine x_bipush C dX8_classOf_81 (v := 126) (kk := ?_)
                      refine x_icmp_gt C dX8_classOf_83 90 (fun hc83 => ?_) (fun hc83 => ?_)
                      · refine x_iconst C dX8_classOf_90 (v := 0) (kk := ?_)
                        refine x_iret C rfl dX8_classOf_91 (hp := ?_)
                        refine ⟨?_, rfl⟩
                        unfold clsOf
                        simp only [Int32.lt_iff_toInt_lt, Int32.le_iff_toInt_le, Int32.not_lt, Int32.not_le, ← Int32.toInt_inj, Int32.reduceToInt, m1_toInt] at hc3 hc11 hc23 hc37 hc43 hc51 hc57 hc63 hc69 hc77 hc83 ⊢
                        repeat' split
                        all_goals first | rfl | (exfalso; omega)
                      · refine x_iconst C dX8_classOf_86 (v := 4) (kk := ?_)
                        refine x_goto C dX8_classOf_87 91 ?_
                        refine x_iret C rfl dX8_classOf_91 (hp := ?_)
                        refine ⟨?_, rfl⟩
                        unfold clsOf
                        simp only [Int32.lt_iff_toInt_lt, Int32.le_iff_toInt_le, Int32.not_lt, Int32.not_le, ← Int32.toInt_inj, Int32.reduceToInt, m1_toInt] at hc3 hc11 hc23 hc37 hc43 hc51 hc57 hc63 hc69 hc77 hc83 ⊢
                        repeat' split
                        all_goals first | rfl | (exfalso; omega)
                  · refine x_iconst C dX8_classOf_72 (v := 3) (kk := ?_)
                    refine x_iret C rfl dX8_classOf_73 (hp := ?_)
                    refine ⟨?_, rfl⟩
                    unfold clsOf
                    simp only [Int32.lt_iff_toInt_lt, Int32.le_iff_toInt_le, Int32.not_lt, Int32.not_le, ← Int32.toInt_inj, Int32.reduceToInt, m1_toInt] at hc3 hc11 hc23 hc37 hc43 hc51 hc57 hc63 hc69 ⊢
                    repeat' split
                    all_goals first | rfl | (exfalso; omega)
          · refine x_iconst C dX8_classOf_46 (v := 2) (kk := ?_)
            refine x_iret C rfl dX8_classOf_47 (hp := ?_)
            refine ⟨?_, rfl⟩
            unfold clsOf
            simp only [Int32.lt_iff_toInt_lt, Int32.le_iff_toInt_le, Int32.not_lt, Int32.not_le, ← Int32.toInt_inj, Int32.reduceToInt, m1_toInt] at hc3 hc11 hc23 hc37 hc43 ⊢
            repeat' split
            all_goals first | rfl | (exfalso; omega)
      · refine x_iload_n C dX8_classOf_26 (kk := ?_)
        refine x_bipush C dX8_classOf_27 (v := 122) (kk := ?_)
        refine x_icmp_gt C dX8_classOf_29 34 (fun hc29 => ?_) (fun hc29 => ?_)
        · refine x_iload_n C dX8_classOf_34 (kk := ?_)
          refine x_bipush C dX8_classOf_35 (v := 48) (kk := ?_)
          refine x_icmp_lt C dX8_classOf_37 48 (fun hc37 => ?_) (fun hc37 => ?_)
          · refine x_iload_n C dX8_classOf_48 (kk := ?_)
            refine x_bipush C dX8_classOf_49 (v := 9) (kk := ?_)
            refine x_icmp_eq C dX8_classOf_51 72 (fun hc51 => ?_) (fun hc51 => ?_)
            · refine x_iconst C dX8_classOf_72 (v := 3) (kk := ?_)
              refine x_iret C rfl dX8_classOf_73 (hp := ?_)
              refine ⟨?_, rfl⟩
              unfold clsOf
              simp only [Int32.lt_iff_toInt_lt, Int32.le_iff_toInt_le, Int32.not_lt, Int32.not_le, ← Int32.toInt_inj, Int32.reduceToInt, m1_toInt] at hc3 hc11 hc23 hc29 hc37 hc51 ⊢
              repeat' split
              all_goals first | rfl | (exfalso; omega)
            · refine x_iload_n C dX8_classOf_54 (kk := ?_)
              refine x_bipush C dX8_classOf_55 (v := 10) (kk := ?_)
              refine x_icmp_eq C dX8_classOf_57 72 (fun hc57 => ?_) (fun hc57 => ?_)
              · refine x_iconst C dX8_classOf_72 (v := 3) (kk := ?_)
                refine x_iret C rfl dX8_classOf_73 (hp := ?_)
                refine ⟨?_, rfl⟩
                unfold clsOf
                simp only [Int32.lt_iff_toInt_lt, Int32.le_iff_toInt_le, Int32.not_lt, Int32.not_le, ← Int32.toInt_inj, Int32.reduceToInt, m1_toInt] at hc3 hc11 hc23 hc29 hc37 hc51 hc57 ⊢
                repeat' split
                all_goals first | rfl | (exfalso; omega)
              · refine x_iload_n C dX8_classOf_60 (kk := ?_)
                refine x_bipush C dX8_classOf_61 (v := 13) (kk := ?_)
                refine x_icmp_eq C dX8_classOf_63 72 (fun hc63 => ?_) (fun hc63 => ?_)
                · refine x_iconst C dX8_classOf_72 (v := 3) (kk := ?_)
                  refine x_iret C rfl dX8_classOf_73 (hp := ?_)
                  refine ⟨?_, rfl⟩
                  unfold clsOf
                  simp only [Int32.lt_iff_toInt_lt, Int32.le_iff_toInt_le, Int32.not_lt, Int32.not_le, ← Int32.toInt_inj, Int32.reduceToInt, m1_toInt] at hc3 hc11 hc23 hc29 hc37 hc51 hc57 hc63 ⊢
                  repeat' split
                  all_goals first | rfl | (exfalso; omega)
                · refine x_iload_n C dX8_classOf_66 (kk := ?_)
                  refine x_bipush C dX8_classOf_67 (v := 32) (kk := ?_)
                  refine x_icmp_ne C dX8_classOf_69 74 (fun hc69 => ?_) (fun hc69 => ?_)
                  · refine x_iload_n C dX8_classOf_74 (kk := ?_)
                    refine x_bipush C dX8_classOf_75 (v := 33) (kk := ?_)
                    refine x_icmp_lt C dX8_classOf_77 90 (fun hc77 => ?_) (fun hc77 => ?_)
                    · refine x_iconst C dX8_classOf_90 (v := 0) (kk := ?_)
                      refine x_iret C rfl dX8_classOf_91 (hp := ?_)
                      refine ⟨?_, rfl⟩
                      unfold clsOf
                      simp only [Int32.lt_iff_toInt_lt, Int32.le_iff_toInt_le, Int32.not_lt, Int32.not_le, ← Int32.toInt_inj, Int32.reduceToInt, m1_toInt] at hc3 hc11 hc23 hc29 hc37 hc51 hc57 hc63 hc69 hc77 ⊢
                      repeat' split
                      all_goals first | rfl | (exfalso; omega)
                    · refine x_iload_n C dX8_classOf_80 (kk := ?_)
                      refine x_bipush C dX8_classOf_81 (v := 126) (kk := ?_)
                      refine x_icmp_gt C dX8_classOf_83 90 (fun hc83 => ?_) (fun hc83 => ?_)
                      · refine x_iconst C dX8_classOf_90 (v := 0) (kk := ?_)
                        refine x_iret C rfl dX8_classOf_91 (hp := ?_)
                        refine ⟨?_, rfl⟩
                        unfold clsOf
                        simp only [Int32.lt_iff_toInt_lt, Int32.le_iff_toInt_le, Int32.not_lt, Int32.not_le, ← Int32.toInt_inj, Int32.reduceToInt, m1_toInt] at hc3 hc11 hc23 hc29 hc37 hc51 hc57 hc63 hc69 hc77 hc83 ⊢
                        repeat' split
                        all_goals first | rfl | (exfalso; omega)
                      · refine x_iconst C dX8_classOf_86 (v := 4) (kk := ?_)
                        refine x_goto C dX8_classOf_87 91 ?_
                        refine x_iret C rfl dX8_classOf_91 (hp := ?_)
                        refine ⟨?_, rfl⟩
                        unfold clsOf
                        simp only [Int32.lt_iff_toInt_lt, Int32.le_iff_toInt_le, Int32.not_lt, Int32.not_le, ← Int32.toInt_inj, Int32.reduceToInt, m1_toInt] at hc3 hc11 hc23 hc29 hc37 hc51 hc57 hc63 hc69 hc77 hc83 ⊢
                        repeat' split
                        all_goals first | rfl | (exfalso; omega)
                  · refine x_iconst C dX8_classOf_72 (v := 3) (kk := ?_)
                    refine x_iret C rfl dX8_classOf_73 (hp := ?_)
                    refine ⟨?_, rfl⟩
                    unfold clsOf
                    simp only [Int32.lt_iff_toInt_lt, Int32.le_iff_toInt_le, Int32.not_lt, Int32.not_le, ← Int32.toInt_inj, Int32.reduceToInt, m1_toInt] at hc3 hc11 hc23 hc29 hc37 hc51 hc57 hc63 hc69 ⊢
                    repeat' split
                    all_goals first | rfl | (exfalso; omega)
          · refine x_iload_n C dX8_classOf_40 (kk := ?_)
            refine x_bipush C dX8_classOf_41 (v := 57) (kk := ?_)
            refine x_icmp_gt C dX8_classOf_43 48 (fun hc43 => ?_) (fun hc43 => ?_)
            · refine x_iload_n C dX8_classOf_48 (kk := ?_)
              refine x_bipush C dX8_classOf_49 (v := 9) (kk := ?_)
              refine x_icmp_eq C dX8_classOf_51 72 (fun hc51 => ?_) (fun hc51 => ?_)
              · refine x_iconst C dX8_classOf_72 (v := 3) (kk := ?_)
                refine x_iret C rfl dX8_classOf_73 (hp := ?_)
                refine ⟨?_, rfl⟩
                unfold clsOf
                simp only [Int32.lt_iff_toInt_lt, Int32.le_iff_toInt_le, Int32.not_lt, Int32.not_le, ← Int32.toInt_inj, Int32.reduceToInt, m1_toInt] at hc3 hc11 hc23 hc29 hc37 hc43 hc51 ⊢
                repeat' split
                all_goals first | rfl | (exfalso; omega)
              · refine x_iload_n C dX8_classOf_54 (kk := ?_)
                refine x_bipush C dX8_classOf_55 (v := 10) (kk := ?_)
                refine x_icmp_eq C dX8_classOf_57 72 (fun hc57 => ?_) (fun hc57 => ?_)
                · refine x_iconst C dX8_classOf_72 (v := 3) (kk := ?_)
                  refine x_iret C rfl dX8_classOf_73 (hp := ?_)
                  refine ⟨?_, rfl⟩
                  unfold clsOf
                  simp only [Int32.lt_iff_toInt_lt, Int32.le_iff_toInt_le, Int32.not_lt, Int32.not_le, ← Int32.toInt_inj, Int32.reduceToInt, m1_toInt] at hc3 hc11 hc23 hc29 hc37 hc43 hc51 hc57 ⊢
                  repeat' split
                  all_goals first | rfl | (exfalso; omega)
                · refine x_iload_n C dX8_classOf_60 (kk := ?_)
                  refine x_bipush C dX8_classOf_61 (v := 13) (kk := ?_)
                  refine x_icmp_eq C dX8_classOf_63 72 (fun hc63 => ?_) (fun hc63 => ?_)
                  · refine x_iconst C dX8_classOf_72 (v := 3) (kk := ?_)
                    refine x_iret C rfl dX8_classOf_73 (hp := ?_)
                    refine ⟨?_, rfl⟩
                    unfold clsOf
                    simp only [Int32.lt_iff_toInt_lt, Int32.le_iff_toInt_le, Int32.not_lt, Int32.not_le, ← Int32.toInt_inj, Int32.reduceToInt, m1_toInt] at hc3 hc11 hc23 hc29 hc37 hc43 hc51 hc57 hc63 ⊢
                    repeat' split
                    all_goals first | rfl | (exfalso; omega)
                  · refine x_iload_n C dX8_classOf_66 (kk := ?_)
                    refine x_bipush C dX8_classOf_67 (v := 32) (kk := ?_)
                    refine x_icmp_ne C dX8_classOf_69 74 (fun hc69 => ?_) (fun hc69 => ?_)
                    · refine x_iload_n C dX8_classOf_74 (kk := ?_)
                      refine x_bipush C dX8_classOf_75 (v := 33) (kk := ?_)
                      refine x_icmp_lt C dX8_classOf_77 90 (fun hc77 => ?_) (fun hc77 => ?_)
                      · refine x_iconst C dX8_classOf_90 (v := 0) (kk := ?_)
                        refine x_iret C rfl dX8_classOf_91 (hp := ?_)
                        refine ⟨?_, rfl⟩
                        unfold clsOf
                        simp only [Int32.lt_iff_toInt_lt, Int32.le_iff_toInt_le, Int32.not_lt, Int32.not_le, ← Int32.toInt_inj, Int32.reduceToInt, m1_toInt] at hc3 hc11 hc23 hc29 hc37 hc43 hc51 hc57 hc63 hc69 hc77 ⊢
                        repeat' split
                        all_goals first | rfl | (exfalso; omega)
                      · refine x_iload_n C dX8_classOf_80 (kk := ?_)
                        refine x_bipush C dX8_classOf_81 (v := 126) (kk := ?_)
                        refine x_icmp_gt C dX8_classOf_83 90 (fun hc83 => ?_) (fun hc83 => ?_)
                        · refine x_iconst C dX8_classOf_90 (v := 0) (kk := ?_)
                          refine x_iret C rfl dX8_classOf_91 (hp := ?_)
                          refine ⟨?_, rfl⟩
                          unfold clsOf
                          simp only [Int32.lt_iff_toInt_lt, Int32.le_iff_toInt_le, Int32.not_lt, Int32.not_le, ← Int32.toInt_inj, Int32.reduceToInt, m1_toInt] at hc3 hc11 hc23 hc29 hc37 hc43 hc51 hc57 hc63 hc69 hc77 hc83 ⊢
                          repeat' split
                          all_goals first | rfl | (exfalso; omega)
                        · refine x_iconst C dX8_classOf_86 (v := 4) (kk := ?_)
                          refine x_goto C dX8_classOf_87 91 ?_
                          refine x_iret C rfl dX8_classOf_91 (hp := ?_)
                          refine ⟨?_, rfl⟩
                          unfold clsOf
                          simp only [Int32.lt_iff_toInt_lt, Int32.le_iff_toInt_le, Int32.not_lt, Int32.not_le, ← Int32.toInt_inj, Int32.reduceToInt, m1_toInt] at hc3 hc11 hc23 hc29 hc37 hc43 hc51 hc57 hc63 hc69 hc77 hc83 ⊢
                          repeat' split
                          all_goals first | rfl | (exfalso; omega)
                    · refine x_iconst C dX8_classOf_72 (v := 3) (kk := ?_)
                      refine x_iret C rfl dX8_classOf_73 (hp := ?_)
                      refine ⟨?_, rfl⟩
                      unfold clsOf
                      simp only [Int32.lt_iff_toInt_lt, Int32.le_iff_toInt_le, Int32.not_lt, Int32.not_le, ← Int32.toInt_inj, Int32.reduceToInt, m1_toInt] at hc3 hc11 hc23 hc29 hc37 hc43 hc51 hc57 hc63 hc69 ⊢
                      repeat' split
                      all_goals first | rfl | (exfalso; omega)
            · refine x_iconst C dX8_classOf_46 (v := 2) (kk := ?_)
              refine x_iret C rfl dX8_classOf_47 (hp := ?_)
              refine ⟨?_, rfl⟩
              unfold clsOf
              simp only [Int32.lt_iff_toInt_lt, Int32.le_iff_toInt_le, Int32.not_lt, Int32.not_le, ← Int32.toInt_inj, Int32.reduceToInt, m1_toInt] at hc3 hc11 hc23 hc29 hc37 hc43 ⊢
              repeat' split
              all_goals first | rfl | (exfalso; omega)
        · refine x_iconst C dX8_classOf_32 (v := 1) (kk := ?_)
          refine x_iret C rfl dX8_classOf_33 (hp := ?_)
          refine ⟨?_, rfl⟩
          unfold clsOf
          simp only [Int32.lt_iff_toInt_lt, Int32.le_iff_toInt_le, Int32.not_lt, Int32.not_le, ← Int32.toInt_inj, Int32.reduceToInt, m1_toInt] at hc3 hc11 hc23 hc29 ⊢
          repeat' split
          all_goals first | rfl | (exfalso; omega)
    · refine x_iload_n C dX8_classOf_14 (kk := ?_)
      refine x_bipush C dX8_classOf_15 (v := 90) (kk := ?_)
      refine x_icmp_le C dX8_classOf_17 32 (fun hc17 => ?_) (fun hc17 => ?_)
      · refine x_iconst C dX8_classOf_32 (v := 1) (kk := ?_)
        refine x_iret C rfl dX8_classOf_33 (hp := ?_)
        refine ⟨?_, rfl⟩
        unfold clsOf
        simp only [Int32.lt_iff_toInt_lt, Int32.le_iff_toInt_le, Int32.not_lt, Int32.not_le, ← Int32.toInt_inj, Int32.reduceToInt, m1_toInt] at hc3 hc11 hc17 ⊢
        repeat' split
        all_goals first | rfl | (exfalso; omega)
      · refine x_iload_n C dX8_classOf_20 (kk := ?_)
        refine x_bipush C dX8_classOf_21 (v := 97) (kk := ?_)
        refine x_icmp_lt C dX8_classOf_23 34 (fun hc23 => ?_) (fun hc23 => ?_)
        · refine x_iload_n C dX8_classOf_34 (kk := ?_)
          refine x_bipush C dX8_classOf_35 (v := 48) (kk := ?_)
          refine x_icmp_lt C dX8_classOf_37 48 (fun hc37 => ?_) (fun hc37 => ?_)
          · refine x_iload_n C dX8_classOf_48 (kk := ?_)
            refine x_bipush C dX8_classOf_49 (v := 9) (kk := ?_)
            refine x_icmp_eq C dX8_classOf_51 72 (fun hc51 => ?_) (fun hc51 => ?_)
            · refine x_iconst C dX8_classOf_72 (v := 3) (kk := ?_)
              refine x_iret C rfl dX8_classOf_73 (hp := ?_)
              refine ⟨?_, rfl⟩
              unfold clsOf
              simp only [Int32.lt_iff_toInt_lt, Int32.le_iff_toInt_le, Int32.not_lt, Int32.not_le, ← Int32.toInt_inj, Int32.reduceToInt, m1_toInt] at hc3 hc11 hc17 hc23 hc37 hc51 ⊢
              repeat' split
              all_goals first | rfl | (exfalso; omega)
            · refine x_iload_n C dX8_classOf_54 (kk := ?_)
              refine x_bipush C dX8_classOf_55 (v := 10) (kk := ?_)
              refine x_icmp_eq C dX8_classOf_57 72 (fun hc57 => ?_) (fun hc57 => ?_)
              · refine x_iconst C dX8_classOf_72 (v := 3) (kk := ?_)
                refine x_iret C rfl dX8_classOf_73 (hp := ?_)
                refine ⟨?_, rfl⟩
                unfold clsOf
                simp only [Int32.lt_iff_toInt_lt, Int32.le_iff_toInt_le, Int32.not_lt, Int32.not_le, ← Int32.toInt_inj, Int32.reduceToInt, m1_toInt] at hc3 hc11 hc17 hc23 hc37 hc51 hc57 ⊢
                repeat' split
                all_goals first | rfl | (exfalso; omega)
              · refine x_iload_n C dX8_classOf_60 (kk := ?_)
                refine x_bipush C dX8_classOf_61 (v := 13) (kk := ?_)
                refine x_icmp_eq C dX8_classOf_63 72 (fun hc63 => ?_) (fun hc63 => ?_)
                · refine x_iconst C dX8_classOf_72 (v := 3) (kk := ?_)
                  refine x_iret C rfl dX8_classOf_73 (hp := ?_)
                  refine ⟨?_, rfl⟩
                  unfold clsOf
                  simp only [Int32.lt_iff_toInt_lt, Int32.le_iff_toInt_le, Int32.not_lt, Int32.not_le, ← Int32.toInt_inj, Int32.reduceToInt, m1_toInt] at hc3 hc11 hc17 hc23 hc37 hc51 hc57 hc63 ⊢
                  repeat' split
                  all_goals first | rfl | (exfalso; omega)
                · refine x_iload_n C dX8_classOf_66 (kk := ?_)
                  refine x_bipush C dX8_classOf_67 (v := 32) (kk := ?_)
                  refine x_icmp_ne C dX8_classOf_69 74 (fun hc69 => ?_) (fun hc69 => ?_)
                  · refine x_iload_n C dX8_classOf_74 (kk := ?_)
                    refine x_bipush C dX8_classOf_75 (v := 33) (kk := ?_)
                    refine x_icmp_lt C dX8_classOf_77 90 (fun hc77 => ?_) (fun hc77 => ?_)
                    · refine x_iconst C dX8_classOf_90 (v := 0) (kk := ?_)
                      refine x_iret C rfl dX8_classOf_91 (hp := ?_)
                      refine ⟨?_, rfl⟩
                      unfold clsOf
                      simp only [Int32.lt_iff_toInt_lt, Int32.le_iff_toInt_le, Int32.not_lt, Int32.not_le, ← Int32.toInt_inj, Int32.reduceToInt, m1_toInt] at hc3 hc11 hc17 hc23 hc37 hc51 hc57 hc63 hc69 hc77 ⊢
                      repeat' split
                      all_goals first | rfl | (exfalso; omega)
                    · refine x_iload_n C dX8_classOf_80 (kk := ?_)
                      refine x_bipush C dX8_classOf_81 (v := 126) (kk := ?_)
                      refine x_icmp_gt C dX8_classOf_83 90 (fun hc83 => ?_) (fun hc83 => ?_)
                      · refine x_iconst C dX8_classOf_90 (v := 0) (kk := ?_)
                        refine x_iret C rfl dX8_classOf_91 (hp := ?_)
                        refine ⟨?_, rfl⟩
                        unfold clsOf
                        simp only [Int32.lt_iff_toInt_lt, Int32.le_iff_toInt_le, Int32.not_lt, Int32.not_le, ← Int32.toInt_inj, Int32.reduceToInt, m1_toInt] at hc3 hc11 hc17 hc23 hc37 hc51 hc57 hc63 hc69 hc77 hc83 ⊢
                        repeat' split
                        all_goals first | rfl | (exfalso; omega)
                      · refine x_iconst C dX8_classOf_86 (v := 4) (kk := ?_)
                        refine x_goto C dX8_classOf_87 91 ?_
                        refine x_iret C rfl dX8_classOf_91 (hp := ?_)
                        refine ⟨?_, rfl⟩
                        unfold clsOf
                        simp only [Int32.lt_iff_toInt_lt, Int32.le_iff_toInt_le, Int32.not_lt, Int32.not_le, ← Int32.toInt_inj, Int32.reduceToInt, m1_toInt] at hc3 hc11 hc17 hc23 hc37 hc51 hc57 hc63 hc69 hc77 hc83 ⊢
                        repeat' split
                        all_goals first | rfl | (exfalso; omega)
                  · refine x_iconst C dX8_classOf_72 (v := 3) (kk := ?_)
                    refine x_iret C rfl dX8_classOf_73 (hp := ?_)
                    refine ⟨?_, rfl⟩
                    unfold clsOf
                    simp only [Int32.lt_iff_toInt_lt, Int32.le_iff_toInt_le, Int32.not_lt, Int32.not_le, ← Int32.toInt_inj, Int32.reduceToInt, m1_toInt] at hc3 hc11 hc17 hc23 hc37 hc51 hc57 hc63 hc69 ⊢
                    repeat' split
                    all_goals first | rfl | (exfalso; omega)
          · refine x_iload_n C dX8_classOf_40 (kk := ?_)
            refine x_bipush C dX8_classOf_41 (v := 57) (kk := ?_)
            refine x_icmp_gt C dX8_classOf_43 48 (fun hc43 => ?_) (fun hc43 => ?_)
            · refine x_iload_n C dX8_classOf_48 (kk := ?_)
              refine x_bipush C dX8_classOf_49 (v := 9) (kk := ?_)
              refine x_icmp_eq C dX8_classOf_51 72 (fun hc51 => ?_) (fun hc51 => ?_)
              · refine x_iconst C dX8_classOf_72 (v := 3) (kk := ?_)
                refine x_iret C rfl dX8_classOf_73 (hp := ?_)
                refine ⟨?_, rfl⟩
                unfold clsOf
                simp only [Int32.lt_iff_toInt_lt, Int32.le_iff_toInt_le, Int32.not_lt, Int32.not_le, ← Int32.toInt_inj, Int32.reduceToInt, m1_toInt] at hc3 hc11 hc17 hc23 hc37 hc43 hc51 ⊢
                repeat' split
                all_goals first | rfl | (exfalso; omega)
              · refine x_iload_n C dX8_classOf_54 (kk := ?_)
                refine x_bipush C dX8_classOf_55 (v := 10) (kk := ?_)
                refine x_icmp_eq C dX8_classOf_57 72 (fun hc57 => ?_) (fun hc57 => ?_)
                · refine x_iconst C dX8_classOf_72 (v := 3) (kk := ?_)
                  refine x_iret C rfl dX8_classOf_73 (hp := ?_)
                  refine ⟨?_, rfl⟩
                  unfold clsOf
                  simp only [Int32.lt_iff_toInt_lt, Int32.le_iff_toInt_le, Int32.not_lt, Int32.not_le, ← Int32.toInt_inj, Int32.reduceToInt, m1_toInt] at hc3 hc11 hc17 hc23 hc37 hc43 hc51 hc57 ⊢
                  repeat' split
                  all_goals first | rfl | (exfalso; omega)
                · refine x_iload_n C dX8_classOf_60 (kk := ?_)
                  refine x_bipush C dX8_classOf_61 (v := 13) (kk := ?_)
                  refine x_icmp_eq C dX8_classOf_63 72 (fun hc63 => ?_) (fun hc63 => ?_)
                  · refine x_iconst C dX8_classOf_72 (v := 3) (kk := ?_)
                    refine x_iret C rfl dX8_classOf_73 (hp := ?_)
                    refine ⟨?_, rfl⟩
                    unfold clsOf
                    simp only [Int32.lt_iff_toInt_lt, Int32.le_iff_toInt_le, Int32.not_lt, Int32.not_le, ← Int32.toInt_inj, Int32.reduceToInt, m1_toInt] at hc3 hc11 hc17 hc23 hc37 hc43 hc51 hc57 hc63 ⊢
                    repeat' split
                    all_goals first | rfl | (exfalso; omega)
                  · refine x_iload_n C dX8_classOf_66 (kk := ?_)
                    refine x_bipush C dX8_classOf_67 (v := 32) (kk := ?_)
                    refine x_icmp_ne C dX8_classOf_69 74 (fun hc69 => ?_) (fun hc69 => ?_)
                    · refine x_iload_n C dX8_classOf_74 (kk := ?_)
                      refine x_bipush C dX8_classOf_75 (v := 33) (kk := ?_)
                      refine x_icmp_lt C dX8_classOf_77 90 (fun hc77 => ?_) (fun hc77 => ?_)
                      · refine x_iconst C dX8_classOf_90 (v := 0) (kk := ?_)
                        refine x_iret C rfl dX8_classOf_91 (hp := ?_)
                        refine ⟨?_, rfl⟩
                        unfold clsOf
                        simp only [Int32.lt_iff_toInt_lt, Int32.le_iff_toInt_le, Int32.not_lt, Int32.not_le, ← Int32.toInt_inj, Int32.reduceToInt, m1_toInt] at hc3 hc11 hc17 hc23 hc37 hc43 hc51 hc57 hc63 hc69 hc77 ⊢
                        repeat' split
                        all_goals first | rfl | (exfalso; omega)
                      · refine x_iload_n C dX8_classOf_80 (kk := ?_)
                        refine x_bipush C dX8_classOf_81 (v := 126) (kk := ?_)
                        refine x_icmp_gt C dX8_classOf_83 90 (fun hc83 => ?_) (fun hc83 => ?_)
                        · refine x_iconst C dX8_classOf_90 (v := 0) (kk := ?_)
                          refine x_iret C rfl dX8_classOf_91 (hp := ?_)
                          refine ⟨?_, rfl⟩
                          unfold clsOf
                          simp only [Int32.lt_iff_toInt_lt, Int32.le_iff_toInt_le, Int32.not_lt, Int32.not_le, ← Int32.toInt_inj, Int32.reduceToInt, m1_toInt] at hc3 hc11 hc17 hc23 hc37 hc43 hc51 hc57 hc63 hc69 hc77 hc83 ⊢
                          repeat' split
                          all_goals first | rfl | (exfalso; omega)
                        · refine x_iconst C dX8_classOf_86 (v := 4) (kk := ?_)
                          refine x_goto C dX8_classOf_87 91 ?_
                          refine x_iret C rfl dX8_classOf_91 (hp := ?_)
                          refine ⟨?_, rfl⟩
                          unfold clsOf
                          simp only [Int32.lt_iff_toInt_lt, Int32.le_iff_toInt_le, Int32.not_lt, Int32.not_le, ← Int32.toInt_inj, Int32.reduceToInt, m1_toInt] at hc3 hc11 hc17 hc23 hc37 hc43 hc51 hc57 hc63 hc69 hc77 hc83 ⊢
                          repeat' split
                          all_goals first | rfl | (exfalso; omega)
                    · refine x_iconst C dX8_classOf_72 (v := 3) (kk := ?_)
                      refine x_iret C rfl dX8_classOf_73 (hp := ?_)
                      refine ⟨?_, rfl⟩
                      unfold clsOf
                      simp only [Int32.lt_iff_toInt_lt, Int32.le_iff_toInt_le, Int32.not_lt, Int32.not_le, ← Int32.toInt_inj, Int32.reduceToInt, m1_toInt] at hc3 hc11 hc17 hc23 hc37 hc43 hc51 hc57 hc63 hc69 ⊢
                      repeat' split
                      all_goals first | rfl | (exfalso; omega)
            · refine x_iconst C dX8_classOf_46 (v := 2) (kk := ?_)
              refine x_iret C rfl dX8_classOf_47 (hp := ?_)
              refine ⟨?_, rfl⟩
              unfold clsOf
              simp only [Int32.lt_iff_toInt_lt, Int32.le_iff_toInt_le, Int32.not_lt, Int32.not_le, ← Int32.toInt_inj, Int32.reduceToInt, m1_toInt] at hc3 hc11 hc17 hc23 hc37 hc43 ⊢
              repeat' split
              all_goals first | rfl | (exfalso; omega)
        · refine x_iload_n C dX8_classOf_26 (kk := ?_)
          refine x_bipush C dX8_classOf_27 (v := 122) (kk := ?_)
          refine x_icmp_gt C dX8_classOf_29 34 (fun hc29 => ?_) (fun hc29 => ?_)
          · refine x_iload_n C dX8_classOf_34 (kk := ?_)
            refine x_bipush C dX8_classOf_35 (v := 48) (kk := ?_)
            refine x_icmp_lt C dX8_classOf_37 48 (fun hc37 => ?_) (fun hc37 => ?_)
            · refine x_iload_n C dX8_classOf_48 (kk := ?_)
              refine x_bipush C dX8_classOf_49 (v := 9) (kk := ?_)
              refine x_icmp_eq C dX8_classOf_51 72 (fun hc51 => ?_) (fun hc51 => ?_)
              · refine x_iconst C dX8_classOf_72 (v := 3) (kk := ?_)
                refine x_iret C rfl dX8_classOf_73 (hp := ?_)
                refine ⟨?_, rfl⟩
                unfold clsOf
                simp only [Int32.lt_iff_toInt_lt, Int32.le_iff_toInt_le, Int32.not_lt, Int32.not_le, ← Int32.toInt_inj, Int32.reduceToInt, m1_toInt] at hc3 hc11 hc17 hc23 hc29 hc37 hc51 ⊢
                repeat' split
                all_goals first | rfl | (exfalso; omega)
              · refine x_iload_n C dX8_classOf_54 (kk := ?_)
                refine x_bipush C dX8_classOf_55 (v := 10) (kk := ?_)
                refine x_icmp_eq C dX8_classOf_57 72 (fun hc57 => ?_) (fun hc57 => ?_)
                · refine x_iconst C dX8_classOf_72 (v := 3) (kk := ?_)
                  refine x_iret C rfl dX8_classOf_73 (hp := ?_)
                  refine ⟨?_, rfl⟩
                  unfold clsOf
                  simp only [Int32.lt_iff_toInt_lt, Int32.le_iff_toInt_le, Int32.not_lt, Int32.not_le, ← Int32.toInt_inj, Int32.reduceToInt, m1_toInt] at hc3 hc11 hc17 hc23 hc29 hc37 hc51 hc57 ⊢
                  repeat' split
                  all_goals first | rfl | (exfalso; omega)
                · refine x_iload_n C dX8_classOf_60 (kk := ?_)
                  refine x_bipush C dX8_classOf_61 (v := 13) (kk := ?_)
                  refine x_icmp_eq C dX8_classOf_63 72 (fun hc63 => ?_) (fun hc63 => ?_)
                  · refine x_iconst C dX8_classOf_72 (v := 3) (kk := ?_)
                    refine x_iret C rfl dX8_classOf_73 (hp := ?_)
                    refine ⟨?_, rfl⟩
                    unfold clsOf
                    simp only [Int32.lt_iff_toInt_lt, Int32.le_iff_toInt_le, Int32.not_lt, Int32.not_le, ← Int32.toInt_inj, Int32.reduceToInt, m1_toInt] at hc3 hc11 hc17 hc23 hc29 hc37 hc51 hc57 hc63 ⊢
                    repeat' split
                    all_goals first | rfl | (exfalso; omega)
                  · refine x_iload_n C dX8_classOf_66 (kk := ?_)
                    refine x_bipush C dX8_classOf_67 (v := 32) (kk := ?_)
                    refine x_icmp_ne C dX8_classOf_69 74 (fun hc69 => ?_) (fun hc69 => ?_)
                    · refine x_iload_n C dX8_classOf_74 (kk := ?_)
                      refine x_bipush C dX8_classOf_75 (v := 33) (kk := ?_)
                      refine x_icmp_lt C dX8_classOf_77 90 (fun hc77 => ?_) (fun hc77 => ?_)
                      · refine x_iconst C dX8_classOf_90 (v := 0) (kk := ?_)
                        refine x_iret C rfl dX8_classOf_91 (hp := ?_)
                        refine ⟨?_, rfl⟩
                        unfold clsOf
                        simp only [Int32.lt_iff_toInt_lt, Int32.le_iff_toInt_le, Int32.not_lt, Int32.not_le, ← Int32.toInt_inj, Int32.reduceToInt, m1_toInt] at hc3 hc11 hc17 hc23 hc29 hc37 hc51 hc57 hc63 hc69 hc77 ⊢
                        repeat' split
                        all_goals first | rfl | (exfalso; omega)
                      · refine x_iload_n C dX8_classOf_80 (kk := ?_)
                        refine x_bipush C dX8_classOf_81 (v := 126) (kk := ?_)
                        refine x_icmp_gt C dX8_classOf_83 90 (fun hc83 => ?_) (fun hc83 => ?_)
                        · refine x_iconst C dX8_classOf_90 (v := 0) (kk := ?_)
                          refine x_iret C rfl dX8_classOf_91 (hp := ?_)
                          refine ⟨?_, rfl⟩
                          unfold clsOf
                          simp only [Int32.lt_iff_toInt_lt, Int32.le_iff_toInt_le, Int32.not_lt, Int32.not_le, ← Int32.toInt_inj, Int32.reduceToInt, m1_toInt] at hc3 hc11 hc17 hc23 hc29 hc37 hc51 hc57 hc63 hc69 hc77 hc83 ⊢
                          repeat' split
                          all_goals first | rfl | (exfalso; omega)
                        · refine x_iconst C dX8_classOf_86 (v := 4) (kk := ?_)
                          refine x_goto C dX8_classOf_87 91 ?_
                          refine x_iret C rfl dX8_classOf_91 (hp := ?_)
                          refine ⟨?_, rfl⟩
                          unfold clsOf
                          simp only [Int32.lt_iff_toInt_lt, Int32.le_iff_toInt_le, Int32.not_lt, Int32.not_le, ← Int32.toInt_inj, Int32.reduceToInt, m1_toInt] at hc3 hc11 hc17 hc23 hc29 hc37 hc51 hc57 hc63 hc69 hc77 hc83 ⊢
                          repeat' split
                          all_goals first | rfl | (exfalso; omega)
                    · refine x_iconst C dX8_classOf_72 (v := 3) (kk := ?_)
                      refine x_iret C rfl dX8_classOf_73 (hp := ?_)
                      refine ⟨?_, rfl⟩
                      unfold clsOf
                      simp only [Int32.lt_iff_toInt_lt, Int32.le_iff_toInt_le, Int32.not_lt, Int32.not_le, ← Int32.toInt_inj, Int32.reduceToInt, m1_toInt] at hc3 hc11 hc17 hc23 hc29 hc37 hc51 hc57 hc63 hc69 ⊢
                      repeat' split
                      all_goals first | rfl | (exfalso; omega)
            · refine x_iload_n C dX8_classOf_40 (kk := ?_)
              refine x_bipush C dX8_classOf_41 (v := 57) (kk := ?_)
              refine x_icmp_gt C dX8_classOf_43 48 (fun hc43 => ?_) (fun hc43 => ?_)
              · refine x_iload_n C dX8_classOf_48 (kk := ?_)
                refine x_bipush C dX8_classOf_49 (v := 9) (kk := ?_)
                refine x_icmp_eq C dX8_classOf_51 72 (fun hc51 => ?_) (fun hc51 => ?_)
                · refine x_iconst C dX8_classOf_72 (v := 3) (kk := ?_)
                  refine x_iret C rfl dX8_classOf_73 (hp := ?_)
                  refine ⟨?_, rfl⟩
                  unfold clsOf
                  simp only [Int32.lt_iff_toInt_lt, Int32.le_iff_toInt_le, Int32.not_lt, Int32.not_le, ← Int32.toInt_inj, Int32.reduceToInt, m1_toInt] at hc3 hc11 hc17 hc23 hc29 hc37 hc43 hc51 ⊢
                  repeat' split
                  all_goals first | rfl | (exfalso; omega)
                · refine x_iload_n C dX8_classOf_54 (kk := ?_)
                  refine x_bipush C dX8_classOf_55 (v := 10) (kk := ?_)
                  refine x_icmp_eq C dX8_classOf_57 72 (fun hc57 => ?_) (fun hc57 => ?_)
                  · refine x_iconst C dX8_classOf_72 (v := 3) (kk := ?_)
                    refine x_iret C rfl dX8_classOf_73 (hp := ?_)
                    refine ⟨?_, rfl⟩
                    unfold clsOf
                    simp only [Int32.lt_iff_toInt_lt, Int32.le_iff_toInt_le, Int32.not_lt, Int32.not_le, ← Int32.toInt_inj, Int32.reduceToInt, m1_toInt] at hc3 hc11 hc17 hc23 hc29 hc37 hc43 hc51 hc57 ⊢
                    repeat' split
                    all_goals first | rfl | (exfalso; omega)
                  · refine x_iload_n C dX8_classOf_60 (kk := ?_)
                    refine x_bipush C dX8_classOf_61 (v := 13) (kk := ?_)
                    refine x_icmp_eq C dX8_classOf_63 72 (fun hc63 => ?_) (fun hc63 => ?_)
                    · refine x_iconst C dX8_classOf_72 (v := 3) (kk := ?_)
                      refine x_iret C rfl dX8_classOf_73 (hp := ?_)
                      refine ⟨?_, rfl⟩
                      unfold clsOf
                      simp only [Int32.lt_iff_toInt_lt, Int32.le_iff_toInt_le, Int32.not_lt, Int32.not_le, ← Int32.toInt_inj, Int32.reduceToInt, m1_toInt] at hc3 hc11 hc17 hc23 hc29 hc37 hc43 hc51 hc57 hc63 ⊢
                      repeat' split
                      all_goals first | rfl | (exfalso; omega)
                    · refine x_iload_n C dX8_classOf_66 (kk := ?_)
                      refine x_bipush C dX8_classOf_67 (v := 32) (kk := ?_)
                      refine x_icmp_ne C dX8_classOf_69 74 (fun hc69 => ?_) (fun hc69 => ?_)
                      · refine x_iload_n C dX8_classOf_74 (kk := ?_)
                        refine x_bipush C dX8_classOf_75 (v := 33) (kk := ?_)
                        refine x_icmp_lt C dX8_classOf_77 90 (fun hc77 => ?_) (fun hc77 => ?_)
                        · refine x_iconst C dX8_classOf_90 (v := 0) (kk := ?_)
                          refine x_iret C rfl dX8_classOf_91 (hp := ?_)
                          refine ⟨?_, rfl⟩
                          unfold clsOf
                          simp only [Int32.lt_iff_toInt_lt, Int32.le_iff_toInt_le, Int32.not_lt, Int32.not_le, ← Int32.toInt_inj, Int32.reduceToInt, m1_toInt] at hc3 hc11 hc17 hc23 hc29 hc37 hc43 hc51 hc57 hc63 hc69 hc77 ⊢
                          repeat' split
                          all_goals first | rfl | (exfalso; omega)
                        · refine x_iload_n C dX8_classOf_80 (kk := ?_)
                          refine x_bipush C dX8_classOf_81 (v := 126) (kk := ?_)
                          refine x_icmp_gt C dX8_classOf_83 90 (fun hc83 => ?_) (fun hc83 => ?_)
                          · refine x_iconst C dX8_classOf_90 (v := 0) (kk := ?_)
                            refine x_iret C rfl dX8_classOf_91 (hp := ?_)
                            refine ⟨?_, rfl⟩
                            unfold clsOf
                            simp only [Int32.lt_iff_toInt_lt, Int32.le_iff_toInt_le, Int32.not_lt, Int32.not_le, ← Int32.toInt_inj, Int32.reduceToInt, m1_toInt] at hc3 hc11 hc17 hc23 hc29 hc37 hc43 hc51 hc57 hc63 hc69 hc77 hc83 ⊢
                            repeat' split
                            all_goals first | rfl | (exfalso; omega)
                          · refine x_iconst C dX8_classOf_86 (v := 4) (kk := ?_)
                            refine x_goto C dX8_classOf_87 91 ?_
                            refine x_iret C rfl dX8_classOf_91 (hp := ?_)
                            refine ⟨?_, rfl⟩
                            unfold clsOf
                            simp only [Int32.lt_iff_toInt_lt, Int32.le_iff_toInt_le, Int32.not_lt, Int32.not_le, ← Int32.toInt_inj, Int32.reduceToInt, m1_toInt] at hc3 hc11 hc17 hc23 hc29 hc37 hc43 hc51 hc57 hc63 hc69 hc77 hc83 ⊢
                            repeat' split
                            all_goals first | rfl | (exfalso; omega)
                      · refine x_iconst C dX8_classOf_72 (v := 3) (kk := ?_)
                        refine x_iret C rfl dX8_classOf_73 (hp := ?_)
                        refine ⟨?_, rfl⟩
                        unfold clsOf
                        simp only [Int32.lt_iff_toInt_lt, Int32.le_iff_toInt_le, Int32.not_lt, Int32.not_le, ← Int32.toInt_inj, Int32.reduceToInt, m1_toInt] at hc3 hc11 hc17 hc23 hc29 hc37 hc43 hc51 hc57 hc63 hc69 ⊢
                        repeat' split
                        all_goals first | rfl | (exfalso; omega)
              · refine x_iconst C dX8_classOf_46 (v := 2) (kk := ?_)
                refine x_iret C rfl dX8_classOf_47 (hp := ?_)
                refine ⟨?_, rfl⟩
                unfold clsOf
                simp only [Int32.lt_iff_toInt_lt, Int32.le_iff_toInt_le, Int32.not_lt, Int32.not_le, ← Int32.toInt_inj, Int32.reduceToInt, m1_toInt] at hc3 hc11 hc17 hc23 hc29 hc37 hc43 ⊢
                repeat' split
                all_goals first | rfl | (exfalso; omega)
          · refine x_iconst C dX8_classOf_32 (v := 1) (kk := ?_)
            refine x_iret C rfl dX8_classOf_33 (hp := ?_)
            refine ⟨?_, rfl⟩
            unfold clsOf
            simp only [Int32.lt_iff_toInt_lt, Int32.le_iff_toInt_le, Int32.not_lt, Int32.not_le, ← Int32.toInt_inj, Int32.reduceToInt, m1_toInt] at hc3 hc11 hc17 hc23 hc29 ⊢
            repeat' split
            all_goals first | rfl | (exfalso; omega)
  · refine x_iconst C dX8_classOf_6 (v := 1) (kk := ?_)
    refine x_iret C rfl dX8_classOf_7 (hp := ?_)
    refine ⟨?_, rfl⟩
    unfold clsOf
    simp only [Int32.lt_iff_toInt_lt, Int32.le_iff_toInt_le, Int32.not_lt, Int32.not_le, ← Int32.toInt_inj, Int32.reduceToInt, m1_toInt] at hc3 ⊢
    repeat' split
    all_goals first | rfl | (exfalso; omega)
def narD (v : Int32) : Int32 := if 65281 ≤ v ∧ v ≤ 65374 then v - 65248 else if v = 12288 then 32 else -1
set_option maxRecDepth 100000 in
set_option maxHeartbeats 4000000 in
theorem c_narrowed (l : Launch) (G : xG) {h : xh} (v : Int32) : Ct l G yX8_narrowed cX8_narrowed 1 (Option.some Jvm.ClassFile.FieldType.int) { frames := 0, cells := 0, slots := 0, locals := 0 } [.int v] h (fun r h' => r = some (.int (narD v)) ∧ h' = h) := by
  refine Ct.of [some (.int v)] (by decide +kernel) (Nat.le_of_ble_eq_true rfl) (fun p e s m args below meth c bs C hini => ?_)
  refine x_iload_n C dX8_narrowed_0 (kk := ?_)
  refine x_ldc C tw_432 dX8_narrowed_1 ?_
  refine x_icmp_lt C dX8_narrowed_3 17 (fun hc3 => ?_) (fun hc3 => ?_)
  · refine x_iload_n C dX8_narrowed_17 (kk := ?_)
    refine x_sipush C dX8_narrowed_18 (v := 12288) (kk := ?_)
    refine x_icmp_ne C dX8_narrowed_21 29 (fun hc21 => ?_) (fun hc21 => ?_)
    · refine x_iconst C dX8_narrowed_29 (v := -1) (kk := ?_)
      refine x_iret C rfl dX8_narrowed_30 (hp := ?_)
      refine ⟨?_, rfl⟩
      unfold narD
      simp only [Int32.lt_iff_toInt_lt, Int32.le_iff_toInt_le, Int32.not_lt, Int32.not_le, ← Int32.toInt_inj, Int32.reduceToInt, m1_toInt] at hc3 hc21 ⊢
      repeat' split
      all_goals first | rfl | (exfalso; omega)
    · refine x_bipush C dX8_narrowed_24 (v := 32) (kk := ?_)
      refine x_goto C dX8_narrowed_26 30 ?_
      refine x_iret C rfl dX8_narrowed_30 (hp := ?_)
      refine ⟨?_, rfl⟩
      unfold narD
      simp only [Int32.lt_iff_toInt_lt, Int32.le_iff_toInt_le, Int32.not_lt, Int32.not_le, ← Int32.toInt_inj, Int32.reduceToInt, m1_toInt] at hc3 hc21 ⊢
      repeat' split
      all_goals first | rfl | (exfalso; omega)
  · refine x_iload_n C dX8_narrowed_6 (kk := ?_)
    refine x_ldc C tw_433 dX8_narrowed_7 ?_
    refine x_icmp_gt C dX8_narrowed_9 17 (fun hc9 => ?_) (fun hc9 => ?_)
    · refine x_iload_n C dX8_narrowed_17 (kk := ?_)
      refine x_sipush C dX8_narrowed_18 (v := 12288) (kk := ?_)
      refine x_icmp_ne C dX8_narrowed_21 29 (fun hc21 => ?_) (fun hc21 => ?_)
      · refine x_iconst C dX8_narrowed_29 (v := -1) (kk := ?_)
        refine x_iret C rfl dX8_narrowed_30 (hp := ?_)
        refine ⟨?_, rfl⟩
        unfold narD
        simp only [Int32.lt_iff_toInt_lt, Int32.le_iff_toInt_le, Int32.not_lt, Int32.not_le, ← Int32.toInt_inj, Int32.reduceToInt, m1_toInt] at hc3 hc9 hc21 ⊢
        repeat' split
        all_goals first | rfl | (exfalso; omega)
      · refine x_bipush C dX8_narrowed_24 (v := 32) (kk := ?_)
        refine x_goto C dX8_narrowed_26 30 ?_
        refine x_iret C rfl dX8_narrowed_30 (hp := ?_)
        refine ⟨?_, rfl⟩
        unfold narD
        simp only [Int32.lt_iff_toInt_lt, Int32.le_iff_toInt_le, Int32.not_lt, Int32.not_le, ← Int32.toInt_inj, Int32.reduceToInt, m1_toInt] at hc3 hc9 hc21 ⊢
        repeat' split
        all_goals first | rfl | (exfalso; omega)
    · refine x_iload_n C dX8_narrowed_12 (kk := ?_)
      refine x_ldc C tw_434 dX8_narrowed_13 ?_
      refine x_isub C dX8_narrowed_15 ?_
      refine x_iret C rfl dX8_narrowed_16 (hp := ?_)
      refine ⟨?_, rfl⟩
      unfold narD
      simp only [Int32.lt_iff_toInt_lt, Int32.le_iff_toInt_le, Int32.not_lt, Int32.not_le, ← Int32.toInt_inj, Int32.reduceToInt, m1_toInt] at hc3 hc9 ⊢
      repeat' split
      all_goals first | rfl | (exfalso; omega)
set_option maxRecDepth 100000 in
set_option maxHeartbeats 4000000 in
theorem c_unitOf (l : Launch) (G : xG) {h : xh} (v w : Int32) : Ct l G yX8_unitOf cX8_unitOf 3 (Option.some Jvm.ClassFile.FieldType.int) { frames := 0, cells := 0, slots := 0, locals := 0 } [.int v, .int w] h (fun r h' => r = some (.int (if v < 65536 then v else if w = 0 then (55296 : Int32) + ((v - 65536) >>> ((10 : Int32) &&& 31)) else (56320 : Int32) + ((v - 65536) &&& 1023))) ∧ h' = h) := by
  refine Ct.of [some (.int v), some (.int w), none] (by decide +kernel) (Nat.le_of_ble_eq_true rfl) (fun p e s m args below meth c bs C hini => ?_)
  refine x_iload_n C dX8_unitOf_0 (kk := ?_)
  refine x_ldc C tw_150 dX8_unitOf_1 ?_
  refine x_icmp_ge C dX8_unitOf_3 8 (fun hc3 => ?_) (fun hc3 => ?_)
  · refine x_iload_n C dX8_unitOf_8 (kk := ?_)
    refine x_ldc C tw_150 dX8_unitOf_9 ?_
    refine x_isub C dX8_unitOf_11 ?_
    refine x_istore_n C dX8_unitOf_12 (kk := ?_)
    refine x_iload_n C dX8_unitOf_13 (kk := ?_)
    refine x_if_ne C dX8_unitOf_14 27 (fun hc14 => ?_) (fun hc14 => ?_)
    · refine x_ldc C tw_145 dX8_unitOf_27 ?_
      refine x_iload_n C dX8_unitOf_29 (kk := ?_)
      refine x_sipush C dX8_unitOf_30 (v := 1023) (kk := ?_)
      refine x_iand C dX8_unitOf_33 ?_
      refine x_iadd C dX8_unitOf_34 ?_
      refine x_iret C rfl dX8_unitOf_35 (hp := ?_)
      refine ⟨?_, rfl⟩
      first | rw [if_pos (Int32.not_le.mp hc3)] | (rw [if_neg (Int32.not_lt.mpr hc3)]; first | (rw [if_neg hc14]; done) | rw [if_pos hc14])
    · refine x_ldc C tw_144 dX8_unitOf_17 ?_
      refine x_iload_n C dX8_unitOf_19 (kk := ?_)
      refine x_bipush C dX8_unitOf_20 (v := 10) (kk := ?_)
      refine x_ishr C dX8_unitOf_22 ?_
      refine x_iadd C dX8_unitOf_23 ?_
      refine x_goto C dX8_unitOf_24 35 ?_
      refine x_iret C rfl dX8_unitOf_35 (hp := ?_)
      refine ⟨?_, rfl⟩
      first | rw [if_pos (Int32.not_le.mp hc3)] | (rw [if_neg (Int32.not_lt.mpr hc3)]; first | (rw [if_neg hc14]; done) | rw [if_pos hc14])
  · refine x_iload_n C dX8_unitOf_6 (kk := ?_)
    refine x_iret C rfl dX8_unitOf_7 (hp := ?_)
    refine ⟨?_, rfl⟩
    first | rw [if_pos (Int32.not_le.mp hc3)] | (rw [if_neg (Int32.not_lt.mpr hc3)]; first | (rw [if_neg hc14]; done) | rw [if_pos hc14])
set_option maxRecDepth 100000 in
set_option maxHeartbeats 4000000 in
theorem m_isIn (l : Launch) (G : xG) {h : xh} (v a b : Int32) : Ct l G yX9_isIn cX9_isIn 3 (Option.some Jvm.ClassFile.FieldType.boolean) { frames := 0, cells := 0, slots := 0, locals := 0 } [.int v, .int a, .int b] h (fun r h' => r = some (.int (if a ≤ v ∧ v ≤ b then 1 else 0)) ∧ h' = h) := by
  refine Ct.of [some (.int v), some (.int a), some (.int b)] (by decide +kernel) (Nat.le_of_ble_eq_true rfl) (fun p e s m args below meth c bs C hini => ?_)
  refine x_iload_n C dX9_isIn_0 (kk := ?_)
  refine x_iload_n C dX9_isIn_1 (kk := ?_)
  refine x_icmp_lt C dX9_isIn_2 14 (fun hc2 => ?_) (fun hc2 => ?_)
  · refine x_iconst C dX9_isIn_14 (v := 0) (kk := ?_)
    refine x_zret C rfl dX9_isIn_15 (by first | exact Or.inl rfl | exact Or.inr rfl | assumption | exact ite01 _) (hp := ?_)
    refine ⟨?_, rfl⟩
    simp only [Int32.lt_iff_toInt_lt, Int32.le_iff_toInt_le, Int32.not_lt, Int32.not_le, ← Int32.toInt_inj, Int32.reduceToInt, m1_toInt] at hc2 ⊢
    split <;> first | rfl | (exfalso; omega)
  · refine x_iload_n C dX9_isIn_5 (kk := ?_)
    refine x_iload_n C dX9_isIn_6 (kk := ?_)
    refine x_icmp_gt C dX9_isIn_7 14 (fun hc7 => ?_) (fun hc7 => ?_)
    · refine x_iconst C dX9_isIn_14 (v := 0) (kk := ?_)
      refine x_zret C rfl dX9_isIn_15 (by first | exact Or.inl rfl | exact Or.inr rfl | assumption | exact ite01 _) (hp := ?_)
      refine ⟨?_, rfl⟩
      simp only [Int32.lt_iff_toInt_lt, Int32.le_iff_toInt_le, Int32.not_lt, Int32.not_le, ← Int32.toInt_inj, Int32.reduceToInt, m1_toInt] at hc2 hc7 ⊢
      split <;> first | rfl | (exfalso; omega)
    · refine x_iconst C dX9_isIn_10 (v := 1) (kk := ?_)
      refine x_goto C dX9_isIn_11 15 ?_
      refine x_zret C rfl dX9_isIn_15 (by first | exact Or.inl rfl | exact Or.inr rfl | assumption | exact ite01 _) (hp := ?_)
      refine ⟨?_, rfl⟩
      simp only [Int32.lt_iff_toInt_lt, Int32.le_iff_toInt_le, Int32.not_lt, Int32.not_le, ← Int32.toInt_inj, Int32.reduceToInt, m1_toInt] at hc2 hc7 ⊢
      split <;> first | rfl | (exfalso; omega)
set_option maxRecDepth 100000 in
set_option maxHeartbeats 4000000 in
theorem m_isSign (l : Launch) (G : xG) {h : xh} (v : Int32) : Ct l G yX9_isSign cX9_isSign 1 (Option.some Jvm.ClassFile.FieldType.boolean) { frames := 1, cells := 0, slots := 0, locals := 22 } [.int v] h (fun r h' => r = some (.int (if 0 ≤ v ∧ v ≤ 1114111 then 1 else 0)) ∧ h' = h) := by
  refine Ct.of [some (.int v)] (by decide +kernel) (Nat.le_of_ble_eq_true rfl) (fun p e s m args below meth c bs C hini => ?_)
  refine x_iload_n C dX9_isSign_0 (kk := ?_)
  refine x_iconst C dX9_isSign_1 (v := 0) (kk := ?_)
  refine x_ldc C tw_637 dX9_isSign_2 ?_
  refine x_callS C ml_X9_isIn lk_X9_111 (m_isIn l G v 0 1114111) dX9_isSign_4 (fun r4 h4 hp4 => ?_)
  obtain ⟨rfl, rfl⟩ := hp4
  refine x_zret C rfl dX9_isSign_7 (by first | exact Or.inl rfl | exact Or.inr rfl | assumption | exact ite01 _) (hp := ?_)
  exact ⟨rfl, rfl⟩
set_option maxRecDepth 100000 in
set_option maxHeartbeats 4000000 in
theorem m_isHigh (l : Launch) (G : xG) {h : xh} (v : Int32) : Ct l G yX9_isHigh cX9_isHigh 1 (Option.some Jvm.ClassFile.FieldType.boolean) { frames := 1, cells := 0, slots := 0, locals := 22 } [.int v] h (fun r h' => r = some (.int (if 55296 ≤ v ∧ v ≤ 56319 then 1 else 0)) ∧ h' = h) := by
  refine Ct.of [some (.int v)] (by decide +kernel) (Nat.le_of_ble_eq_true rfl) (fun p e s m args below meth c bs C hini => ?_)
  refine x_iload_n C dX9_isHigh_0 (kk := ?_)
  refine x_ldc C tw_606 dX9_isHigh_1 ?_
  refine x_ldc C tw_607 dX9_isHigh_3 ?_
  refine x_callS C ml_X9_isIn lk_X9_111 (m_isIn l G v 55296 56319) dX9_isHigh_5 (fun r5 h5 hp5 => ?_)
  obtain ⟨rfl, rfl⟩ := hp5
  refine x_zret C rfl dX9_isHigh_8 (by first | exact Or.inl rfl | exact Or.inr rfl | assumption | exact ite01 _) (hp := ?_)
  exact ⟨rfl, rfl⟩
set_option maxRecDepth 100000 in
set_option maxHeartbeats 4000000 in
theorem m_isLow (l : Launch) (G : xG) {h : xh} (v : Int32) : Ct l G yX9_isLow cX9_isLow 1 (Option.some Jvm.ClassFile.FieldType.boolean) { frames := 1, cells := 0, slots := 0, locals := 22 } [.int v] h (fun r h' => r = some (.int (if 56320 ≤ v ∧ v ≤ 57343 then 1 else 0)) ∧ h' = h) := by
  refine Ct.of [some (.int v)] (by decide +kernel) (Nat.le_of_ble_eq_true rfl) (fun p e s m args below meth c bs C hini => ?_)
  refine x_iload_n C dX9_isLow_0 (kk := ?_)
  refine x_ldc C tw_614 dX9_isLow_1 ?_
  refine x_ldc C tw_615 dX9_isLow_3 ?_
  refine x_callS C ml_X9_isIn lk_X9_111 (m_isIn l G v 56320 57343) dX9_isLow_5 (fun r5 h5 hp5 => ?_)
  obtain ⟨rfl, rfl⟩ := hp5
  refine x_zret C rfl dX9_isLow_8 (by first | exact Or.inl rfl | exact Or.inr rfl | assumption | exact ite01 _) (hp := ?_)
  exact ⟨rfl, rfl⟩
set_option maxRecDepth 100000 in
set_option maxHeartbeats 4000000 in
theorem m_isPlace (l : Launch) (G : xG) {h : xh} (v : Int32) : Ct l G yX9_isPlace cX9_isPlace 1 (Option.some Jvm.ClassFile.FieldType.boolean) { frames := 1, cells := 0, slots := 0, locals := 22 } [.int v] h (fun r h' => r = some (.int (if 0 ≤ v ∧ v ≤ 7 then 1 else 0)) ∧ h' = h) := by
  refine Ct.of [some (.int v)] (by decide +kernel) (Nat.le_of_ble_eq_true rfl) (fun p e s m args below meth c bs C hini => ?_)
  refine x_iload_n C dX9_isPlace_0 (kk := ?_)
  refine x_iconst C dX9_isPlace_1 (v := 0) (kk := ?_)
  refine x_bipush C dX9_isPlace_2 (v := 7) (kk := ?_)
  refine x_callS C ml_X9_isIn lk_X9_111 (m_isIn l G v 0 7) dX9_isPlace_4 (fun r4 h4 hp4 => ?_)
  obtain ⟨rfl, rfl⟩ := hp4
  refine x_zret C rfl dX9_isPlace_7 (by first | exact Or.inl rfl | exact Or.inr rfl | assumption | exact ite01 _) (hp := ?_)
  exact ⟨rfl, rfl⟩
set_option maxRecDepth 100000 in
set_option maxHeartbeats 4000000 in
theorem m_isSignOrNone (l : Launch) (G : xG) {h : xh} (v : Int32) : Ct l G yX9_isSignOrNone cX9_isSignOrNone 1 (Option.some Jvm.ClassFile.FieldType.boolean) { frames := 2, cells := 0, slots := 0, locals := 42 } [.int v] h (fun r h' => r = some (.int (if v = -1 ∨ 0 ≤ v ∧ v ≤ 1114111 then 1 else 0)) ∧ h' = h) := by
  refine Ct.of [some (.int v)] (by decide +kernel) (Nat.le_of_ble_eq_true rfl) (fun p e s m args below meth c bs C hini => ?_)
  refine x_iload_n C dX9_isSignOrNone_0 (kk := ?_)
  refine x_iconst C dX9_isSignOrNone_1 (v := -1) (kk := ?_)
  refine x_icmp_eq C dX9_isSignOrNone_2 12 (fun hc2 => ?_) (fun hc2 => ?_)
  · refine x_iconst C dX9_isSignOrNone_12 (v := 1) (kk := ?_)
    refine x_goto C dX9_isSignOrNone_13 17 ?_
    refine x_zret C rfl dX9_isSignOrNone_17 (by first | exact Or.inl rfl | exact Or.inr rfl | assumption | exact ite01 _) (hp := ?_)
    refine ⟨?_, rfl⟩
    simp only [Int32.lt_iff_toInt_lt, Int32.le_iff_toInt_le, Int32.not_lt, Int32.not_le, ← Int32.toInt_inj, Int32.reduceToInt, m1_toInt] at hc2 ⊢
    split <;> first | rfl | (exfalso; omega)
  · refine x_iload_n C dX9_isSignOrNone_5 (kk := ?_)
    refine x_callS C ml_X9_isSign lk_X9_158 (m_isSign l G v) dX9_isSignOrNone_6 (fun r6 h6 hp6 => ?_)
    obtain ⟨rfl, rfl⟩ := hp6
    refine x_ifB_eq C dX9_isSignOrNone_9 16 (fun hc9 => ?_) (fun hc9 => ?_)
    · refine x_iconst C dX9_isSignOrNone_16 (v := 0) (kk := ?_)
      refine x_zret C rfl dX9_isSignOrNone_17 (by first | exact Or.inl rfl | exact Or.inr rfl | assumption | exact ite01 _) (hp := ?_)
      refine ⟨?_, rfl⟩
      simp only [Int32.lt_iff_toInt_lt, Int32.le_iff_toInt_le, Int32.not_lt, Int32.not_le, ← Int32.toInt_inj, Int32.reduceToInt, m1_toInt] at hc2 hc9 ⊢
      split <;> first | rfl | (exfalso; omega)
    · refine x_iconst C dX9_isSignOrNone_12 (v := 1) (kk := ?_)
      refine x_goto C dX9_isSignOrNone_13 17 ?_
      refine x_zret C rfl dX9_isSignOrNone_17 (by first | exact Or.inl rfl | exact Or.inr rfl | assumption | exact ite01 _) (hp := ?_)
      refine ⟨?_, rfl⟩
      simp only [Int32.lt_iff_toInt_lt, Int32.le_iff_toInt_le, Int32.not_lt, Int32.not_le, ← Int32.toInt_inj, Int32.reduceToInt, m1_toInt] at hc2 hc9 ⊢
      split <;> first | rfl | (exfalso; omega)
set_option maxRecDepth 100000 in
set_option maxHeartbeats 4000000 in
theorem m_unitsOf (l : Launch) (G : xG) {h : xh} (v : Int32) : Ct l G yX9_unitsOf cX9_unitsOf 1 (Option.some Jvm.ClassFile.FieldType.int) { frames := 0, cells := 0, slots := 0, locals := 0 } [.int v] h (fun r h' => r = some (.int (uOf v)) ∧ h' = h) := by
  refine Ct.of [some (.int v)] (by decide +kernel) (Nat.le_of_ble_eq_true rfl) (fun p e s m args below meth c bs C hini => ?_)
  refine x_iload_n C dX9_unitsOf_0 (kk := ?_)
  refine x_ldc C tw_588 dX9_unitsOf_1 ?_
  refine x_icmp_le C dX9_unitsOf_3 10 (fun hc3 => ?_) (fun hc3 => ?_)
  · refine x_iconst C dX9_unitsOf_10 (v := 1) (kk := ?_)
    refine x_iret C rfl dX9_unitsOf_11 (hp := ?_)
    refine ⟨?_, rfl⟩
    unfold uOf
    simp only [Int32.lt_iff_toInt_lt, Int32.le_iff_toInt_le, Int32.not_lt, Int32.not_le, ← Int32.toInt_inj, Int32.reduceToInt, m1_toInt] at hc3 ⊢
    split <;> first | rfl | (exfalso; omega)
  · refine x_iconst C dX9_unitsOf_6 (v := 2) (kk := ?_)
    refine x_goto C dX9_unitsOf_7 11 ?_
    refine x_iret C rfl dX9_unitsOf_11 (hp := ?_)
    refine ⟨?_, rfl⟩
    unfold uOf
    simp only [Int32.lt_iff_toInt_lt, Int32.le_iff_toInt_le, Int32.not_lt, Int32.not_le, ← Int32.toInt_inj, Int32.reduceToInt, m1_toInt] at hc3 ⊢
    split <;> first | rfl | (exfalso; omega)
set_option maxRecDepth 100000 in
set_option maxHeartbeats 4000000 in
theorem m_classOf (l : Launch) (G : xG) {h : xh} (v : Int32) : Ct l G yX9_classOf cX9_classOf 1 (Option.some Jvm.ClassFile.FieldType.int) { frames := 1, cells := 0, slots := 0, locals := 22 } [.int v] h (fun r h' => r = some (.int (clsOf v)) ∧ h' = h) := by
  refine Ct.of [some (.int v)] (by decide +kernel) (Nat.le_of_ble_eq_true rfl) (fun p e s m args below meth c bs C hini => ?_)
  refine x_iload_n C dX9_classOf_0 (kk := ?_)
  refine x_bipush C dX9_classOf_1 (v := 127) (kk := ?_)
  refine x_icmp_gt C dX9_classOf_3 28 (fun hc3 => ?_) (fun hc3 => ?_)
  · refine x_iconst C dX9_classOf_28 (v := 1) (kk := ?_)
    refine x_iret C rfl dX9_classOf_29 (hp := ?_)
    refine ⟨?_, rfl⟩
    unfold clsOf
    simp only [Int32.lt_iff_toInt_lt, Int32.le_iff_toInt_le, Int32.not_lt, Int32.not_le, ← Int32.toInt_inj, Int32.reduceToInt, m1_toInt] at hc3 ⊢
    repeat' split
    all_goals first | rfl | (exfalso; omega)
  · refine x_iload_n C dX9_classOf_6 (kk := ?_)
    refine x_bipush C dX9_classOf_7 (v := 65) (kk := ?_)
    refine x_bipush C dX9_classOf_9 (v := 90) (kk := ?_)
    refine x_callS C ml_X9_isIn lk_X9_111 (m_isIn l G v 65 90) dX9_classOf_11 (fun r11 h11 hp11 => ?_)
    obtain ⟨rfl, rfl⟩ := hp11
    refine x_ifB_ne C dX9_classOf_14 28 (fun hc14 => ?_) (fun hc14 => ?_)
    · refine x_iconst C dX9_classOf_28 (v := 1) (kk := ?_)
      refine x_iret C rfl dX9_classOf_29 (hp := ?_)
      refine ⟨?_, rfl⟩
      unfold clsOf
      simp only [Int32.lt_iff_toInt_lt, Int32.le_iff_toInt_le, Int32.not_lt, Int32.not_le, ← Int32.toInt_inj, Int32.reduceToInt, m1_toInt] at hc3 hc14 ⊢
      repeat' split
      all_goals first | rfl | (exfalso; omega)
    · refine x_iload_n C dX9_classOf_17 (kk := ?_)
      refine x_bipush C dX9_classOf_18 (v := 97) (kk := ?_)
      refine x_bipush C dX9_classOf_20 (v := 122) (kk := ?_)
      refine x_callS C ml_X9_isIn lk_X9_111 (m_isIn l G v 97 122) dX9_classOf_22 (fun r22 h22 hp22 => ?_)
      obtain ⟨rfl, rfl⟩ := hp22
      refine x_ifB_eq C dX9_classOf_25 30 (fun hc25 => ?_) (fun hc25 => ?_)
      · refine x_iload_n C dX9_classOf_30 (kk := ?_)
        refine x_bipush C dX9_classOf_31 (v := 48) (kk := ?_)
        refine x_bipush C dX9_classOf_33 (v := 57) (kk := ?_)
        refine x_callS C ml_X9_isIn lk_X9_111 (m_isIn l G v 48 57) dX9_classOf_35 (fun r35 h35 hp35 => ?_)
        obtain ⟨rfl, rfl⟩ := hp35
        refine x_ifB_eq C dX9_classOf_38 43 (fun hc38 => ?_) (fun hc38 => ?_)
        · refine x_iload_n C dX9_classOf_43 (kk := ?_)
          refine x_bipush C dX9_classOf_44 (v := 9) (kk := ?_)
          refine x_icmp_eq C dX9_classOf_46 67 (fun hc46 => ?_) (fun hc46 => ?_)
          · refine x_iconst C dX9_classOf_67 (v := 3) (kk := ?_)
            refine x_iret C rfl dX9_classOf_68 (hp := ?_)
            refine ⟨?_, rfl⟩
            unfold clsOf
            simp only [Int32.lt_iff_toInt_lt, Int32.le_iff_toInt_le, Int32.not_lt, Int32.not_le, ← Int32.toInt_inj, Int32.reduceToInt, m1_toInt] at hc3 hc14 hc25 hc38 hc46 ⊢
            repeat' split
            all_goals first | rfl | (exfalso; omega)
          · refine x_iload_n C dX9_classOf_49 (kk := ?_)
            refine x_bipush C dX9_classOf_50 (v := 10) (kk := ?_)
            refine x_icmp_eq C dX9_classOf_52 67 (fun hc52 => ?_) (fun hc52 => ?_)
            · refine x_iconst C dX9_classOf_67 (v := 3) (kk := ?_)
              refine x_iret C rfl dX9_classOf_68 (hp := ?_)
              refine ⟨?_, rfl⟩
              unfold clsOf
              simp only [Int32.lt_iff_toInt_lt, Int32.le_iff_toInt_le, Int32.not_lt, Int32.not_le, ← Int32.toInt_inj, Int32.reduceToInt, m1_toInt] at hc3 hc14 hc25 hc38 hc46 hc52 ⊢
              repeat' split
              all_goals first | rfl | (exfalso; omega)
            · refine x_iload_n C dX9_classOf_55 (kk := ?_)
              refine x_bipush C dX9_classOf_56 (v := 13) (kk := ?_)
              refine x_icmp_eq C dX9_classOf_58 67 (fun hc58 => ?_) (fun hc58 => ?_)
              · refine x_iconst C dX9_classOf_67 (v := 3) (kk := ?_)
                refine x_iret C rfl dX9_classOf_68 (hp := ?_)
                refine ⟨?_, rfl⟩
                unfold clsOf
                simp only [Int32.lt_iff_toInt_lt, Int32.le_iff_toInt_le, Int32.not_lt, Int32.not_le, ← Int32.toInt_inj, Int32.reduceToInt, m1_toInt] at hc3 hc14 hc25 hc38 hc46 hc52 hc58 ⊢
                repeat' split
                all_goals first | rfl | (exfalso; omega)
              · refine x_iload_n C dX9_classOf_61 (kk := ?_)
                refine x_bipush C dX9_classOf_62 (v := 32) (kk := ?_)
                refine x_icmp_ne C dX9_classOf_64 69 (fun hc64 => ?_) (fun hc64 => ?_)
                · refine x_iload_n C dX9_classOf_69 (kk := ?_)
                  refine x_bipush C dX9_classOf_70 (v := 33) (kk := ?_)
                  refine x_bipush C dX9_classOf_72 (v := 126) (kk := ?_)
                  refine x_callS C ml_X9_isIn lk_X9_111 (m_isIn l G v 33 126) dX9_classOf_74 (fun r74 h74 hp74 => ?_)
                  obtain ⟨rfl, rfl⟩ := hp74
                  refine x_ifB_eq C dX9_classOf_77 84 (fun hc77 => ?_) (fun hc77 => ?_)
                  · refine x_iconst C dX9_classOf_84 (v := 0) (kk := ?_)
                    refine x_iret C rfl dX9_classOf_85 (hp := ?_)
                    refine ⟨?_, rfl⟩
                    unfold clsOf
                    simp only [Int32.lt_iff_toInt_lt, Int32.le_iff_toInt_le, Int32.not_lt, Int32.not_le, ← Int32.toInt_inj, Int32.reduceToInt, m1_toInt] at hc3 hc14 hc25 hc38 hc46 hc52 hc58 hc64 hc77 ⊢
                    repeat' split
                    all_goals first | rfl | (exfalso; omega)
                  · refine x_iconst C dX9_classOf_80 (v := 4) (kk := ?_)
                    refine x_goto C dX9_classOf_81 85 ?_
                    refine x_iret C rfl dX9_classOf_85 (hp := ?_)
                    refine ⟨?_, rfl⟩
                    unfold clsOf
                    simp only [Int32.lt_iff_toInt_lt, Int32.le_iff_toInt_le, Int32.not_lt, Int32.not_le, ← Int32.toInt_inj, Int32.reduceToInt, m1_toInt] at hc3 hc14 hc25 hc38 hc46 hc52 hc58 hc64 hc77 ⊢
                    repeat' split
                    all_goals first | rfl | (exfalso; omega)
                · refine x_iconst C dX9_classOf_67 (v := 3) (kk := ?_)
                  refine x_iret C rfl dX9_classOf_68 (hp := ?_)
                  refine ⟨?_, rfl⟩
                  unfold clsOf
                  simp only [Int32.lt_iff_toInt_lt, Int32.le_iff_toInt_le, Int32.not_lt, Int32.not_le, ← Int32.toInt_inj, Int32.reduceToInt, m1_toInt] at hc3 hc14 hc25 hc38 hc46 hc52 hc58 hc64 ⊢
                  repeat' split
                  all_goals first | rfl | (exfalso; omega)
        · refine x_iconst C dX9_classOf_41 (v := 2) (kk := ?_)
          refine x_iret C rfl dX9_classOf_42 (hp := ?_)
          refine ⟨?_, rfl⟩
          unfold clsOf
          simp only [Int32.lt_iff_toInt_lt, Int32.le_iff_toInt_le, Int32.not_lt, Int32.not_le, ← Int32.toInt_inj, Int32.reduceToInt, m1_toInt] at hc3 hc14 hc25 hc38 ⊢
          repeat' split
          all_goals first | rfl | (exfalso; omega)
      · refine x_iconst C dX9_classOf_28 (v := 1) (kk := ?_)
        refine x_iret C rfl dX9_classOf_29 (hp := ?_)
        refine ⟨?_, rfl⟩
        unfold clsOf
        simp only [Int32.lt_iff_toInt_lt, Int32.le_iff_toInt_le, Int32.not_lt, Int32.not_le, ← Int32.toInt_inj, Int32.reduceToInt, m1_toInt] at hc3 hc14 hc25 ⊢
        repeat' split
        all_goals first | rfl | (exfalso; omega)
