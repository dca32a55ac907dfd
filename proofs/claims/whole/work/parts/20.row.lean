/-! ROWS OF SIGNS: the class's SignRow -/
/-- a SignRow at r, its arrays behind it: it holds q -/
def RwF (G : xG) (h : xh) (r n : Nat) (f0 f1 f2 : Nat → Int32) : Prop := h.1 r = some (eO 5 [.ref (r + 1), .ref (r + 2), .ref (r + 3), .int (nI n)]) ∧ h.1 (r + 1) = some (eI G 300 f0) ∧ h.1 (r + 2) = some (eI G 300 f1) ∧ h.1 (r + 3) = some (eI G 300 f2)
def Rw (G : xG) (h : xh) (r : Nat) (q : List Sg) : Prop := q.length ≤ 300 ∧ ∃ f0 f1 f2 : Nat → Int32, RwF G h r q.length f0 f1 f2 ∧ fL f0 (q.map (·.1)) ∧ fL f1 (q.map (·.2.1)) ∧ fL f2 (q.map (·.2.2))
theorem Rw.fr {G : xG} {h h' : xh} {r : Nat} {q : List Sg} {A : Nat → Prop} (k : Rw G h r q) (f : Fr A h h') (hd : ∀ b, At r 4 b → ¬ A b) : Rw G h' r q := by
  obtain ⟨hn, f0, f1, f2, ⟨g0, g1, g2, g3⟩, k0⟩ := k
  exact ⟨hn, f0, f1, f2, ⟨f.at (hd r ⟨by omega, by omega⟩) g0, f.at (hd _ ⟨by omega, by omega⟩) g1, f.at (hd _ ⟨by omega, by omega⟩) g2, f.at (hd _ ⟨by omega, by omega⟩) g3⟩, k0⟩
theorem Rw.ob {G : xG} {h : xh} {r : Nat} {q : List Sg} (k : Rw G h r q) : h.1 r = some (eO 5 [.ref (r + 1), .ref (r + 2), .ref (r + 3), .int (nI q.length)]) := by
  obtain ⟨hn, f0, f1, f2, ⟨g0, g1, g2, g3⟩, k0⟩ := k
  exact g0
set_option maxRecDepth 100000 in
set_option maxHeartbeats 4000000 in
theorem c_row_init (l : Launch) (G : xG) {h : xh} {r : Nat} (hr : h.1 r = some (eO 5 [.null, .null, .null, .int 0])) (hn : h.2 = r + 1) : Ct l G yX5_init cX5_init 1 (Option.none : Option Jvm.ClassFile.FieldType) { frames := 1, cells := 3, slots := 900, locals := 16 } [.ref r] h (fun v h' => v = none ∧ Rw G h' r [] ∧ h'.2 = r + 4 ∧ ∀ b, b < r → h'.1 b = h.1 b) := by
  refine Ct.of [some (.ref r)] (by decide +kernel) (Nat.le_of_ble_eq_true rfl) (fun p e s m args below meth c bs C hini => ?_)
  refine x_aload_n C dX5_init_0 (kk := ?_)
  refine x_oinit C tw_86 dX5_init_1 tw_20 tw_21 (kk := ?_)
  refine x_aload_n C dX5_init_4 (kk := ?_)
  refine x_sipush C dX5_init_5 (v := 300) (kk := ?_)
  refine x_newi C 300 tw_37 dX5_init_8 (kk := ?_)
  refine x_putF C hini fp_X5_9 dX5_init_10 (fs := [.null, .null, .null, .int 0]) (hh := by simp [x_set, x_new, *] <;> omega) (kk := ?_)
  refine x_aload_n C dX5_init_13 (kk := ?_)
  refine x_sipush C dX5_init_14 (v := 300) (kk := ?_)
  refine x_newi C 300 tw_37 dX5_init_17 (kk := ?_)
  refine x_putF C hini fp_X5_15 dX5_init_19 (fs := [.ref (r + 1), .null, .null, .int 0]) (hh := by simp [x_set, x_new, *] <;> omega) (kk := ?_)
  refine x_aload_n C dX5_init_22 (kk := ?_)
  refine x_sipush C dX5_init_23 (v := 300) (kk := ?_)
  refine x_newi C 300 tw_37 dX5_init_26 (kk := ?_)
  refine x_putF C hini fp_X5_18 dX5_init_28 (fs := [.ref (r + 1), .ref (r + 2), .null, .int 0]) (hh := by simp [x_set, x_new, *] <;> omega) (kk := ?_)
  refine x_aload_n C dX5_init_31 (kk := ?_)
  refine x_iconst C dX5_init_32 (v := 0) (kk := ?_)
  refine x_put C fp_X5_21 dX5_init_33 (fs := [.ref (r + 1), .ref (r + 2), .ref (r + 3), .int 0]) (hh := by simp [x_set, x_new, *] <;> omega) (kk := ?_)
  refine x_vret C rfl dX5_init_36 (hp := ?_)
  exact ⟨rfl, ⟨by simp, (fun _ => 0), (fun _ => 0), (fun _ => 0), ⟨by simp [x_set, x_new, hn]; rfl, by simp [x_set, x_new, hn], by simp [x_set, x_new, hn], by simp [x_set, x_new, hn]⟩, fL_nil _, fL_nil _, fL_nil _⟩, by simp [x_set, x_new, hn], fun b hb => by simp [x_set, x_new, hn, show b ≠ r by omega, show b ≠ r + 1 by omega, show b ≠ r + 2 by omega, show b ≠ r + 3 by omega]⟩
set_option maxRecDepth 100000 in
set_option maxHeartbeats 4000000 in
theorem c_row_size (l : Launch) (G : xG) {h : xh} {r : Nat} {q : List Sg} (hr : Rw G h r q) : Ct l G yX5_size cX5_size 1 (Option.some Jvm.ClassFile.FieldType.int) { frames := 0, cells := 0, slots := 0, locals := 0 } [.ref r] h (fun v h' => v = some (.int (nI q.length)) ∧ h' = h) := by
  obtain ⟨hn, f0, f1, f2, ⟨g0, g1, g2, g3⟩, k0, k1, k2⟩ := hr
  refine Ct.of [some (.ref r)] (by decide +kernel) (Nat.le_of_ble_eq_true rfl) (fun p e s m args below meth c bs C hini => ?_)
  refine x_aload_n C dX5_size_0 (kk := ?_)
  refine x_get C fl_X5_21 dX5_size_1 (kk := ?_)
  refine x_iret C rfl dX5_size_4 (hp := ?_)
  exact ⟨rfl, rfl⟩
set_option maxRecDepth 100000 in
set_option maxHeartbeats 4000000 in
theorem c_row_has (l : Launch) (G : xG) {h : xh} {r : Nat} {q : List Sg} (i : Int32) (hr : Rw G h r q) : Ct l G yX5_has cX5_has 2 (Option.some Jvm.ClassFile.FieldType.boolean) { frames := 0, cells := 0, slots := 0, locals := 0 } [.ref r, .int i] h (fun v h' => v = some (.int (if 0 ≤ i ∧ i < nI q.length then 1 else 0)) ∧ h' = h) := by
  obtain ⟨hn, f0, f1, f2, ⟨g0, g1, g2, g3⟩, k0, k1, k2⟩ := hr
  refine Ct.of [some (.ref r), some (.int i)] (by decide +kernel) (Nat.le_of_ble_eq_true rfl) (fun p e s m args below meth c bs C hini => ?_)
  refine x_iload_n C dX5_has_0 (kk := ?_)
  refine x_if_lt C dX5_has_1 16 (fun hc1 => ?_) (fun hc1 => ?_)
  · refine x_iconst C dX5_has_16 (v := 0) (kk := ?_)
    refine x_zret C rfl dX5_has_17 (by first | exact Or.inl rfl | exact Or.inr rfl | assumption | exact ite01 _) (hp := ?_)
    refine ⟨?_, rfl⟩
    simp only [Int32.lt_iff_toInt_lt, Int32.le_iff_toInt_le, Int32.not_lt, Int32.not_le, ← Int32.toInt_inj, Int32.reduceToInt, m1_toInt] at hc1 ⊢
    split <;> first | rfl | (exfalso; omega)
  · refine x_iload_n C dX5_has_4 (kk := ?_)
    refine x_aload_n C dX5_has_5 (kk := ?_)
    refine x_get C fl_X5_21 dX5_has_6 (kk := ?_)
    refine x_icmp_ge C dX5_has_9 16 (fun hc9 => ?_) (fun hc9 => ?_)
    · refine x_iconst C dX5_has_16 (v := 0) (kk := ?_)
      refine x_zret C rfl dX5_has_17 (by first | exact Or.inl rfl | exact Or.inr rfl | assumption | exact ite01 _) (hp := ?_)
      refine ⟨?_, rfl⟩
      simp only [Int32.lt_iff_toInt_lt, Int32.le_iff_toInt_le, Int32.not_lt, Int32.not_le, ← Int32.toInt_inj, Int32.reduceToInt, m1_toInt] at hc1 hc9 ⊢
      split <;> first | rfl | (exfalso; omega)
    · refine x_iconst C dX5_has_12 (v := 1) (kk := ?_)
      refine x_goto C dX5_has_13 17 ?_
      refine x_zret C rfl dX5_has_17 (by first | exact Or.inl rfl | exact Or.inr rfl | assumption | exact ite01 _) (hp := ?_)
      refine ⟨?_, rfl⟩
      simp only [Int32.lt_iff_toInt_lt, Int32.le_iff_toInt_le, Int32.not_lt, Int32.not_le, ← Int32.toInt_inj, Int32.reduceToInt, m1_toInt] at hc1 hc9 ⊢
      split <;> first | rfl | (exfalso; omega)
theorem has_nI {i n : Nat} (h : i < n) (hn : n < 2 ^ 31) : (if (0 : Int32) ≤ nI i ∧ nI i < nI n then (1 : Int32) else 0) = 1 := if_pos ⟨nI_pos' (by omega), nI_lt h hn⟩
theorem has_no {i : Int32} {n : Nat} (h : ¬ (0 ≤ i ∧ i < nI n)) : (if (0 : Int32) ≤ i ∧ i < nI n then (1 : Int32) else 0) = 0 := if_neg h
set_option maxRecDepth 100000 in
set_option maxHeartbeats 4000000 in
theorem c_row_signAt (l : Launch) (G : xG) {h : xh} {r : Nat} {q : List Sg} {i : Nat} {x : Sg} (hi : q[i]? = some x) (hr : Rw G h r q) : Ct l G yX5_signAt cX5_signAt 2 (Option.some Jvm.ClassFile.FieldType.int) { frames := 1, cells := 0, slots := 0, locals := 21 } [.ref r, .int (nI i)] h (fun v h' => v = some (.int x.1) ∧ h' = h) := by
  have hil : i < q.length := (List.getElem?_eq_some_iff.mp hi).1
  have hr0 := hr
  obtain ⟨hn, f0, f1, f2, ⟨g0, g1, g2, g3⟩, k0, k1, k2⟩ := hr
  refine Ct.of [some (.ref r), some (.int (nI i))] (by decide +kernel) (Nat.le_of_ble_eq_true rfl) (fun p e s m args below meth c bs C hini => ?_)
  refine x_aload_n C dX5_signAt_0 (kk := ?_)
  refine x_iload_n C dX5_signAt_1 (kk := ?_)
  refine x_callV C ml_X5_has lk_X5_25 (c_row_has l G (nI i) hr0) dX5_signAt_2 (fun r2 h2 hp2 => ?_)
  obtain ⟨rfl, rfl⟩ := hp2
  rw [has_nI hil (by omega)]
  refine x_if_eq C dX5_signAt_5 17 (fun hc5 => ?_) (fun hc5 => ?_)
  · exact absurd hc5 (by decide)
  · refine x_aload_n C dX5_signAt_8 (kk := ?_)
    refine x_get C fl_X5_9 dX5_signAt_9 (kk := ?_)
    refine x_iload_n C dX5_signAt_12 (kk := ?_)
    refine x_iald C _ dX5_signAt_13 (kk := ?_)
    refine x_goto C dX5_signAt_14 18 ?_
    refine x_iret C rfl dX5_signAt_18 (hp := ?_)
    exact ⟨by rw [fL_at k0 hi], rfl⟩
set_option maxRecDepth 100000 in
set_option maxHeartbeats 4000000 in
theorem c_row_beginAt (l : Launch) (G : xG) {h : xh} {r : Nat} {q : List Sg} {i : Nat} {x : Sg} (hi : q[i]? = some x) (hr : Rw G h r q) : Ct l G yX5_beginAt cX5_beginAt 2 (Option.some Jvm.ClassFile.FieldType.int) { frames := 1, cells := 0, slots := 0, locals := 21 } [.ref r, .int (nI i)] h (fun v h' => v = some (.int x.2.1) ∧ h' = h) := by
  have hil : i < q.length := (List.getElem?_eq_some_iff.mp hi).1
  have hr0 := hr
  obtain ⟨hn, f0, f1, f2, ⟨g0, g1, g2, g3⟩, k0, k1, k2⟩ := hr
  refine Ct.of [some (.ref r), some (.int (nI i))] (by decide +kernel) (Nat.le_of_ble_eq_true rfl) (fun p e s m args below meth c bs C hini => ?_)
  refine x_aload_n C dX5_beginAt_0 (kk := ?_)
  refine x_iload_n C dX5_beginAt_1 (kk := ?_)
  refine x_callV C ml_X5_has lk_X5_25 (c_row_has l G (nI i) hr0) dX5_beginAt_2 (fun r2 h2 hp2 => ?_)
  obtain ⟨rfl, rfl⟩ := hp2
  rw [has_nI hil (by omega)]
  refine x_if_eq C dX5_beginAt_5 17 (fun hc5 => ?_) (fun hc5 => ?_)
  · exact absurd hc5 (by decide)
  · refine x_aload_n C dX5_beginAt_8 (kk := ?_)
    refine x_get C fl_X5_15 dX5_beginAt_9 (kk := ?_)
    refine x_iload_n C dX5_beginAt_12 (kk := ?_)
    refine x_iald C _ dX5_beginAt_13 (kk := ?_)
    refine x_goto C dX5_beginAt_14 18 ?_
    refine x_iret C rfl dX5_beginAt_18 (hp := ?_)
    exact ⟨by rw [fL_at k1 hi], rfl⟩
set_option maxRecDepth 100000 in
set_option maxHeartbeats 4000000 in
theorem c_row_endAt (l : Launch) (G : xG) {h : xh} {r : Nat} {q : List Sg} {i : Nat} {x : Sg} (hi : q[i]? = some x) (hr : Rw G h r q) : Ct l G yX5_endAt cX5_endAt 2 (Option.some Jvm.ClassFile.FieldType.int) { frames := 1, cells := 0, slots := 0, locals := 21 } [.ref r, .int (nI i)] h (fun v h' => v = some (.int x.2.2) ∧ h' = h) := by
  have hil : i < q.length := (List.getElem?_eq_some_iff.mp hi).1
  have hr0 := hr
  obtain ⟨hn, f0, f1, f2, ⟨g0, g1, g2, g3⟩, k0, k1, k2⟩ := hr
  refine Ct.of [some (.ref r), some (.int (nI i))] (by decide +kernel) (Nat.le_of_ble_eq_true rfl) (fun p e s m args below meth c bs C hini => ?_)
  refine x_aload_n C dX5_endAt_0 (kk := ?_)
  refine x_iload_n C dX5_endAt_1 (kk := ?_)
  refine x_callV C ml_X5_has lk_X5_25 (c_row_has l G (nI i) hr0) dX5_endAt_2 (fun r2 h2 hp2 => ?_)
  obtain ⟨rfl, rfl⟩ := hp2
  rw [has_nI hil (by omega)]
  refine x_if_eq C dX5_endAt_5 17 (fun hc5 => ?_) (fun hc5 => ?_)
  · exact absurd hc5 (by decide)
  · refine x_aload_n C dX5_endAt_8 (kk := ?_)
    refine x_get C fl_X5_18 dX5_endAt_9 (kk := ?_)
    refine x_iload_n C dX5_endAt_12 (kk := ?_)
    refine x_iald C _ dX5_endAt_13 (kk := ?_)
    refine x_goto C dX5_endAt_14 18 ?_
    refine x_iret C rfl dX5_endAt_18 (hp := ?_)
    exact ⟨by rw [fL_at k2 hi], rfl⟩
set_option maxRecDepth 100000 in
set_option maxHeartbeats 4000000 in
theorem c_row_clear (l : Launch) (G : xG) {h : xh} {r : Nat} {q : List Sg} (hr : Rw G h r q) : Ct l G yX5_clear cX5_clear 1 (Option.none : Option Jvm.ClassFile.FieldType) { frames := 0, cells := 0, slots := 0, locals := 0 } [.ref r] h (fun v h' => v = none ∧ Rw G h' r [] ∧ Fr (At r 4) h h') := by
  obtain ⟨hn, f0, f1, f2, ⟨g0, g1, g2, g3⟩, k0, k1, k2⟩ := hr
  refine Ct.of [some (.ref r)] (by decide +kernel) (Nat.le_of_ble_eq_true rfl) (fun p e s m args below meth c bs C hini => ?_)
  refine x_aload_n C dX5_clear_0 (kk := ?_)
  refine x_iconst C dX5_clear_1 (v := 0) (kk := ?_)
  refine x_put C fp_X5_21 dX5_clear_2 (kk := ?_)
  refine x_vret C rfl dX5_clear_5 (hp := ?_)
  exact ⟨rfl, ⟨by simp, f0, f1, f2, ⟨x_set_eq, x_set_ne (by omega) g1, x_set_ne (by omega) g2, x_set_ne (by omega) g3⟩, fL_nil _, fL_nil _, fL_nil _⟩, Fr.rf.set ⟨by omega, by omega⟩⟩
set_option maxRecDepth 100000 in
set_option maxHeartbeats 4000000 in
theorem c_row_add (l : Launch) (G : xG) {h : xh} {r : Nat} {q : List Sg} (x : Sg) (hr : Rw G h r q) : Ct l G yX5_add cX5_add 4 (Option.some Jvm.ClassFile.FieldType.boolean) { frames := 0, cells := 0, slots := 0, locals := 0 } [.ref r, .int x.1, .int x.2.1, .int x.2.2] h (fun v h' => (q.length < 300 ∧ v = some (.int 1) ∧ Rw G h' r (q ++ [x]) ∧ Fr (At r 4) h h') ∨ (q.length = 300 ∧ v = some (.int 0) ∧ h' = h)) := by
  obtain ⟨hn, f0, f1, f2, ⟨g0, g1, g2, g3⟩, k0, k1, k2⟩ := hr
  refine Ct.of [some (.ref r), some (.int x.1), some (.int x.2.1), some (.int x.2.2)] (by decide +kernel) (Nat.le_of_ble_eq_true rfl) (fun p e s m args below meth c bs C hini => ?_)
  refine x_aload_n C dX5_add_0 (kk := ?_)
  refine x_get C fl_X5_21 dX5_add_1 (kk := ?_)
  refine x_sipush C dX5_add_4 (v := 300) (kk := ?_)
  refine x_ncmp_lt C q.length 300 dX5_add_7 12 (fun hc7 => ?_) (fun hc7 => ?_)
  · refine x_aload_n C dX5_add_12 (kk := ?_)
    refine x_get C fl_X5_9 dX5_add_13 (kk := ?_)
    refine x_aload_n C dX5_add_16 (kk := ?_)
    refine x_get C fl_X5_21 dX5_add_17 (kk := ?_)
    refine x_iload_n C dX5_add_20 (kk := ?_)
    refine x_iast C _ dX5_add_21 (kk := ?_)
    refine x_aload_n C dX5_add_22 (kk := ?_)
    refine x_get C fl_X5_15 dX5_add_23 (kk := ?_)
    refine x_aload_n C dX5_add_26 (kk := ?_)
    refine x_get C fl_X5_21 dX5_add_27 (kk := ?_)
    refine x_iload_n C dX5_add_30 (kk := ?_)
    refine x_iast C _ dX5_add_31 (kk := ?_)
    refine x_aload_n C dX5_add_32 (kk := ?_)
    refine x_get C fl_X5_18 dX5_add_33 (kk := ?_)
    refine x_aload_n C dX5_add_36 (kk := ?_)
    refine x_get C fl_X5_21 dX5_add_37 (kk := ?_)
    refine x_iload_n C dX5_add_40 (kk := ?_)
    refine x_iast C _ dX5_add_41 (kk := ?_)
    refine x_aload_n C dX5_add_42 (kk := ?_)
    refine x_dup C dX5_add_43 (kk := ?_)
    refine x_get C fl_X5_21 dX5_add_44 (kk := ?_)
    refine x_iconst C dX5_add_47 (v := 1) (kk := ?_)
    refine x_iadd C dX5_add_48 ?_
    refine x_top _ (nI_1 q.length) ?_
    refine x_put C fp_X5_21 dX5_add_49 (kk := ?_)
    refine x_iconst C dX5_add_52 (v := 1) (kk := ?_)
    refine x_zret C rfl dX5_add_53 (by first | exact Or.inl rfl | exact Or.inr rfl | assumption | exact ite01 _) (hp := ?_)
    first | exact Or.inr ⟨by omega, rfl, rfl⟩ | exact Or.inl ⟨by omega, rfl, ⟨by simp; omega, _, _, _, ⟨by rw [List.length_append]; exact x_set_eq, x_set_ne (by omega) (x_set_ne (by omega) (x_set_ne (by omega) x_set_eq)), x_set_ne (by omega) (x_set_ne (by omega) x_set_eq), x_set_ne (by omega) x_set_eq⟩, by rw [List.map_append]; exact fL_app k0 (by simp), by rw [List.map_append]; exact fL_app k1 (by simp), by rw [List.map_append]; exact fL_app k2 (by simp)⟩, (((Fr.rf.set ⟨by omega, by omega⟩).set ⟨by omega, by omega⟩).set ⟨by omega, by omega⟩).set ⟨by omega, by omega⟩⟩
  · refine x_iconst C dX5_add_10 (v := 0) (kk := ?_)
    refine x_zret C rfl dX5_add_11 (by first | exact Or.inl rfl | exact Or.inr rfl | assumption | exact ite01 _) (hp := ?_)
    first | exact Or.inr ⟨by omega, rfl, rfl⟩ | exact Or.inl ⟨by omega, rfl, ⟨by simp; omega, _, _, _, ⟨by rw [List.length_append]; exact x_set_eq, x_set_ne (by omega) (x_set_ne (by omega) (x_set_ne (by omega) x_set_eq)), x_set_ne (by omega) (x_set_ne (by omega) x_set_eq), x_set_ne (by omega) x_set_eq⟩, by rw [List.map_append]; exact fL_app k0 (by simp), by rw [List.map_append]; exact fL_app k1 (by simp), by rw [List.map_append]; exact fL_app k2 (by simp)⟩, (((Fr.rf.set ⟨by omega, by omega⟩).set ⟨by omega, by omega⟩).set ⟨by omega, by omega⟩).set ⟨by omega, by omega⟩⟩
theorem fL_last {f : Nat → Int32} {t : List Int32} {u v : Int32} {n : Nat} (h : fL f (t ++ [u])) (hn : t.length = n) : fL (upd f n v) (t ++ [v]) := by
  intro j w hw
  subst hn
  by_cases hj : j < t.length
  · rw [List.getElem?_append_left hj] at hw
    have : j ≠ t.length := by omega
    simp [upd, this]
    exact h j w (by rw [List.getElem?_append_left hj]; exact hw)
  · rw [List.getElem?_append_right (by omega)] at hw
    have hz : j - t.length < 1 := by simpa using (List.getElem?_eq_some_iff.mp hw).1
    have e : j = t.length := by omega
    subst e
    simp at hw
    simp [upd, hw]
set_option maxRecDepth 100000 in
set_option maxHeartbeats 4000000 in
theorem c_row_changeLast (l : Launch) (G : xG) {h : xh} {r : Nat} {q : List Sg} {y : Sg} (a b : Int32) (hy : q.getLast? = some y) (hr : Rw G h r q) : Ct l G yX5_changeLast cX5_changeLast 3 (Option.none : Option Jvm.ClassFile.FieldType) { frames := 0, cells := 0, slots := 0, locals := 0 } [.ref r, .int a, .int b] h (fun v h' => v = none ∧ Rw G h' r (q.dropLast ++ [(a, y.2.1, b)]) ∧ Fr (At r 4) h h') := by
  obtain ⟨t, rfl⟩ := List.getLast?_eq_some_iff.mp hy
  obtain ⟨hn, f0, f1, f2, ⟨g0, g1, g2, g3⟩, k0, k1, k2⟩ := hr
  simp only [List.length_append, List.length_cons, List.length_nil, Nat.zero_add, List.map_append, List.map_cons, List.map_nil] at g0 hn k0 k1 k2
  refine Ct.of [some (.ref r), some (.int a), some (.int b)] (by decide +kernel) (Nat.le_of_ble_eq_true rfl) (fun p e s m args below meth c bs C hini => ?_)
  refine x_aload_n C dX5_changeLast_0 (kk := ?_)
  refine x_get C fl_X5_21 dX5_changeLast_1 (kk := ?_)
  refine x_nif_le C (t.length + 1) dX5_changeLast_4 31 (fun hc4 => ?_) (fun hc4 => ?_)
  · omega
  · refine x_aload_n C dX5_changeLast_7 (kk := ?_)
    refine x_get C fl_X5_9 dX5_changeLast_8 (kk := ?_)
    refine x_aload_n C dX5_changeLast_11 (kk := ?_)
    refine x_get C fl_X5_21 dX5_changeLast_12 (kk := ?_)
    refine x_iconst C dX5_changeLast_15 (v := 1) (kk := ?_)
    refine x_isub C dX5_changeLast_16 ?_
    refine x_top _ (nI_pred t.length) ?_
    refine x_iload_n C dX5_changeLast_17 (kk := ?_)
    refine x_iast C _ dX5_changeLast_18 (kk := ?_)
    refine x_aload_n C dX5_changeLast_19 (kk := ?_)
    refine x_get C fl_X5_18 dX5_changeLast_20 (kk := ?_)
    refine x_aload_n C dX5_changeLast_23 (kk := ?_)
    refine x_get C fl_X5_21 dX5_changeLast_24 (kk := ?_)
    refine x_iconst C dX5_changeLast_27 (v := 1) (kk := ?_)
    refine x_isub C dX5_changeLast_28 ?_
    refine x_top _ (nI_pred t.length) ?_
    refine x_iload_n C dX5_changeLast_29 (kk := ?_)
    refine x_iast C _ dX5_changeLast_30 (kk := ?_)
    refine x_vret C rfl dX5_changeLast_31 (hp := ?_)
    rw [List.dropLast_concat]
    exact ⟨rfl, ⟨by simp; omega, _, _, _, ⟨by rw [List.length_append]; exact x_set_ne (by omega) (x_set_ne (by omega) g0), x_set_ne (by omega) x_set_eq, x_set_ne (by omega) (x_set_ne (by omega) g2), x_set_eq⟩, by rw [List.map_append]; exact fL_last k0 (by simp), by rw [List.map_append]; exact k1, by rw [List.map_append]; exact fL_last k2 (by simp)⟩, (Fr.rf.set ⟨by omega, by omega⟩).set ⟨by omega, by omega⟩⟩
set_option maxRecDepth 100000 in
set_option maxHeartbeats 4000000 in
theorem c_row_copyFrom (l : Launch) (G : xG) {h : xh} {r o : Nat} {q w : List Sg} (hd : r + 4 ≤ o ∨ o + 4 ≤ r) (hr : Rw G h r w) (ho : Rw G h o q) : Ct l G yX5_copyFrom cX5_copyFrom 3 (Option.none : Option Jvm.ClassFile.FieldType) { frames := 2, cells := 0, slots := 0, locals := 42 } [.ref r, .ref o] h (fun v h' => v = none ∧ Rw G h' r q ∧ Fr (At r 4) h h') := by
  refine Ct.of [some (.ref r), some (.ref o), none] (by decide +kernel) (Nat.le_of_ble_eq_true rfl) (fun p e s m args below meth c bs C hini => ?_)
  have hro := hr.ob
  have hoo := ho.ob
  have hql := ho.1
  have loop : ∀ (n i : Nat) (h1 : xh), q.length - i < n → i ≤ q.length → Rw G h1 r (q.take i) → Fr (At r 4) h h1 → X p l e { frames := 2, cells := 0, slots := 0, locals := 42 } s m args below meth c G bs (MQ below (x_Q G bs (fun v h' => v = none ∧ Rw G h' r q ∧ Fr (At r 4) h h')) args s 0 0 (fun q => bs ≤ q)) 0 0 6 [some (.ref r), some (.ref o), some (.int (nI i))] [] h1 := by
    intro n
    induction n with
    | zero => intro i h1 hn; omega
    | succ n ih =>
      intro i h1 hn hi hr1 hf
      have ho1 : Rw G h1 o q := ho.fr hf (fun b z w => by unfold At at z w; omega)
      have hro1 := hr1.ob
      have hoo1 := ho1.ob
      refine x_iload_n C dX5_copyFrom_6 (kk := ?_)
      refine x_aload_n C dX5_copyFrom_7 (kk := ?_)
      refine x_callV C ml_X5_size lk_X5_32 (c_row_size l G ho1) dX5_copyFrom_8 (fun r8 h8 hp8 => ?_)
      obtain ⟨rfl, rfl⟩ := hp8
      refine x_ncmp_ge C i q.length dX5_copyFrom_11 40 (fun hc11 => ?_) (fun hc11 => ?_)
      · refine x_vret C rfl dX5_copyFrom_40 (hp := ?_)
        exact ⟨rfl, by rw [List.take_of_length_le hc11] at hr1; exact hr1, hf⟩
      obtain ⟨x, hx⟩ : ∃ x, q[i]? = some x := ⟨q[i], List.getElem?_eq_getElem hc11⟩
      refine x_aload_n C dX5_copyFrom_14 (kk := ?_)
      refine x_aload_n C dX5_copyFrom_15 (kk := ?_)
      refine x_iload_n C dX5_copyFrom_16 (kk := ?_)
      refine x_callV C ml_X5_signAt lk_X5_35 (c_row_signAt l G hx ho1) dX5_copyFrom_17 (fun r17 h17 hp17 => ?_)
      obtain ⟨rfl, rfl⟩ := hp17
      refine x_aload_n C dX5_copyFrom_20 (kk := ?_)
      refine x_iload_n C dX5_copyFrom_21 (kk := ?_)
      refine x_callV C ml_X5_beginAt lk_X5_39 (c_row_beginAt l G hx ho1) dX5_copyFrom_22 (fun r22 h22 hp22 => ?_)
      obtain ⟨rfl, rfl⟩ := hp22
      refine x_aload_n C dX5_copyFrom_25 (kk := ?_)
      refine x_iload_n C dX5_copyFrom_26 (kk := ?_)
      refine x_callV C ml_X5_endAt lk_X5_42 (c_row_endAt l G hx ho1) dX5_copyFrom_27 (fun r27 h27 hp27 => ?_)
      obtain ⟨rfl, rfl⟩ := hp27
      refine x_callV C ml_X5_add lk_X5_45 (c_row_add l G x hr1) dX5_copyFrom_30 (fun r30 h30 hp30 => ?_)
      rcases hp30 with ⟨-, rfl, hr2, hf2⟩ | ⟨hbad, -, -⟩
      rotate_left
      · simp at hbad; omega
      refine x_pop C dX5_copyFrom_33 (kk := ?_)
      refine x_iinc1 C dX5_copyFrom_34 (kk := ?_)
      refine x_goto C dX5_copyFrom_37 6 ?_
      exact ih (i + 1) _ (by omega) (by omega) (by rw [List.take_add_one, hx]; exact hr2) (hf.tr hf2)
  refine x_aload_n C dX5_copyFrom_0 (kk := ?_)
  refine x_callV C ml_X5_clear lk_X5_29 (c_row_clear l G hr) dX5_copyFrom_1 (fun r1 h1 hp1 => ?_)
  obtain ⟨rfl, hr1, hf1⟩ := hp1
  refine x_iconst C dX5_copyFrom_4 (v := 0) (kk := ?_)
  refine x_istore_n C dX5_copyFrom_5 (kk := ?_)
  exact loop (q.length + 1) 0 _ (by omega) (by omega) (by simpa using hr1) hf1
