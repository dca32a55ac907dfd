/-! STRINGS OF THE CLASS, II -/
theorem Rw.same {G : xG} {h h' : xh} {r : Nat} {q : List Sg} (k : Rw G h r q) (e : ∀ b, At r 4 b → h'.1 b = h.1 b) : Rw G h' r q := by
  obtain ⟨hn, f0, f1, f2, ⟨g0, g1, g2, g3⟩, k0⟩ := k
  exact ⟨hn, f0, f1, f2, ⟨(e r ⟨by omega, by omega⟩).trans g0, (e _ ⟨by omega, by omega⟩).trans g1, (e _ ⟨by omega, by omega⟩).trans g2, (e _ ⟨by omega, by omega⟩).trans g3⟩, k0⟩
theorem st_step {b w : List Int32} {i k : Nat} {u v : Int32} (hu : b[k]? = some u) (hv : w[i + k]? = some v) : (b.drop k).isPrefixOf (w.drop (i + k)) = (u == v && (b.drop (k + 1)).isPrefixOf (w.drop (i + (k + 1)))) := by
  rw [drop_at hu, drop_at hv]
  rfl
theorem st_end {b w : List Int32} {i k : Nat} (hk : b.length ≤ k) : (b.drop k).isPrefixOf (w.drop (i + k)) = true := by
  rw [List.drop_eq_nil_of_le hk]
  rfl
theorem st_len {b w : List Int32} {i : Nat} (h : stands b w i = true) : b.length ≤ w.length - i := by
  have := (List.isPrefixOf_iff_prefix.mp h).length_le
  simpa using this
theorem st_long {b w : List Int32} {i : Nat} (h : w.length - i < b.length) : stands b w i = false := by
  cases hs : stands b w i with
  | false => rfl
  | true => have := st_len hs; omega
theorem cpy_fL {f g : Nat → Int32} {q : List Int32} {n : Nat} (h : fL f q) (hn : n = q.length) : fL (va_cpy f g 0 0 n) q := by
  intro j v hj
  have hl : j < q.length := (List.getElem?_eq_some_iff.mp hj).1
  subst hn
  have := h j v hj
  simp [va_cpy, hl, this]
set_option maxRecDepth 100000 in
set_option maxHeartbeats 4000000 in
theorem c_row_signsAlone (l : Launch) (G : xG) {h : xh} {r : Nat} {q : List Sg} (hq : q.length ≤ 100) (hb : r + 4 ≤ h.2) (hr : Rw G h r q) : Ct l G yX5_signsAlone cX5_signsAlone 1 (Option.some (Jvm.ClassFile.FieldType.array Jvm.ClassFile.FieldType.int)) { frames := 2, cells := 1, slots := 300, locals := 82 } [.ref r] h (fun v h' => v = some (.ref h.2) ∧ (∃ g : Nat → Int32, h'.1 h.2 = some (eI G q.length g) ∧ fL g (q.map (·.1))) ∧ h'.2 = h.2 + 1 ∧ ∀ b, b < h.2 → h'.1 b = h.1 b) := by
  obtain ⟨hn, f0, f1, f2, ⟨g0, g1, g2, g3⟩, k0, k1, k2⟩ := hr
  refine Ct.of [some (.ref r)] (by decide +kernel) (Nat.le_of_ble_eq_true rfl) (fun p e s m args below meth c bs C hini => ?_)
  refine x_aload_n C dX5_signsAlone_0 (kk := ?_)
  refine x_get C fl_X5_9 dX5_signsAlone_1 (kk := ?_)
  refine x_aload_n C dX5_signsAlone_4 (kk := ?_)
  refine x_get C fl_X5_21 dX5_signsAlone_5 (kk := ?_)
  refine x_callS C ml_J7_copyOf_59c91 lk_X5_49 (j_copyOf l G g1 (by omega) (by omega) (k := q.length) (by omega)) dX5_signsAlone_8 (fun r8 h8 hp8 => ?_)
  obtain ⟨rfl, rfl⟩ := hp8
  refine x_aret C rfl (by first | exact Or.inl ⟨_, rfl⟩ | exact Or.inr ⟨_, rfl⟩) (by first | exact Or.inl rfl | exact Or.inr ⟨_, rfl⟩ | exact va_rf_or _) dX5_signsAlone_11 (hp := ?_)
  exact ⟨rfl, ⟨_, x_set_eq, cpy_fL k0 (by simp)⟩, rfl, fun b hb => x_set_ne (by omega) (x_new_ne (by omega) rfl)⟩
def Rp (G : xG) (h : xh) (q : Nat) (w : Sr) : Prop := w.1.length ≤ 100 ∧ w.2.length ≤ 100 ∧ 1 ≤ w.1.length ∧ h.1 q = some (eO 4 [.ref (q + 1), .ref (q + 2)]) ∧ ∃ f g : Nat → Int32, h.1 (q + 1) = some (eI G w.1.length f) ∧ h.1 (q + 2) = some (eI G w.2.length g) ∧ fL f w.1 ∧ fL g w.2
theorem Rp.same {G : xG} {h h' : xh} {q : Nat} {w : Sr} (k : Rp G h q w) (e : ∀ b, At q 3 b → h'.1 b = h.1 b) : Rp G h' q w := by
  obtain ⟨h0, h1, h2, h3, f, g, h4, h5, h6⟩ := k
  exact ⟨h0, h1, h2, (e _ ⟨by omega, by omega⟩).trans h3, f, g, (e _ ⟨by omega, by omega⟩).trans h4, (e _ ⟨by omega, by omega⟩).trans h5, h6⟩
set_option maxRecDepth 100000 in
set_option maxHeartbeats 4000000 in
theorem c_rp_init (l : Launch) (G : xG) {h : xh} {q rb ra : Nat} {wb wa : List Sg} (hq : h.2 = q + 1) (h0 : h.1 q = some (eO 4 [.null, .null])) (hb : rb + 4 ≤ q) (ha : ra + 4 ≤ q) (hbl : wb.length ≤ 100) (hal : wa.length ≤ 100) (hb1 : 1 ≤ wb.length) (hrb : Rw G h rb wb) (hra : Rw G h ra wa) : Ct l G yX4_init cX4_init 3 (Option.none : Option Jvm.ClassFile.FieldType) { frames := 3, cells := 2, slots := 600, locals := 102 } [.ref q, .ref rb, .ref ra] h (fun v h' => v = none ∧ Rp G h' q (wb.map (·.1), wa.map (·.1)) ∧ h'.2 = q + 3 ∧ ∀ b, b < q → h'.1 b = h.1 b) := by
  have hob := hrb.ob
  have hoa := hra.ob
  refine Ct.of [some (.ref q), some (.ref rb), some (.ref ra)] (by decide +kernel) (Nat.le_of_ble_eq_true rfl) (fun p e s m args below meth c bs C hini => ?_)
  refine x_aload_n C dX4_init_0 (kk := ?_)
  refine x_oinit C tw_195 dX4_init_1 tw_20 tw_21 (kk := ?_)
  refine x_aload_n C dX4_init_4 (kk := ?_)
  refine x_aload_n C dX4_init_5 (kk := ?_)
  refine x_callV C ml_X5_signsAlone lk_X4_7 (c_row_signsAlone l G hbl (by omega) hrb) dX4_init_6 (fun r6 h6 hp6 => ?_)
  obtain ⟨rfl, ⟨f, e1, e2⟩, e3, e4⟩ := hp6
  have h06 := (e4 q (by omega)).trans h0
  rw [hq] at e1 e3 e4 ⊢
  refine x_putF C hini fp_X4_13 dX4_init_9 (kk := ?_)
  have hra6 : Rw G (x_set h6 q (eO 4 ([.null, .null].set 0 (.ref (q + 1))))) ra wa := hra.same (fun b z => (x_set_ne (by unfold At at z; omega) rfl).trans (e4 b (by unfold At at z; omega)))
  have hoa6 := hra6.ob
  refine x_aload_n C dX4_init_12 (kk := ?_)
  refine x_aload_n C dX4_init_13 (kk := ?_)
  refine x_callV C ml_X5_signsAlone lk_X4_7 (c_row_signsAlone l G hal (by show ra + 4 ≤ h6.2; omega) hra6) dX4_init_14 (fun r14 h14 hp14 => ?_)
  obtain ⟨rfl, ⟨g, e5, e6⟩, e7, e8⟩ := hp14
  have hz2 : (x_set h6 q (eO 4 ([.null, .null].set 0 (.ref (q + 1))))).2 = q + 2 := by show h6.2 = _; omega
  rw [hz2] at e5 e7 e8 ⊢
  have h014 := (e8 q (by omega)).trans x_set_eq
  have h114 := (e8 (q + 1) (by omega)).trans (x_set_ne (by omega) e1)
  refine x_putF C hini fp_X4_19 dX4_init_17 (kk := ?_)
  refine x_vret C rfl dX4_init_20 (hp := ?_)
  exact ⟨rfl, ⟨by simpa using hbl, by simpa using hal, by simpa using hb1, x_set_eq, f, g, x_set_ne (by omega) (by rw [List.length_map]; exact h114), x_set_ne (by omega) (by rw [List.length_map]; exact e5), e2, e6⟩, by show h14.2 = _; omega, fun b hb => (x_set_ne (by omega) rfl).trans ((e8 b (by omega)).trans ((x_set_ne (by omega) rfl).trans (e4 b (by omega))))⟩
set_option maxRecDepth 100000 in
set_option maxHeartbeats 4000000 in
theorem c_rp_length (l : Launch) (G : xG) {h : xh} {q : Nat} {w : Sr} (hq : Rp G h q w) : Ct l G yX4_length cX4_length 1 (Option.some Jvm.ClassFile.FieldType.int) { frames := 0, cells := 0, slots := 0, locals := 0 } [.ref q] h (fun v h' => v = some (.int (nI w.1.length)) ∧ h' = h) := by
  obtain ⟨h0, h1, h2, h3, f, g, h4, h5, h6, h7⟩ := hq
  refine Ct.of [some (.ref q)] (by decide +kernel) (Nat.le_of_ble_eq_true rfl) (fun p e s m args below meth c bs C hini => ?_)
  refine x_aload_n C dX4_length_0 (kk := ?_)
  refine x_get C fl_X4_13 dX4_length_1 (kk := ?_)
  refine x_alen C dX4_length_4 (kk := ?_)
  refine x_iret C rfl dX4_length_5 (hp := ?_)
  exact ⟨rfl, rfl⟩
set_option maxRecDepth 100000 in
set_option maxHeartbeats 4000000 in
theorem c_rp_standsAt (l : Launch) (G : xG) {h : xh} {q r i : Nat} {w : Sr} {y : List Sg} (hi : i ≤ y.length) (hq : Rp G h q w) (hr : Rw G h r y) : Ct l G yX4_standsAt cX4_standsAt 4 (Option.some Jvm.ClassFile.FieldType.boolean) { frames := 2, cells := 0, slots := 0, locals := 42 } [.ref q, .ref r, .int (nI i)] h (fun v h' => v = some (.int (if stands w.1 (y.map (·.1)) i = true then 1 else 0)) ∧ h' = h) := by
  obtain ⟨h0, h1, h2, h3, f, g, h4, h5, h6, h7⟩ := hq
  have hro := hr.ob
  have hyl := hr.1
  refine Ct.of [some (.ref q), some (.ref r), some (.int (nI i)), none] (by decide +kernel) (Nat.le_of_ble_eq_true rfl) (fun p e s m args below meth c bs C hini => ?_)
  have loop : ∀ (n k : Nat), w.1.length - k < n → k ≤ w.1.length → w.1.length ≤ y.length - i → stands w.1 (y.map (·.1)) i = (w.1.drop k).isPrefixOf ((y.map (·.1)).drop (i + k)) → X p l e { frames := 2, cells := 0, slots := 0, locals := 42 } s m args below meth c G bs (MQ below (x_Q G bs (fun v h' => v = some (.int (if stands w.1 (y.map (·.1)) i = true then 1 else 0)) ∧ h' = h)) args s 0 0 (fun q => bs ≤ q)) 0 0 18 [some (.ref q), some (.ref r), some (.int (nI i)), some (.int (nI k))] [] h := by
    intro n
    induction n with
    | zero => intro k hn; omega
    | succ n ih =>
      intro k hn hk hle hs
      refine x_iload_n C dX4_standsAt_18 (kk := ?_)
      refine x_aload_n C dX4_standsAt_19 (kk := ?_)
      refine x_get C fl_X4_13 dX4_standsAt_20 (kk := ?_)
      refine x_alen C dX4_standsAt_23 (kk := ?_)
      refine x_ncmp_ge C k w.1.length dX4_standsAt_24 51 (fun hc24 => ?_) (fun hc24 => ?_)
      · refine x_iconst C dX4_standsAt_51 (v := 1) (kk := ?_)
        refine x_zret C rfl dX4_standsAt_52 (Or.inr rfl) (hp := ?_)
        exact ⟨by rw [hs, st_end hc24]; rfl, rfl⟩
      obtain ⟨u, hu⟩ : ∃ u, w.1[k]? = some u := ⟨w.1[k], List.getElem?_eq_getElem hc24⟩
      obtain ⟨v, hv⟩ : ∃ v, y[i + k]? = some v := ⟨y[i + k]'(by omega), List.getElem?_eq_getElem (by omega)⟩
      have hfu := h6 k u hu
      rw [st_step hu (v := v.1) (by simp [hv])] at hs
      refine x_aload_n C dX4_standsAt_27 (kk := ?_)
      refine x_iload_n C dX4_standsAt_28 (kk := ?_)
      refine x_iload_n C dX4_standsAt_29 (kk := ?_)
      refine x_iadd C dX4_standsAt_30 ?_
      refine x_top _ (nI_add i k) ?_
      refine x_callV C ml_X5_signAt lk_X4_26 (c_row_signAt l G hv hr) dX4_standsAt_31 (fun r31 h31 hp31 => ?_)
      obtain ⟨rfl, rfl⟩ := hp31
      refine x_aload_n C dX4_standsAt_34 (kk := ?_)
      refine x_get C fl_X4_13 dX4_standsAt_35 (kk := ?_)
      refine x_iload_n C dX4_standsAt_38 (kk := ?_)
      refine x_iald C _ dX4_standsAt_39 (kk := ?_)
      refine x_icmp_eq C dX4_standsAt_40 45 (fun hc40 => ?_) (fun hc40 => ?_)
      · refine x_iinc1 C dX4_standsAt_45 (kk := ?_)
        refine x_goto C dX4_standsAt_48 18 ?_
        exact ih (k + 1) (by omega) (by omega) hle (by rw [hs, show (u == v.1) = true from by rw [← hfu]; simpa using hc40.symm]; rfl)
      · refine x_iconst C dX4_standsAt_43 (v := 0) (kk := ?_)
        refine x_zret C rfl dX4_standsAt_44 (by first | exact Or.inl rfl | exact Or.inr rfl | assumption | exact ite01 _) (hp := ?_)
        exact ⟨by rw [hs, show (u == v.1) = false from by rw [← hfu]; simpa using fun z : f k = v.1 => hc40 z.symm]; rfl, rfl⟩
  refine x_aload_n C dX4_standsAt_0 (kk := ?_)
  refine x_get C fl_X4_13 dX4_standsAt_1 (kk := ?_)
  refine x_alen C dX4_standsAt_4 (kk := ?_)
  refine x_aload_n C dX4_standsAt_5 (kk := ?_)
  refine x_callV C ml_X5_size lk_X4_22 (c_row_size l G hr) dX4_standsAt_6 (fun r6 h6 hp6 => ?_)
  obtain ⟨rfl, rfl⟩ := hp6
  refine x_iload_n C dX4_standsAt_9 (kk := ?_)
  refine x_isub C dX4_standsAt_10 ?_
  refine x_top _ (pk_sub hi) ?_
  refine x_ncmp_le C w.1.length (y.length - i) dX4_standsAt_11 16 (fun hc11 => ?_) (fun hc11 => ?_)
  · refine x_iconst C dX4_standsAt_16 (v := 0) (kk := ?_)
    refine x_istore_n C dX4_standsAt_17 (kk := ?_)
    exact loop (w.1.length + 1) 0 (by omega) (by omega) hc11 rfl
  · refine x_iconst C dX4_standsAt_14 (v := 0) (kk := ?_)
    refine x_zret C rfl dX4_standsAt_15 (by first | exact Or.inl rfl | exact Or.inr rfl | assumption | exact ite01 _) (hp := ?_)
    exact ⟨by rw [st_long (by simpa using hc11)]; rfl, rfl⟩
set_option maxRecDepth 100000 in
set_option maxHeartbeats 4000000 in
theorem c_rp_writeTo (l : Launch) (G : xG) {h : xh} {q r : Nat} {w : Sr} {y : List Sg} (b d : Int32) (hd : q + 3 ≤ r ∨ r + 4 ≤ q) (hq : Rp G h q w) (hr : Rw G h r y) : Ct l G yX4_writeTo cX4_writeTo 6 (Option.some Jvm.ClassFile.FieldType.boolean) { frames := 1, cells := 0, slots := 0, locals := 23 } [.ref q, .ref r, .int b, .int d] h (fun v h' => (v = some (.int 1) ∧ Rw G h' r (y ++ w.2.map (fun u => (u, b, d))) ∨ v = some (.int 0) ∧ 300 < (y ++ w.2.map (fun u => (u, b, d))).length ∧ ∃ y', Rw G h' r y') ∧ Fr (At r 4) h h') := by
  have hq0 := hq
  obtain ⟨h0, h1, h2, h3, f, g, h4, h5, h6, h7⟩ := hq
  have hro := hr.ob
  refine Ct.of [some (.ref q), some (.ref r), some (.int b), some (.int d), none, none] (by decide +kernel) (Nat.le_of_ble_eq_true rfl) (fun p e s m args below meth c bs C hini => ?_)
  have loop : ∀ (n k : Nat) (h8 : xh), w.2.length - k < n → k ≤ w.2.length → Rw G h8 r (y ++ (w.2.take k).map (fun u => (u, b, d))) → Fr (At r 4) h h8 → X p l e { frames := 1, cells := 0, slots := 0, locals := 23 } s m args below meth c G bs (MQ below (x_Q G bs (fun v h' => (v = some (.int 1) ∧ Rw G h' r (y ++ w.2.map (fun u => (u, b, d))) ∨ v = some (.int 0) ∧ 300 < (y ++ w.2.map (fun u => (u, b, d))).length ∧ ∃ y', Rw G h' r y') ∧ Fr (At r 4) h h')) args s 0 0 (fun q => bs ≤ q)) 0 0 6 [some (.ref q), some (.ref r), some (.int b), some (.int d), some (.int 1), some (.int (nI k))] [] h8 := by
    intro n
    induction n with
    | zero => intro k h8 hn; omega
    | succ n ih =>
      intro k h8 hn hk hr8 hf
      have hnA : ∀ b, At q 3 b → ¬ At r 4 b := fun b z1 z2 => by unfold At at z1 z2; omega
      have h38 := hf.at (hnA q ⟨by omega, by omega⟩) h3
      have h58 := hf.at (hnA (q + 2) ⟨by omega, by omega⟩) h5
      have hro8 := hr8.ob
      refine x_iload C dX4_writeTo_6 (kk := ?_)
      refine x_aload_n C dX4_writeTo_8 (kk := ?_)
      refine x_get C fl_X4_19 dX4_writeTo_9 (kk := ?_)
      refine x_alen C dX4_writeTo_12 (kk := ?_)
      refine x_ncmp_ge C k w.2.length dX4_writeTo_13 42 (fun hc13 => ?_) (fun hc13 => ?_)
      · refine x_iload C dX4_writeTo_42 (kk := ?_)
        refine x_zret C rfl dX4_writeTo_44 (Or.inr rfl) (hp := ?_)
        exact ⟨Or.inl ⟨rfl, by rw [List.take_of_length_le hc13] at hr8; exact hr8⟩, hf⟩
      obtain ⟨u, hu⟩ : ∃ u, w.2[k]? = some u := ⟨w.2[k], List.getElem?_eq_getElem hc13⟩
      have hgu := h7 k u hu
      refine x_iload C dX4_writeTo_16 (kk := ?_)
      refine x_if_eq C dX4_writeTo_18 42 (fun hc18 => ?_) (fun hc18 => ?_)
      · exact absurd hc18 (by decide)
      · refine x_aload_n C dX4_writeTo_21 (kk := ?_)
        refine x_aload_n C dX4_writeTo_22 (kk := ?_)
        refine x_get C fl_X4_19 dX4_writeTo_23 (kk := ?_)
        refine x_iload C dX4_writeTo_26 (kk := ?_)
        refine x_iald C _ dX4_writeTo_28 (kk := ?_)
        rw [hgu]
        refine x_iload_n C dX4_writeTo_29 (kk := ?_)
        refine x_iload_n C dX4_writeTo_30 (kk := ?_)
        refine x_callV C ml_X5_add lk_X4_30 (c_row_add l G (u, b, d) hr8) dX4_writeTo_31 (fun r31 h31 hp31 => ?_)
        rcases hp31 with ⟨hl, rfl, hr9, hf9⟩ | ⟨hl, rfl, rfl⟩
        rotate_left
        · refine x_istore C dX4_writeTo_34 (kk := ?_)
          refine x_iinc1 C dX4_writeTo_36 (kk := ?_)
          refine x_goto C dX4_writeTo_39 6 ?_
          refine x_iload C dX4_writeTo_6 (kk := ?_)
          refine x_aload_n C dX4_writeTo_8 (kk := ?_)
          refine x_get C fl_X4_19 dX4_writeTo_9 (kk := ?_)
          refine x_alen C dX4_writeTo_12 (kk := ?_)
          have hbig : 300 < (y ++ w.2.map (fun u => (u, b, d))).length := by simp at hl ⊢; omega
          refine x_ncmp_ge C (k + 1) w.2.length dX4_writeTo_13 42 (fun hcz => ?_) (fun hcz => ?_)
          · refine x_iload C dX4_writeTo_42 (kk := ?_)
            refine x_zret C rfl dX4_writeTo_44 (Or.inl rfl) (hp := ?_)
            exact ⟨Or.inr ⟨rfl, hbig, _, hr8⟩, hf⟩
          · refine x_iload C dX4_writeTo_16 (kk := ?_)
            refine x_if_eq C dX4_writeTo_18 42 (fun hcy => ?_) (fun hcy => absurd rfl hcy)
            refine x_iload C dX4_writeTo_42 (kk := ?_)
            refine x_zret C rfl dX4_writeTo_44 (Or.inl rfl) (hp := ?_)
            exact ⟨Or.inr ⟨rfl, hbig, _, hr8⟩, hf⟩
        refine x_istore C dX4_writeTo_34 (kk := ?_)
        refine x_iinc1 C dX4_writeTo_36 (kk := ?_)
        refine x_goto C dX4_writeTo_39 6 ?_
        exact ih (k + 1) _ (by omega) (by omega) (by rw [take_at hu, List.map_append, ← List.append_assoc]; exact hr9) (hf.tr hf9)
  refine x_iconst C dX4_writeTo_0 (v := 1) (kk := ?_)
  refine x_istore C dX4_writeTo_1 (kk := ?_)
  refine x_iconst C dX4_writeTo_3 (v := 0) (kk := ?_)
  refine x_istore C dX4_writeTo_4 (kk := ?_)
  exact loop (w.2.length + 1) 0 h (by omega) (by omega) (by simpa using hr) Fr.rf
/-- a StringTable at z, its rows at dy and behind -/
def Sx (G : xG) (h : xh) (z dy : Nat) (ss : List Sr) : Prop := ss.length ≤ 20 ∧ (ss.map (·.1)).Nodup ∧ h.1 z = some (eO 6 [.ref (z + 1), .int (nI ss.length)]) ∧ ∃ f : Nat → Option Nat, h.1 (z + 1) = some (eR G 2 20 f) ∧ ∀ (j : Nat) (w : Sr), ss[j]? = some w → ∃ q, f j = some q ∧ dy ≤ q ∧ q + 3 ≤ h.2 ∧ Rp G h q w
theorem Sx.same {G : xG} {h h' : xh} {z dy : Nat} {ss : List Sr} (k : Sx G h z dy ss) (hsz : h.2 ≤ h'.2) (e : ∀ b, At z 2 b → h'.1 b = h.1 b) (e2 : ∀ q, dy ≤ q → q + 3 ≤ h.2 → ∀ w, Rp G h q w → Rp G h' q w) : Sx G h' z dy ss := by
  obtain ⟨h0, h1, h2, f, h3, h4⟩ := k
  refine ⟨h0, h1, (e _ ⟨by omega, by omega⟩).trans h2, f, (e _ ⟨by omega, by omega⟩).trans h3, fun j w hw => ?_⟩
  obtain ⟨q, a1, a2, a3, a4⟩ := h4 j w hw
  exact ⟨q, a1, a2, by omega, e2 q a2 a3 w a4⟩
set_option maxRecDepth 100000 in
set_option maxHeartbeats 4000000 in
theorem c_s_size (l : Launch) (G : xG) {h : xh} {z dy : Nat} {ss : List Sr} (hz : Sx G h z dy ss) : Ct l G yX6_size cX6_size 1 (Option.some Jvm.ClassFile.FieldType.int) { frames := 0, cells := 0, slots := 0, locals := 0 } [.ref z] h (fun v h' => v = some (.int (nI ss.length)) ∧ h' = h) := by
  obtain ⟨hn, hnd, g0, f, g1, g2⟩ := hz
  refine Ct.of [some (.ref z)] (by decide +kernel) (Nat.le_of_ble_eq_true rfl) (fun p e s m args below meth c bs C hini => ?_)
  refine x_aload_n C dX6_size_0 (kk := ?_)
  refine x_get C fl_X6_17 dX6_size_1 (kk := ?_)
  refine x_iret C rfl dX6_size_4 (hp := ?_)
  exact ⟨rfl, rfl⟩
theorem st_0 {b w : List Int32} (hl : b.length = w.length) : stands b w 0 = decide (b = w) := by
  unfold stands
  rw [List.drop_zero]
  by_cases h : b = w
  · subst h
    simp [List.isPrefixOf_iff_prefix]
  · rw [decide_eq_false h]
    cases hs : b.isPrefixOf w with
    | false => rfl
    | true => exact absurd ((List.isPrefixOf_iff_prefix.mp hs).eq_of_length hl) h
set_option maxRecDepth 100000 in
set_option maxHeartbeats 4000000 in
theorem c_s_slotOf (l : Launch) (G : xG) {h : xh} {z dy r : Nat} {ss : List Sr} {y : List Sg} (hz : Sx G h z dy ss) (hr : Rw G h r y) : Ct l G yX6_slotOf cX6_slotOf 4 (Option.some Jvm.ClassFile.FieldType.int) { frames := 3, cells := 0, slots := 0, locals := 65 } [.ref z, .ref r] h (fun v h' => ∃ x, v = some (.int x) ∧ slotR (ss.map (·.1)) (y.map (·.1)) x ∧ h' = h) := by
  obtain ⟨hn, hnd, g0, f, g1, g2⟩ := hz
  have hro := hr.ob
  refine Ct.of [some (.ref z), some (.ref r), none, none] (by decide +kernel) (Nat.le_of_ble_eq_true rfl) (fun p e s m args below meth c bs C hini => ?_)
  have loop : ∀ (n i : Nat), ss.length - i < n → i ≤ ss.length → y.map (·.1) ∉ (ss.map (·.1)).take i → X p l e { frames := 3, cells := 0, slots := 0, locals := 65 } s m args below meth c G bs (MQ below (x_Q G bs (fun v h' => ∃ x, v = some (.int x) ∧ slotR (ss.map (·.1)) (y.map (·.1)) x ∧ h' = h)) args s 0 0 (fun q => bs ≤ q)) 0 0 2 [some (.ref z), some (.ref r), some (.int (nI i)), none] [] h := by
    intro n
    induction n with
    | zero => intro i hn; omega
    | succ n ih =>
      intro i hn hi hd
      refine x_iload_n C dX6_slotOf_2 (kk := ?_)
      refine x_aload_n C dX6_slotOf_3 (kk := ?_)
      refine x_get C fl_X6_17 dX6_slotOf_4 (kk := ?_)
      refine x_ncmp_ge C i ss.length dX6_slotOf_7 49 (fun hc7 => ?_) (fun hc7 => ?_)
      · refine x_iconst C dX6_slotOf_49 (v := -1) (kk := ?_)
        refine x_iret C rfl dX6_slotOf_50 (hp := ?_)
        exact ⟨_, rfl, Or.inl ⟨rfl, by rw [List.take_of_length_le (by simpa using hc7)] at hd; exact hd⟩, rfl⟩
      obtain ⟨w, hw⟩ : ∃ w, ss[i]? = some w := ⟨ss[i], List.getElem?_eq_getElem hc7⟩
      obtain ⟨q, fq, q1, q2, hq⟩ := g2 i w hw
      have hk : (ss.map (·.1))[i]? = some w.1 := by simp [hw]
      have hqo := hq.2.2.2.1
      have hwl := hq.1
      have hyl := hr.1
      refine x_aload_n C dX6_slotOf_10 (kk := ?_)
      refine x_get C fl_X6_11 dX6_slotOf_11 (kk := ?_)
      refine x_iload_n C dX6_slotOf_14 (kk := ?_)
      refine x_aald C _ dX6_slotOf_15 (t := 2) (cn := RX4) (kk := ?_)
      rw [fq]
      show X p l e { frames := 3, cells := 0, slots := 0, locals := 65 } s m args below meth c G bs (MQ below (x_Q G bs (fun v h' => ∃ x, v = some (.int x) ∧ slotR (ss.map (·.1)) (y.map (·.1)) x ∧ h' = h)) args s 0 0 (fun q => bs ≤ q)) 0 0 16 _ [.ref q] h
      refine x_astore_n C dX6_slotOf_16 (kk := ?_)
      refine x_aload_n C dX6_slotOf_17 (kk := ?_)
      refine x_ifnull C dX6_slotOf_18 ?_
      refine x_aload_n C dX6_slotOf_21 (kk := ?_)
      refine x_callV C ml_X4_length lk_X6_28 (c_rp_length l G hq) dX6_slotOf_22 (fun r22 h22 hp22 => ?_)
      obtain ⟨rfl, rfl⟩ := hp22
      refine x_aload_n C dX6_slotOf_25 (kk := ?_)
      refine x_callV C ml_X5_size lk_X6_32 (c_row_size l G hr) dX6_slotOf_26 (fun r26 h26 hp26 => ?_)
      obtain ⟨rfl, rfl⟩ := hp26
      refine x_ncmp_ne C w.1.length y.length dX6_slotOf_29 43 (fun hc29 => ?_) (fun hc29 => ?_)
      · refine x_iinc1 C dX6_slotOf_43 (kk := ?_)
        refine x_goto C dX6_slotOf_46 2 ?_
        refine x_fg 3 ?_
        exact ih (i + 1) (by omega) (by omega) (by rw [take_at hk]; intro z; rcases List.mem_append.mp z with z | z; exact hd z; rw [List.mem_singleton] at z; exact hc29 (by rw [← z]; simp))
      · refine x_aload_n C dX6_slotOf_32 (kk := ?_)
        refine x_aload_n C dX6_slotOf_33 (kk := ?_)
        refine x_iconst C dX6_slotOf_34 (v := 0) (kk := ?_)
        refine x_callV C ml_X4_standsAt lk_X6_36 (c_rp_standsAt l G (i := 0) (Nat.zero_le _) hq hr) dX6_slotOf_35 (fun r35 h35 hp35 => ?_)
        obtain ⟨rfl, rfl⟩ := hp35
        refine x_ifB_eq C dX6_slotOf_38 43 (fun hc38 => ?_) (fun hc38 => ?_)
        · refine x_iinc1 C dX6_slotOf_43 (kk := ?_)
          refine x_goto C dX6_slotOf_46 2 ?_
          refine x_fg 3 ?_
          exact ih (i + 1) (by omega) (by omega) (by rw [take_at hk]; intro z; rcases List.mem_append.mp z with z | z; exact hd z; rw [List.mem_singleton] at z; exact hc38 (by rw [st_0 (by simpa using hc29)]; exact decide_eq_true z.symm))
        · refine x_iload_n C dX6_slotOf_41 (kk := ?_)
          refine x_iret C rfl dX6_slotOf_42 (hp := ?_)
          exact ⟨_, rfl, Or.inr ⟨i, rfl, by rw [hk]; rw [st_0 (by simpa using hc29)] at hc38; rw [of_decide_eq_true hc38]⟩, rfl⟩
  refine x_iconst C dX6_slotOf_0 (v := 0) (kk := ?_)
  refine x_istore_n C dX6_slotOf_1 (kk := ?_)
  exact loop (ss.length + 1) 0 (by omega) (by omega) (by simp)
/-- the longest one so far, as it lies in a local -/
def Bst (G : xG) (h : xh) (b : Option Sr) (v : Value) : Prop := (b = none ∧ v = .null) ∨ ∃ w q, b = some w ∧ v = .ref q ∧ Rp G h q w
def lstep (w : List Int32) (i : Nat) (best : Option Sr) (s : Sr) : Option Sr := if stands s.1 w i && (match best with | none => true | some z => decide (z.1.length < s.1.length)) then some s else best
theorem longest_eq (ss : List Sr) (w : List Int32) (i : Nat) : longest ss w i = ss.foldl (lstep w i) none := rfl
theorem lfold_at {ss : List Sr} {w : List Int32} {i k : Nat} {s : Sr} (hs : ss[k]? = some s) : (ss.take (k + 1)).foldl (lstep w i) none = lstep w i ((ss.take k).foldl (lstep w i) none) s := by
  rw [take_at hs, List.foldl_append]
  rfl
theorem lstep_no {w : List Int32} {i : Nat} {best : Option Sr} {s : Sr} (h : ¬ stands s.1 w i = true) : lstep w i best s = best := by simp [lstep, h]
theorem lstep_new {w : List Int32} {i : Nat} {s : Sr} (h : stands s.1 w i = true) : lstep w i none s = some s := by simp [lstep, h]
theorem lstep_gt {w : List Int32} {i : Nat} {z s : Sr} (h : stands s.1 w i = true) (hl : z.1.length < s.1.length) : lstep w i (some z) s = some s := by simp [lstep, h, hl]
theorem lstep_le {w : List Int32} {i : Nat} {z s : Sr} (hl : s.1.length ≤ z.1.length) : lstep w i (some z) s = some z := by
  have : ¬ z.1.length < s.1.length := by omega
  simp [lstep, this]
set_option maxRecDepth 100000 in
set_option maxHeartbeats 4000000 in
theorem c_s_longestAt (l : Launch) (G : xG) {h : xh} {z dy r i : Nat} {ss : List Sr} {y : List Sg} (hi : i ≤ y.length) (hz : Sx G h z dy ss) (hr : Rw G h r y) : Ct l G yX6_longestAt cX6_longestAt 6 (Option.some (Jvm.ClassFile.FieldType.object "SignTables$Replacement")) { frames := 3, cells := 0, slots := 0, locals := 65 } [.ref z, .ref r, .int (nI i)] h (fun v h' => ∃ x, v = some x ∧ Bst G h (longest ss (y.map (·.1)) i) x ∧ h' = h) := by
  obtain ⟨hn, hnd, g0, f, g1, g2⟩ := hz
  have hro := hr.ob
  refine Ct.of [some (.ref z), some (.ref r), some (.int (nI i)), none, none, none] (by decide +kernel) (Nat.le_of_ble_eq_true rfl) (fun p e s m args below meth c bs C hini => ?_)
  have loop : ∀ (n k : Nat) (bv : Value), ss.length - k < n → k ≤ ss.length → Bst G h ((ss.take k).foldl (lstep (y.map (·.1)) i) none) bv → X p l e { frames := 3, cells := 0, slots := 0, locals := 65 } s m args below meth c G bs (MQ below (x_Q G bs (fun v h' => ∃ x, v = some x ∧ Bst G h (longest ss (y.map (·.1)) i) x ∧ h' = h)) args s 0 0 (fun q => bs ≤ q)) 0 0 5 [some (.ref z), some (.ref r), some (.int (nI i)), some bv, some (.int (nI k)), none] [] h := by
    intro n
    induction n with
    | zero => intro k bv hn; omega
    | succ n ih =>
      intro k bv hn hk hb
      have hyl := hr.1
      rcases hb with ⟨hbn, rfl⟩ | ⟨w0, q0, hbn, rfl, hq0⟩
      · skip
        refine x_iload C dX6_longestAt_5 (kk := ?_)
        refine x_aload_n C dX6_longestAt_7 (kk := ?_)
        refine x_get C fl_X6_17 dX6_longestAt_8 (kk := ?_)
        refine x_ncmp_ge C k ss.length dX6_longestAt_11 63 (fun hc11 => ?_) (fun hc11 => ?_)
        · refine x_aload_nN C dX6_longestAt_63 (kk := ?_)
          refine x_aret C rfl (Or.inl ⟨_, rfl⟩) (Or.inl rfl) dX6_longestAt_64 (hp := ?_)
          exact ⟨_, rfl, by rw [longest_eq, ← List.take_of_length_le hc11, hbn]; exact Or.inl ⟨rfl, rfl⟩, rfl⟩
        obtain ⟨w, hw⟩ : ∃ w, ss[k]? = some w := ⟨ss[k], List.getElem?_eq_getElem hc11⟩
        obtain ⟨q, fq, q1, q2, hq⟩ := g2 k w hw
        have hqo := hq.2.2.2.1
        have hwl := hq.1
        refine x_aload_n C dX6_longestAt_14 (kk := ?_)
        refine x_get C fl_X6_11 dX6_longestAt_15 (kk := ?_)
        refine x_iload C dX6_longestAt_18 (kk := ?_)
        refine x_aald C _ dX6_longestAt_20 (t := 2) (cn := RX4) (kk := ?_)
        rw [fq]
        show X p l e { frames := 3, cells := 0, slots := 0, locals := 65 } s m args below meth c G bs (MQ below (x_Q G bs (fun v h' => ∃ x, v = some x ∧ Bst G h (longest ss (y.map (·.1)) i) x ∧ h' = h)) args s 0 0 (fun q => bs ≤ q)) 0 0 21 _ [.ref q] h
        refine x_astore C dX6_longestAt_21 (kk := ?_)
        refine x_aload C dX6_longestAt_23 (kk := ?_)
        refine x_ifnull C dX6_longestAt_25 ?_
        refine x_aload C dX6_longestAt_28 (kk := ?_)
        refine x_aload_n C dX6_longestAt_30 (kk := ?_)
        refine x_iload_n C dX6_longestAt_31 (kk := ?_)
        refine x_callV C ml_X4_standsAt lk_X6_36 (c_rp_standsAt l G hi hq hr) dX6_longestAt_32 (fun r32 h32 hp32 => ?_)
        obtain ⟨rfl, rfl⟩ := hp32
        refine x_ifB_eq C dX6_longestAt_35 57 (fun hc35 => ?_) (fun hc35 => ?_)
        · refine x_iinc1 C dX6_longestAt_57 (kk := ?_)
          refine x_goto C dX6_longestAt_60 5 ?_
          refine x_fg 5 ?_
          exact ih (k + 1) _ (by omega) (by omega) (by rw [lfold_at hw, hbn, lstep_no hc35]; exact Or.inl ⟨rfl, rfl⟩)
        · refine x_aload_nN C dX6_longestAt_38 (kk := ?_)
          refine x_ifnullN C dX6_longestAt_39 54 ?_
          refine x_aload C dX6_longestAt_54 (kk := ?_)
          refine x_astore_n C dX6_longestAt_56 (kk := ?_)
          refine x_iinc1 C dX6_longestAt_57 (kk := ?_)
          refine x_goto C dX6_longestAt_60 5 ?_
          refine x_fg 5 ?_
          exact ih (k + 1) _ (by omega) (by omega) (by rw [lfold_at hw, hbn, lstep_new hc35]; exact Or.inr ⟨w, q, rfl, rfl, hq⟩)
      · skip
        refine x_iload C dX6_longestAt_5 (kk := ?_)
        refine x_aload_n C dX6_longestAt_7 (kk := ?_)
        refine x_get C fl_X6_17 dX6_longestAt_8 (kk := ?_)
        refine x_ncmp_ge C k ss.length dX6_longestAt_11 63 (fun hc11 => ?_) (fun hc11 => ?_)
        · refine x_aload_n C dX6_longestAt_63 (kk := ?_)
          refine x_aret C rfl (Or.inl ⟨_, rfl⟩) (Or.inr ⟨_, rfl⟩) dX6_longestAt_64 (hp := ?_)
          exact ⟨_, rfl, by rw [longest_eq, ← List.take_of_length_le hc11, hbn]; exact Or.inr ⟨w0, q0, rfl, rfl, hq0⟩, rfl⟩
        obtain ⟨w, hw⟩ : ∃ w, ss[k]? = some w := ⟨ss[k], List.getElem?_eq_getElem hc11⟩
        obtain ⟨q, fq, q1, q2, hq⟩ := g2 k w hw
        have hqo := hq.2.2.2.1
        have hwl := hq.1
        refine x_aload_n C dX6_longestAt_14 (kk := ?_)
        refine x_get C fl_X6_11 dX6_longestAt_15 (kk := ?_)
        refine x_iload C dX6_longestAt_18 (kk := ?_)
        refine x_aald C _ dX6_longestAt_20 (t := 2) (cn := RX4) (kk := ?_)
        rw [fq]
        show X p l e { frames := 3, cells := 0, slots := 0, locals := 65 } s m args below meth c G bs (MQ below (x_Q G bs (fun v h' => ∃ x, v = some x ∧ Bst G h (longest ss (y.map (·.1)) i) x ∧ h' = h)) args s 0 0 (fun q => bs ≤ q)) 0 0 21 _ [.ref q] h
        refine x_astore C dX6_longestAt_21 (kk := ?_)
        refine x_aload C dX6_longestAt_23 (kk := ?_)
        refine x_ifnull C dX6_longestAt_25 ?_
        refine x_aload C dX6_longestAt_28 (kk := ?_)
        refine x_aload_n C dX6_longestAt_30 (kk := ?_)
        refine x_iload_n C dX6_longestAt_31 (kk := ?_)
        refine x_callV C ml_X4_standsAt lk_X6_36 (c_rp_standsAt l G hi hq hr) dX6_longestAt_32 (fun r32 h32 hp32 => ?_)
        obtain ⟨rfl, rfl⟩ := hp32
        refine x_ifB_eq C dX6_longestAt_35 57 (fun hc35 => ?_) (fun hc35 => ?_)
        · refine x_iinc1 C dX6_longestAt_57 (kk := ?_)
          refine x_goto C dX6_longestAt_60 5 ?_
          refine x_fg 5 ?_
          exact ih (k + 1) _ (by omega) (by omega) (by rw [lfold_at hw, hbn, lstep_no hc35]; exact Or.inr ⟨w0, q0, rfl, rfl, hq0⟩)
        · refine x_aload_n C dX6_longestAt_38 (kk := ?_)
          refine x_ifnull C dX6_longestAt_39 ?_
          refine x_aload C dX6_longestAt_42 (kk := ?_)
          refine x_callV C ml_X4_length lk_X6_28 (c_rp_length l G hq) dX6_longestAt_44 (fun r44 h44 hp44 => ?_)
          obtain ⟨rfl, rfl⟩ := hp44
          have hqo0 := hq0.2.2.2.1
          have hwl0 := hq0.1
          refine x_aload_n C dX6_longestAt_47 (kk := ?_)
          refine x_callV C ml_X4_length lk_X6_28 (c_rp_length l G hq0) dX6_longestAt_48 (fun r48 h48 hp48 => ?_)
          obtain ⟨rfl, rfl⟩ := hp48
          refine x_ncmp_le C w.1.length w0.1.length dX6_longestAt_51 57 (fun hc51 => ?_) (fun hc51 => ?_)
          · refine x_iinc1 C dX6_longestAt_57 (kk := ?_)
            refine x_goto C dX6_longestAt_60 5 ?_
            refine x_fg 5 ?_
            exact ih (k + 1) _ (by omega) (by omega) (by rw [lfold_at hw, hbn, lstep_le hc51]; exact Or.inr ⟨w0, q0, rfl, rfl, hq0⟩)
          · refine x_aload C dX6_longestAt_54 (kk := ?_)
            refine x_astore_n C dX6_longestAt_56 (kk := ?_)
            refine x_iinc1 C dX6_longestAt_57 (kk := ?_)
            refine x_goto C dX6_longestAt_60 5 ?_
            refine x_fg 5 ?_
            exact ih (k + 1) _ (by omega) (by omega) (by rw [lfold_at hw, hbn, lstep_gt hc35 hc51]; exact Or.inr ⟨w, q, rfl, rfl, hq⟩)
  refine x_null C dX6_longestAt_0 ?_
  refine x_astore_nN C dX6_longestAt_1 (kk := ?_)
  refine x_iconst C dX6_longestAt_2 (v := 0) (kk := ?_)
  refine x_istore C dX6_longestAt_3 (kk := ?_)
  exact loop (ss.length + 1) 0 .null (by omega) (by omega) (Or.inl ⟨rfl, rfl⟩)
