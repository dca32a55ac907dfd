/-! THE REFERENCE, II: tables -/
theorem slot_step {α : Type} {ks : List α} {x y : α} {i : Nat} {r : Int32} (hy : ks[i]? = some y) (h : slotR (ks.take i) x r) : (y = x → slotR (ks.take (i + 1)) x (nI i)) ∧ (¬ y = x → slotR (ks.take (i + 1)) x r) := by
  have hil : i < ks.length := (List.getElem?_eq_some_iff.mp hy).1
  refine ⟨fun e => Or.inr ⟨i, rfl, by rw [List.getElem?_take_of_lt (by omega), hy, e]⟩, fun e => ?_⟩
  rcases h with ⟨h1, h2⟩ | ⟨k, h1, h2⟩
  · refine Or.inl ⟨h1, ?_⟩
    rw [take_at hy]
    intro z
    rcases List.mem_append.mp z with z | z
    · exact h2 z
    · rw [List.mem_singleton] at z; exact e z.symm
  · have hk : k < i := by have := (List.getElem?_eq_some_iff.mp h2).1; simp at this; omega
    refine Or.inr ⟨k, h1, ?_⟩
    rw [List.getElem?_take_of_lt hk] at h2
    rw [List.getElem?_take_of_lt (by omega)]
    exact h2
set_option maxRecDepth 100000 in
set_option maxHeartbeats 4000000 in
theorem m_foldAt (l : Launch) (G : xG) {h : xh} {o : Nat} {I : Nat → Int32} {A : Nat → Nat → Int32} {fo : List Fo} (x : Int32) (hM : MO G h o I A) (hF : MrF (I 3) (A 4) (A 5) (A 6) fo) : Ct l G yX9_foldAt cX9_foldAt 4 (Option.some Jvm.ClassFile.FieldType.int) { frames := 0, cells := 0, slots := 0, locals := 0 } [.ref o, .int x] h (fun v h' => ∃ r, v = some (.int r) ∧ slotR (fo.map (·.1)) x r ∧ h' = h) := by
  have hl := hF.2.1
  refine Ct.of [some (.ref o), some (.int x), none, none] (by decide +kernel) (Nat.le_of_ble_eq_true rfl) (fun p e s m args below meth c bs C hini => ?_)
  have loop : ∀ (n i : Nat) (r : Int32), fo.length - i < n → i ≤ fo.length → slotR ((fo.map (·.1)).take i) x r → X p l e { frames := 0, cells := 0, slots := 0, locals := 0 } s m args below meth c G bs (MQ below (x_Q G bs (fun v h' => ∃ r, v = some (.int r) ∧ slotR (fo.map (·.1)) x r ∧ h' = h)) args s 0 0 (fun q => bs ≤ q)) 0 0 4 [some (.ref o), some (.int x), some (.int r), some (.int (nI i))] [] h := by
    intro n
    induction n with
    | zero => intro i r hn; omega
    | succ n ih =>
      intro i r hn hi hs
      refine x_iload_n C dX9_foldAt_4 (kk := ?_)
      refine x_aload_n C dX9_foldAt_5 (kk := ?_)
      refine x_get C fl_X9_155 dX9_foldAt_6 (hh := hM.1) (kk := ?_)
      refine x_top _ hF.1 ?_
      refine x_ncmp_ge C i fo.length dX9_foldAt_9 34 (fun hc9 => ?_) (fun hc9 => ?_)
      · refine x_iload_n C dX9_foldAt_34 (kk := ?_)
        refine x_iret C rfl dX9_foldAt_35 (hp := ?_)
        rw [List.take_of_length_le (by simpa using hc9)] at hs
        exact ⟨_, rfl, hs, rfl⟩
      obtain ⟨v, hv⟩ : ∃ v, fo[i]? = some v := ⟨fo[i], List.getElem?_eq_getElem hc9⟩
      have hfv := fL_at hF.2.2.2.2.1 hv
      have hst := slot_step (x := x) (y := v.1) (by simp [hv]) hs
      rw [← hfv] at hst
      refine x_aload_n C dX9_foldAt_12 (kk := ?_)
      refine x_get C fl_X9_22 dX9_foldAt_13 (hh := hM.1) (kk := ?_)
      refine x_iload_n C dX9_foldAt_16 (kk := ?_)
      refine x_mld C 4 (i) hM dX9_foldAt_17 rfl (n := 40) (by omega) (kk := ?_)
      refine x_iload_n C dX9_foldAt_18 (kk := ?_)
      refine x_icmp_ne C dX9_foldAt_19 26 (fun hc19 => ?_) (fun hc19 => ?_)
      · refine x_iload_n C dX9_foldAt_26 (kk := ?_)
        refine x_istore_n C dX9_foldAt_27 (kk := ?_)
        refine x_iinc1 C dX9_foldAt_28 (kk := ?_)
        refine x_goto C dX9_foldAt_31 4 ?_
        first | exact ih (i + 1) _ (by omega) (by omega) (hst.2 hc19) | exact ih (i + 1) _ (by omega) (by omega) (hst.1 hc19)
      · refine x_iload_n C dX9_foldAt_22 (kk := ?_)
        refine x_goto C dX9_foldAt_23 27 ?_
        refine x_istore_n C dX9_foldAt_27 (kk := ?_)
        refine x_iinc1 C dX9_foldAt_28 (kk := ?_)
        refine x_goto C dX9_foldAt_31 4 ?_
        first | exact ih (i + 1) _ (by omega) (by omega) (hst.2 hc19) | exact ih (i + 1) _ (by omega) (by omega) (hst.1 hc19)
  refine x_iconst C dX9_foldAt_0 (v := -1) (kk := ?_)
  refine x_istore_n C dX9_foldAt_1 (kk := ?_)
  refine x_iconst C dX9_foldAt_2 (v := 0) (kk := ?_)
  refine x_istore_n C dX9_foldAt_3 (kk := ?_)
  exact loop (fo.length + 1) 0 (-1) (by omega) (by omega) (Or.inl ⟨rfl, by simp⟩)
set_option maxRecDepth 100000 in
set_option maxHeartbeats 4000000 in
theorem m_pairAt (l : Launch) (G : xG) {h : xh} {o : Nat} {I : Nat → Int32} {A : Nat → Nat → Int32} {pa : List Pr} (x y : Int32) (hM : MO G h o I A) (hF : MrP (I 4) (A 7) (A 8) (A 9) pa) : Ct l G yX9_pairAt cX9_pairAt 5 (Option.some Jvm.ClassFile.FieldType.int) { frames := 0, cells := 0, slots := 0, locals := 0 } [.ref o, .int x, .int y] h (fun v h' => ∃ r, v = some (.int r) ∧ slotR (pa.map (·.1)) (x, y) r ∧ h' = h) := by
  have hl := hF.2.1
  refine Ct.of [some (.ref o), some (.int x), some (.int y), none, none] (by decide +kernel) (Nat.le_of_ble_eq_true rfl) (fun p e s m args below meth c bs C hini => ?_)
  have loop : ∀ (n i : Nat) (r : Int32), pa.length - i < n → i ≤ pa.length → slotR ((pa.map (·.1)).take i) (x, y) r → X p l e { frames := 0, cells := 0, slots := 0, locals := 0 } s m args below meth c G bs (MQ below (x_Q G bs (fun v h' => ∃ r, v = some (.int r) ∧ slotR (pa.map (·.1)) (x, y) r ∧ h' = h)) args s 0 0 (fun q => bs ≤ q)) 0 0 5 [some (.ref o), some (.int x), some (.int y), some (.int r), some (.int (nI i))] [] h := by
    intro n
    induction n with
    | zero => intro i r hn; omega
    | succ n ih =>
      intro i r hn hi hs
      refine x_iload C dX9_pairAt_5 (kk := ?_)
      refine x_aload_n C dX9_pairAt_7 (kk := ?_)
      refine x_get C fl_X9_168 dX9_pairAt_8 (hh := hM.1) (kk := ?_)
      refine x_top _ hF.1 ?_
      refine x_ncmp_ge C i pa.length dX9_pairAt_11 49 (fun hc11 => ?_) (fun hc11 => ?_)
      · refine x_iload_n C dX9_pairAt_49 (kk := ?_)
        refine x_iret C rfl dX9_pairAt_50 (hp := ?_)
        rw [List.take_of_length_le (by simpa using hc11)] at hs
        exact ⟨_, rfl, hs, rfl⟩
      obtain ⟨⟨⟨v1, v2⟩, v3⟩, hv⟩ : ∃ v, pa[i]? = some v := ⟨pa[i], List.getElem?_eq_getElem hc11⟩
      have hf1 := fL_at hF.2.2.2.1 hv
      have hf2 := fL_at hF.2.2.2.2.1 hv
      dsimp only at hf1 hf2
      have hst := slot_step (x := (x, y)) (y := (v1, v2)) (by simp [hv]) hs
      rw [← hf1, ← hf2] at hst
      refine x_aload_n C dX9_pairAt_14 (kk := ?_)
      refine x_get C fl_X9_31 dX9_pairAt_15 (hh := hM.1) (kk := ?_)
      refine x_iload C dX9_pairAt_18 (kk := ?_)
      refine x_mld C 7 (i) hM dX9_pairAt_20 rfl (n := 20) (by omega) (kk := ?_)
      refine x_iload_n C dX9_pairAt_21 (kk := ?_)
      refine x_icmp_ne C dX9_pairAt_22 41 (fun hc22 => ?_) (fun hc22 => ?_)
      · refine x_iload_n C dX9_pairAt_41 (kk := ?_)
        refine x_istore_n C dX9_pairAt_42 (kk := ?_)
        refine x_iinc1 C dX9_pairAt_43 (kk := ?_)
        refine x_goto C dX9_pairAt_46 5 ?_
        first | exact ih (i + 1) _ (by omega) (by omega) (hst.1 (by rw [hc22, hc33])) | exact ih (i + 1) _ (by omega) (by omega) (hst.2 (fun z => hc22 (Prod.mk.inj z).1))
      · refine x_aload_n C dX9_pairAt_25 (kk := ?_)
        refine x_get C fl_X9_34 dX9_pairAt_26 (hh := hM.1) (kk := ?_)
        refine x_iload C dX9_pairAt_29 (kk := ?_)
        refine x_mld C 8 (i) hM dX9_pairAt_31 rfl (n := 20) (by omega) (kk := ?_)
        refine x_iload_n C dX9_pairAt_32 (kk := ?_)
        refine x_icmp_ne C dX9_pairAt_33 41 (fun hc33 => ?_) (fun hc33 => ?_)
        · refine x_iload_n C dX9_pairAt_41 (kk := ?_)
          refine x_istore_n C dX9_pairAt_42 (kk := ?_)
          refine x_iinc1 C dX9_pairAt_43 (kk := ?_)
          refine x_goto C dX9_pairAt_46 5 ?_
          first | exact ih (i + 1) _ (by omega) (by omega) (hst.1 (by rw [hc22, hc33])) | exact ih (i + 1) _ (by omega) (by omega) (hst.2 (fun z => hc33 (Prod.mk.inj z).2))
        · refine x_iload C dX9_pairAt_36 (kk := ?_)
          refine x_goto C dX9_pairAt_38 42 ?_
          refine x_istore_n C dX9_pairAt_42 (kk := ?_)
          refine x_iinc1 C dX9_pairAt_43 (kk := ?_)
          refine x_goto C dX9_pairAt_46 5 ?_
          first | exact ih (i + 1) _ (by omega) (by omega) (hst.1 (by rw [hc22, hc33])) | exact ih (i + 1) _ (by omega) (by omega) (hst.2 (fun z => hc33 (Prod.mk.inj z).2))
  refine x_iconst C dX9_pairAt_0 (v := -1) (kk := ?_)
  refine x_istore_n C dX9_pairAt_1 (kk := ?_)
  refine x_iconst C dX9_pairAt_2 (v := 0) (kk := ?_)
  refine x_istore C dX9_pairAt_3 (kk := ?_)
  exact loop (pa.length + 1) 0 (-1) (by omega) (by omega) (Or.inl ⟨rfl, by simp⟩)
theorem zdig_inv {ze : List Int32} {x : Int32} {i : Nat} {v : Int32} (hv : ze[i]? = some v) : zdig (ze.drop i) x = if v ≤ x ∧ x ≤ v + 9 then x - v else zdig (ze.drop (i + 1)) x := by rw [drop_at hv, zdig_cons]
set_option maxRecDepth 100000 in
set_option maxHeartbeats 4000000 in
theorem m_digitOf (l : Launch) (G : xG) {h : xh} {o : Nat} {I : Nat → Int32} {A : Nat → Nat → Int32} {ze : List Int32} (x : Int32) (hM : MO G h o I A) (hF : MrZ (I 5) (A 10) ze) : Ct l G yX9_digitOf cX9_digitOf 4 (Option.some Jvm.ClassFile.FieldType.int) { frames := 1, cells := 0, slots := 0, locals := 22 } [.ref o, .int x] h (fun v h' => v = some (.int (zdig ze x)) ∧ h' = h) := by
  have hl := hF.2.1
  refine Ct.of [some (.ref o), some (.int x), none, none] (by decide +kernel) (Nat.le_of_ble_eq_true rfl) (fun p e s m args below meth c bs C hini => ?_)
  have loop : ∀ (i : Nat), i ≤ ze.length → ∀ w : Int32, w = nI i - 1 → X p l e { frames := 1, cells := 0, slots := 0, locals := 22 } s m args below meth c G bs (MQ below (x_Q G bs (fun v h' => v = some (.int (zdig ze x)) ∧ h' = h)) args s 0 0 (fun q => bs ≤ q)) 0 0 10 [some (.ref o), some (.int x), some (.int (zdig (ze.drop i) x)), some (.int w)] [] h := by
    intro i
    induction i with
    | zero =>
      intro hi w hw
      subst hw
      refine x_iload_n C dX9_digitOf_10 (kk := ?_)
      refine x_if_lt C dX9_digitOf_11 55 (fun hc11 => ?_) (fun hc11 => ?_)
      · refine x_iload_n C dX9_digitOf_55 (kk := ?_)
        refine x_iret C rfl dX9_digitOf_56 (hp := ?_)
        exact ⟨rfl, rfl⟩
      · exact absurd (by decide) hc11
    | succ i ih =>
      intro hi w hw
      have hwe : w = nI i := by rw [hw, nI_pred]
      subst hwe
      obtain ⟨v, hv⟩ : ∃ v, ze[i]? = some v := ⟨ze[i]'(by omega), List.getElem?_eq_getElem (by omega)⟩
      have hfv := hF.2.2.1 i v hv
      have hzi := zdig_inv (x := x) hv
      rw [← hfv] at hzi
      refine x_iload_n C dX9_digitOf_10 (kk := ?_)
      refine x_if_lt C dX9_digitOf_11 55 (fun hc11 => ?_) (fun hc11 => ?_)
      · exact absurd hc11 (nI_pos (by omega))
      · refine x_iload_n C dX9_digitOf_14 (kk := ?_)
        refine x_aload_n C dX9_digitOf_15 (kk := ?_)
        refine x_get C fl_X9_40 dX9_digitOf_16 (hh := hM.1) (kk := ?_)
        refine x_iload_n C dX9_digitOf_19 (kk := ?_)
        refine x_mld C 10 (i) hM dX9_digitOf_20 rfl (n := 10) (by omega) (kk := ?_)
        refine x_aload_n C dX9_digitOf_21 (kk := ?_)
        refine x_get C fl_X9_40 dX9_digitOf_22 (hh := hM.1) (kk := ?_)
        refine x_iload_n C dX9_digitOf_25 (kk := ?_)
        refine x_mld C 10 (i) hM dX9_digitOf_26 rfl (n := 10) (by omega) (kk := ?_)
        refine x_bipush C dX9_digitOf_27 (v := 9) (kk := ?_)
        refine x_iadd C dX9_digitOf_29 ?_
        refine x_callS C ml_X9_isIn lk_X9_111 (m_isIn l G x (A 10 i) (A 10 i + 9)) dX9_digitOf_30 (fun r30 h30 hp30 => ?_)
        obtain ⟨rfl, rfl⟩ := hp30
        refine x_ifB_eq C dX9_digitOf_33 47 (fun hc33 => ?_) (fun hc33 => ?_)
        · refine x_iload_n C dX9_digitOf_47 (kk := ?_)
          refine x_istore_n C dX9_digitOf_48 (kk := ?_)
          refine x_iinc C dX9_digitOf_49 (v := nI i - 1) (hv := by rw [Int32.sub_eq_add_neg]; rfl) (kk := ?_)
          refine x_goto C dX9_digitOf_52 10 ?_
          first | (rw [if_pos hc33] at hzi; rw [← hzi]; exact ih (by omega) _ rfl) | (rw [if_neg hc33] at hzi; rw [← hzi]; exact ih (by omega) _ rfl)
        · refine x_iload_n C dX9_digitOf_36 (kk := ?_)
          refine x_aload_n C dX9_digitOf_37 (kk := ?_)
          refine x_get C fl_X9_40 dX9_digitOf_38 (hh := hM.1) (kk := ?_)
          refine x_iload_n C dX9_digitOf_41 (kk := ?_)
          refine x_mld C 10 (i) hM dX9_digitOf_42 rfl (n := 10) (by omega) (kk := ?_)
          refine x_isub C dX9_digitOf_43 ?_
          refine x_goto C dX9_digitOf_44 48 ?_
          refine x_istore_n C dX9_digitOf_48 (kk := ?_)
          refine x_iinc C dX9_digitOf_49 (v := nI i - 1) (hv := by rw [Int32.sub_eq_add_neg]; rfl) (kk := ?_)
          refine x_goto C dX9_digitOf_52 10 ?_
          first | (rw [if_pos hc33] at hzi; rw [← hzi]; exact ih (by omega) _ rfl) | (rw [if_neg hc33] at hzi; rw [← hzi]; exact ih (by omega) _ rfl)
  refine x_bipush C dX9_digitOf_0 (v := -9) (kk := ?_)
  refine x_istore_n C dX9_digitOf_2 (kk := ?_)
  refine x_aload_n C dX9_digitOf_3 (kk := ?_)
  refine x_get C fl_X9_175 dX9_digitOf_4 (hh := hM.1) (kk := ?_)
  refine x_top _ hF.1 ?_
  refine x_iconst C dX9_digitOf_7 (v := 1) (kk := ?_)
  refine x_isub C dX9_digitOf_8 ?_
  refine x_istore_n C dX9_digitOf_9 (kk := ?_)
  have := loop ze.length (Nat.le_refl _) _ rfl
  rw [List.drop_length] at this
  exact this
set_option maxRecDepth 100000 in
set_option maxHeartbeats 4000000 in
theorem m_digit (l : Launch) (G : xG) {h : xh} {o : Nat} {u : List Int32} {km : Nat} {src lat : List Sg} {fo : List Fo} {pa : List Pr} {ze : List Int32} {ra : List Rg} {sr : List Sr} {ch : List (Option Fi)} (v : Int32) (hS : Ms G h o (u, km, src, lat, (fo, pa, ze, ra, sr), ch)) : Ct l G yX9_digit cX9_digit 2 (Option.some Jvm.ClassFile.FieldType.int) { frames := 2, cells := 0, slots := 0, locals := 45 } [.ref o, .int v] h (fun r h' => OpM G o h (zdig ze v, (u, km, src, lat, (fo, pa, ze, ra, sr), ch)) r h') := by
  obtain ⟨I, A, hM, hU, hSr, hFo, hPa, hZe, hRa, hSt, hCh, hOu⟩ := id hS
  dsimp only at hU hSr hFo hPa hZe hRa hSt hCh hOu
  have hf : Mf o h h := Fr.rf
  refine Ct.of [some (.ref o), some (.int v)] (by decide +kernel) (Nat.le_of_ble_eq_true rfl) (fun p e s m args below meth c bs C hini => ?_)
  refine x_aload_n C dX9_digit_0 (kk := ?_)
  refine x_iload_n C dX9_digit_1 (kk := ?_)
  refine x_callV C ml_X9_digitOf lk_X9_200 (m_digitOf l G v hM hZe) dX9_digit_2 (fun r2 h2 hp2 => ?_) (hh := hM.1)
  obtain ⟨rfl, rfl⟩ := hp2
  refine x_iret C rfl dX9_digit_5 (hp := ?_)
  exact ⟨rfl, hS, hf⟩
theorem b2i {p1 q1 : Bool} : (if p1 = true then (1 : Int32) else 0) ||| (if q1 = true then 1 else 0) = if (p1 || q1) = true then 1 else 0 := by cases p1 <;> cases q1 <;> decide
theorem rhas_take {ra : List Rg} {x : Int32} {i : Nat} {v : Rg} (hv : ra[i]? = some v) : rhas (ra.take (i + 1)) x = (rhas (ra.take i) x || decide (v.1 ≤ x ∧ x ≤ v.2)) := by
  rw [take_at hv]
  unfold rhas
  rw [List.any_append]
  simp
set_option maxRecDepth 100000 in
set_option maxHeartbeats 4000000 in
theorem m_isDropped (l : Launch) (G : xG) {h : xh} {o : Nat} {I : Nat → Int32} {A : Nat → Nat → Int32} {ra : List Rg} (x : Int32) (hM : MO G h o I A) (hF : MrR (I 6) (A 11) (A 12) ra) : Ct l G yX9_isDropped cX9_isDropped 4 (Option.some Jvm.ClassFile.FieldType.boolean) { frames := 1, cells := 0, slots := 0, locals := 22 } [.ref o, .int x] h (fun v h' => v = some (.int (if rhas ra x = true then 1 else 0)) ∧ h' = h) := by
  have hl := hF.2.1
  refine Ct.of [some (.ref o), some (.int x), none, none] (by decide +kernel) (Nat.le_of_ble_eq_true rfl) (fun p e s m args below meth c bs C hini => ?_)
  have loop : ∀ (n i : Nat), ra.length - i < n → i ≤ ra.length → X p l e { frames := 1, cells := 0, slots := 0, locals := 22 } s m args below meth c G bs (MQ below (x_Q G bs (fun v h' => v = some (.int (if rhas ra x = true then 1 else 0)) ∧ h' = h)) args s 0 0 (fun q => bs ≤ q)) 0 0 4 [some (.ref o), some (.int x), some (.int (if rhas (ra.take i) x = true then 1 else 0)), some (.int (nI i))] [] h := by
    intro n
    induction n with
    | zero => intro i hn; omega
    | succ n ih =>
      intro i hn hi
      refine x_iload_n C dX9_isDropped_4 (kk := ?_)
      refine x_aload_n C dX9_isDropped_5 (kk := ?_)
      refine x_get C fl_X9_178 dX9_isDropped_6 (hh := hM.1) (kk := ?_)
      refine x_top _ hF.1 ?_
      refine x_ncmp_ge C i ra.length dX9_isDropped_9 37 (fun hc9 => ?_) (fun hc9 => ?_)
      · refine x_iload_n C dX9_isDropped_37 (kk := ?_)
        refine x_zret C rfl dX9_isDropped_38 (ite01 _) (hp := ?_)
        exact ⟨by rw [List.take_of_length_le hc9], rfl⟩
      obtain ⟨v, hv⟩ : ∃ v, ra[i]? = some v := ⟨ra[i], List.getElem?_eq_getElem hc9⟩
      have hf1 := fL_at hF.2.2.1 hv
      have hf2 := fL_at hF.2.2.2 hv
      refine x_iload_n C dX9_isDropped_12 (kk := ?_)
      refine x_iload_n C dX9_isDropped_13 (kk := ?_)
      refine x_aload_n C dX9_isDropped_14 (kk := ?_)
      refine x_get C fl_X9_43 dX9_isDropped_15 (hh := hM.1) (kk := ?_)
      refine x_iload_n C dX9_isDropped_18 (kk := ?_)
      refine x_mld C 11 i hM dX9_isDropped_19 rfl (n := 8) (by omega) (kk := ?_)
      rw [hf1]
      refine x_aload_n C dX9_isDropped_20 (kk := ?_)
      refine x_get C fl_X9_46 dX9_isDropped_21 (hh := hM.1) (kk := ?_)
      refine x_iload_n C dX9_isDropped_24 (kk := ?_)
      refine x_mld C 12 i hM dX9_isDropped_25 rfl (n := 8) (by omega) (kk := ?_)
      rw [hf2]
      refine x_callS C ml_X9_isIn lk_X9_111 (m_isIn l G x v.1 v.2) dX9_isDropped_26 (fun r26 h26 hp26 => ?_)
      obtain ⟨rfl, rfl⟩ := hp26
      refine x_ior C dX9_isDropped_29 ?_
      refine x_top _ (show _ = (if rhas (ra.take (i + 1)) x = true then (1 : Int32) else 0) from by rw [rhas_take hv, ← b2i]; simp) ?_
      refine x_istore_n C dX9_isDropped_30 (kk := ?_)
      refine x_iinc1 C dX9_isDropped_31 (kk := ?_)
      refine x_goto C dX9_isDropped_34 4 ?_
      exact ih (i + 1) (by omega) (by omega)
  refine x_iconst C dX9_isDropped_0 (v := 0) (kk := ?_)
  refine x_istore_n C dX9_isDropped_1 (kk := ?_)
  refine x_iconst C dX9_isDropped_2 (v := 0) (kk := ?_)
  refine x_istore_n C dX9_isDropped_3 (kk := ?_)
  have := loop (ra.length + 1) 0 (by omega) (by omega)
  exact this
set_option maxRecDepth 100000 in
set_option maxHeartbeats 4000000 in
theorem m_zero (l : Launch) (G : xG) {h : xh} {o : Nat} {u : List Int32} {km : Nat} {src lat : List Sg} {fo : List Fo} {pa : List Pr} {ze : List Int32} {ra : List Rg} {sr : List Sr} {ch : List (Option Fi)} (v : Int32) (hS : Ms G h o (u, km, src, lat, (fo, pa, ze, ra, sr), ch)) : Ct l G yX9_zero cX9_zero 2 (Option.some Jvm.ClassFile.FieldType.int) { frames := 1, cells := 0, slots := 0, locals := 22 } [.ref o, .int v] h (fun r h' => OpM G o h (opZero (u, km, src, lat, (fo, pa, ze, ra, sr), ch) v) r h') := by
  obtain ⟨I, A, hM, hU, hSr, hFo, hPa, hZe, hRa, hSt, hCh, hOu⟩ := id hS
  dsimp only at hU hSr hFo hPa hZe hRa hSt hCh hOu
  have hf : Mf o h h := Fr.rf
  have hl := hZe.2.1
  refine Ct.of [some (.ref o), some (.int v)] (by decide +kernel) (Nat.le_of_ble_eq_true rfl) (fun p e s m args below meth c bs C hini => ?_)
  refine x_iload_n C dX9_zero_0 (kk := ?_)
  refine x_iconst C dX9_zero_1 (v := 0) (kk := ?_)
  refine x_ldc C tw_655 dX9_zero_2 ?_
  refine x_callS C ml_X9_isIn lk_X9_111 (m_isIn l G v 0 1114102) dX9_zero_4 (fun r4 h4 hp4 => ?_)
  obtain ⟨rfl, rfl⟩ := hp4
  refine x_ifB_ne C dX9_zero_7 12 (fun hc7 => ?_) (fun hc7 => ?_)
  · refine x_aload_n C dX9_zero_12 (kk := ?_)
    refine x_get C fl_X9_175 dX9_zero_13 (hh := hM.1) (kk := ?_)
    refine x_top _ hZe.1 ?_
    refine x_bipush C dX9_zero_16 (v := 10) (kk := ?_)
    refine x_ncmp_ne C ze.length 10 dX9_zero_18 24 (fun hc18 => ?_) (fun hc18 => ?_)
    · skip
      refine x_aload_n C dX9_zero_24 (kk := ?_)
      refine x_get C fl_X9_40 dX9_zero_25 (hh := hM.1) (kk := ?_)
      refine x_aload_n C dX9_zero_28 (kk := ?_)
      refine x_get C fl_X9_175 dX9_zero_29 (hh := hM.1) (kk := ?_)
      refine x_top _ hZe.1 ?_
      refine x_iload_n C dX9_zero_32 (kk := ?_)
      refine x_mst C 10 (ze.length) hM hf dX9_zero_33 rfl (n := 10) (by omega) (kk := fun h hM hf => ?_)
      refine x_aload_n C dX9_zero_34 (kk := ?_)
      refine x_dup C dX9_zero_35 (kk := ?_)
      refine x_get C fl_X9_175 dX9_zero_36 (hh := hM.1) (kk := ?_)
      refine x_top _ hZe.1 ?_
      refine x_iconst C dX9_zero_39 (v := 1) (kk := ?_)
      refine x_iadd C dX9_zero_40 ?_
      refine x_top _ (nI_1 ze.length) ?_
      refine x_mpi C 5 hM hf fp_X9_175 dX9_zero_41 (kk := fun h hM hf => ?_)
      refine x_aload_n C dX9_zero_44 (kk := ?_)
      refine x_get C fl_X9_175 dX9_zero_45 (hh := hM.1) (kk := ?_)
      refine x_iret C rfl dX9_zero_48 (hp := ?_)
      exact ⟨by simp only [opZero, if_pos hc7, if_neg hc18]; rfl, by simp only [opZero, if_pos hc7, if_neg hc18]; exact ⟨_, _, hM, hU, hSr, hFo, hPa, ⟨by rw [List.length_append]; rfl, by simp; omega, fL_app hZe.2.2.1 rfl, fun z hz => (List.mem_append.mp hz).elim (hZe.2.2.2 z) (fun q => by rw [List.mem_singleton] at q; rw [q]; exact hc7)⟩, hRa, hSt, hCh, hOu⟩, hf⟩
    refine x_bipush C dX9_zero_21 (v := -2) (kk := ?_)
    refine x_iret C rfl dX9_zero_23 (hp := ?_)
    exact ⟨by simp only [opZero, if_pos hc7, if_pos hc18], by simp only [opZero, if_pos hc7, if_pos hc18]; exact hS, hf⟩
  · refine x_iconst C dX9_zero_10 (v := -1) (kk := ?_)
    refine x_iret C rfl dX9_zero_11 (hp := ?_)
    exact ⟨by simp only [opZero, if_neg hc7], by simp only [opZero, if_neg hc7]; exact hS, hf⟩
set_option maxRecDepth 100000 in
set_option maxHeartbeats 4000000 in
theorem m_range (l : Launch) (G : xG) {h : xh} {o : Nat} {u : List Int32} {km : Nat} {src lat : List Sg} {fo : List Fo} {pa : List Pr} {ze : List Int32} {ra : List Rg} {sr : List Sr} {ch : List (Option Fi)} (a b : Int32) (hS : Ms G h o (u, km, src, lat, (fo, pa, ze, ra, sr), ch)) : Ct l G yX9_range cX9_range 3 (Option.some Jvm.ClassFile.FieldType.int) { frames := 2, cells := 0, slots := 0, locals := 42 } [.ref o, .int a, .int b] h (fun r h' => OpM G o h (opRange (u, km, src, lat, (fo, pa, ze, ra, sr), ch) a b) r h') := by
  obtain ⟨I, A, hM, hU, hSr, hFo, hPa, hZe, hRa, hSt, hCh, hOu⟩ := id hS
  dsimp only at hU hSr hFo hPa hZe hRa hSt hCh hOu
  have hf : Mf o h h := Fr.rf
  have hl := hRa.2.1
  refine Ct.of [some (.ref o), some (.int a), some (.int b)] (by decide +kernel) (Nat.le_of_ble_eq_true rfl) (fun p e s m args below meth c bs C hini => ?_)
  refine x_iload_n C dX9_range_0 (kk := ?_)
  refine x_callS C ml_X9_isSign lk_X9_158 (m_isSign l G a) dX9_range_1 (fun r1 h1 hp1 => ?_)
  obtain ⟨rfl, rfl⟩ := hp1
  refine x_ifB_eq C dX9_range_4 19 (fun hc4 => ?_) (fun hc4 => ?_)
  · have hng : ¬ ((0 ≤ a ∧ a ≤ 1114111) ∧ (0 ≤ b ∧ b ≤ 1114111) ∧ a ≤ b) := fun z => hc4 z.1
    refine x_iconst C dX9_range_19 (v := -1) (kk := ?_)
    refine x_iret C rfl dX9_range_20 (hp := ?_)
    exact ⟨by simp only [opRange, if_neg hng], by simp only [opRange, if_neg hng]; exact hS, hf⟩
  · refine x_iload_n C dX9_range_7 (kk := ?_)
    refine x_callS C ml_X9_isSign lk_X9_158 (m_isSign l G b) dX9_range_8 (fun r8 h8 hp8 => ?_)
    obtain ⟨rfl, rfl⟩ := hp8
    refine x_ifB_eq C dX9_range_11 19 (fun hc11 => ?_) (fun hc11 => ?_)
    · have hng : ¬ ((0 ≤ a ∧ a ≤ 1114111) ∧ (0 ≤ b ∧ b ≤ 1114111) ∧ a ≤ b) := fun z => hc11 z.2.1
      refine x_iconst C dX9_range_19 (v := -1) (kk := ?_)
      refine x_iret C rfl dX9_range_20 (hp := ?_)
      exact ⟨by simp only [opRange, if_neg hng], by simp only [opRange, if_neg hng]; exact hS, hf⟩
    · refine x_iload_n C dX9_range_14 (kk := ?_)
      refine x_iload_n C dX9_range_15 (kk := ?_)
      refine x_icmp_ge C dX9_range_16 21 (fun hc16 => ?_) (fun hc16 => ?_)
      · have hcd : (0 ≤ a ∧ a ≤ 1114111) ∧ (0 ≤ b ∧ b ≤ 1114111) ∧ a ≤ b := ⟨hc4, hc11, hc16⟩
        refine x_aload_n C dX9_range_21 (kk := ?_)
        refine x_get C fl_X9_178 dX9_range_22 (hh := hM.1) (kk := ?_)
        refine x_top _ hRa.1 ?_
        refine x_bipush C dX9_range_25 (v := 8) (kk := ?_)
        refine x_ncmp_ne C ra.length 8 dX9_range_27 33 (fun hc27 => ?_) (fun hc27 => ?_)
        · skip
          refine x_aload_n C dX9_range_33 (kk := ?_)
          refine x_get C fl_X9_43 dX9_range_34 (hh := hM.1) (kk := ?_)
          refine x_aload_n C dX9_range_37 (kk := ?_)
          refine x_get C fl_X9_178 dX9_range_38 (hh := hM.1) (kk := ?_)
          refine x_top _ hRa.1 ?_
          refine x_iload_n C dX9_range_41 (kk := ?_)
          refine x_mst C 11 (ra.length) hM hf dX9_range_42 rfl (n := 8) (by omega) (kk := fun h hM hf => ?_)
          refine x_aload_n C dX9_range_43 (kk := ?_)
          refine x_get C fl_X9_46 dX9_range_44 (hh := hM.1) (kk := ?_)
          refine x_aload_n C dX9_range_47 (kk := ?_)
          refine x_get C fl_X9_178 dX9_range_48 (hh := hM.1) (kk := ?_)
          refine x_top _ hRa.1 ?_
          refine x_iload_n C dX9_range_51 (kk := ?_)
          refine x_mst C 12 (ra.length) hM hf dX9_range_52 rfl (n := 8) (by omega) (kk := fun h hM hf => ?_)
          refine x_aload_n C dX9_range_53 (kk := ?_)
          refine x_dup C dX9_range_54 (kk := ?_)
          refine x_get C fl_X9_178 dX9_range_55 (hh := hM.1) (kk := ?_)
          refine x_top _ hRa.1 ?_
          refine x_iconst C dX9_range_58 (v := 1) (kk := ?_)
          refine x_iadd C dX9_range_59 ?_
          refine x_top _ (nI_1 ra.length) ?_
          refine x_mpi C 6 hM hf fp_X9_178 dX9_range_60 (kk := fun h hM hf => ?_)
          refine x_aload_n C dX9_range_63 (kk := ?_)
          refine x_get C fl_X9_178 dX9_range_64 (hh := hM.1) (kk := ?_)
          refine x_iret C rfl dX9_range_67 (hp := ?_)
          exact ⟨by simp only [opRange, if_pos hcd, if_neg hc27]; rfl, by simp only [opRange, if_pos hcd, if_neg hc27]; exact ⟨_, _, hM, hU, hSr, hFo, hPa, hZe, ⟨by rw [List.length_append]; rfl, by simp; omega, by rw [List.map_append]; exact fL_app hRa.2.2.1 (by simp), by rw [List.map_append]; exact fL_app hRa.2.2.2 (by simp)⟩, hSt, hCh, hOu⟩, hf⟩
        refine x_bipush C dX9_range_30 (v := -2) (kk := ?_)
        refine x_iret C rfl dX9_range_32 (hp := ?_)
        exact ⟨by simp only [opRange, if_pos hcd, if_pos hc27], by simp only [opRange, if_pos hcd, if_pos hc27]; exact hS, hf⟩
      · have hng : ¬ ((0 ≤ a ∧ a ≤ 1114111) ∧ (0 ≤ b ∧ b ≤ 1114111) ∧ a ≤ b) := fun z => hc16 z.2.2
        refine x_iconst C dX9_range_19 (v := -1) (kk := ?_)
        refine x_iret C rfl dX9_range_20 (hp := ?_)
        exact ⟨by simp only [opRange, if_neg hng], by simp only [opRange, if_neg hng]; exact hS, hf⟩
