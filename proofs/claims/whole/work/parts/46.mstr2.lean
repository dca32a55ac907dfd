/-! THE REFERENCE, VI: strings, units -/
theorem rowMap {L : List Sg} {f : Nat → Int32} {q : Nat} (h : ∀ (j : Nat) (x : Sg), L[j]? = some x → f (q + j) = x.1) : ∀ (j : Nat) (v : Int32), (L.map (·.1))[j]? = some v → f (q + j) = v := by
  intro j v hv
  rw [List.getElem?_map] at hv
  cases hl : L[j]? with
  | none => rw [hl] at hv; cases hv
  | some x => rw [hl] at hv; cases hv; exact h j x hl
theorem mrtPut {n : Int32} {f g k t f2 g2 k2 t2 : Nat → Int32} {sr : List Sr} {w y : List Int32} {s9 : Nat} (h : MrT n f g k t sr) (hk : (s9 = sr.length ∧ w ∉ sr.map (·.1)) ∨ (sr.map (·.1))[s9]? = some w) (hl : (aput sr w y).length ≤ 20) (hw1 : 1 ≤ w.length) (hw : w.length ≤ 100) (hy : y.length ≤ 100) (hf : f2 s9 = nI w.length) (hf2 : ∀ i, i < 20 → i ≠ s9 → f2 i = f i) (hg : g2 s9 = nI y.length) (hg2 : ∀ i, i < 20 → i ≠ s9 → g2 i = g i) (hkk : ∀ (j : Nat) (v : Int32), w[j]? = some v → k2 (100 * s9 + j) = v) (hk2 : ∀ j, j < 2000 → (j < 100 * s9 ∨ 100 * s9 + 100 ≤ j) → k2 j = k j) (htt : ∀ (j : Nat) (v : Int32), y[j]? = some v → t2 (100 * s9 + j) = v) (ht2 : ∀ j, j < 2000 → (j < 100 * s9 ∨ 100 * s9 + 100 ≤ j) → t2 j = t j) : MrT (nI (aput sr w y).length) f2 g2 k2 t2 (aput sr w y) := by
  obtain ⟨h0, h1, h2, h3⟩ := h
  have hat := aput_at (v := y) h2 hk
  refine ⟨rfl, hl, aput_keys h2, fun i e he => ?_⟩
  rw [hat i] at he
  by_cases z : i = s9
  · rw [if_pos z] at he
    cases he
    subst z
    exact ⟨⟨hw, hy, hw1⟩, hf, hg, hkk, htt⟩
  · rw [if_neg z] at he
    obtain ⟨⟨a1, a2, a3⟩, b1, b2, b3, b4⟩ := h3 i e he
    have hi : i < 20 := by have := (List.getElem?_eq_some_iff.mp he).1; omega
    refine ⟨⟨a1, a2, a3⟩, (hf2 i hi z).trans b1, (hg2 i hi z).trans b2, fun j v hv => ?_, fun j v hv => ?_⟩
    · have hj := (List.getElem?_eq_some_iff.mp hv).1
      rw [hk2 _ (by omega) (by omega)]
      exact b3 j v hv
    · have hj := (List.getElem?_eq_some_iff.mp hv).1
      rw [ht2 _ (by omega) (by omega)]
      exact b4 j v hv
theorem mrtSame {n : Int32} {f g k t f2 k2 : Nat → Int32} {sr : List Sr} (h : MrT n f g k t sr) (hf : ∀ i, i < 20 → f2 i = f i) (hk : ∀ j, j < 2000 → k2 j = k j) : MrT n f2 g k2 t sr := by
  obtain ⟨h0, h1, h2, h3⟩ := h
  refine ⟨h0, h1, h2, fun i e he => ?_⟩
  obtain ⟨⟨a1, a2, a3⟩, b1, b2, b3, b4⟩ := h3 i e he
  have hi : i < 20 := by have := (List.getElem?_eq_some_iff.mp he).1; omega
  refine ⟨⟨a1, a2, a3⟩, (hf i hi).trans b1, b2, fun j v hv => ?_, b4⟩
  have hj := (List.getElem?_eq_some_iff.mp hv).1
  rw [hk _ (by omega)]
  exact b3 j v hv
set_option maxRecDepth 100000 in
set_option maxHeartbeats 4000000 in
theorem m_string (l : Launch) (G : xG) {h : xh} {o : Nat} {u : List Int32} {km : Nat} {src lat : List Sg} {fo : List Fo} {pa : List Pr} {ze : List Int32} {ra : List Rg} {sr : List Sr} {ch : List (Option Fi)} (hS : Ms G h o (u, km, src, lat, (fo, pa, ze, ra, sr), ch)) : Ct l G yX9_string cX9_string 3 (Option.some Jvm.ClassFile.FieldType.int) { frames := 5, cells := 0, slots := 0, locals := 112 } [.ref o] h (fun r h' => OpM G o h (opString (u, km, src, lat, (fo, pa, ze, ra, sr), ch)) r h') := by
  obtain ⟨I, A, hM, hU, hSr, hFo, hPa, hZe, hRa, hSt, hCh, hOu⟩ := id hS
  dsimp only at hU hSr hFo hPa hZe hRa hSt hCh hOu
  have hf : Mf o h h := Fr.rf
  have hul := hU.2.1
  have hmu := hU.2.2.2.2
  have hsn := hSt.2.1
  have hL1 : (sg2 (u.take km) 0).length ≤ 100 := Nat.le_trans (sg2_len _ _ _ (Nat.le_refl _)) (by simp; omega)
  have hL2 : (sg2 (u.drop km) (nI km)).length ≤ 100 := Nat.le_trans (sg2_len _ _ _ (Nat.le_refl _)) (by simp; omega)
  have hrb : (rowB u km).length = (sg2 (u.take km) 0).length := by unfold rowB; simp
  have hra : (rowA u km).length = (sg2 (u.drop km) (nI km)).length := by unfold rowA; simp
  have hl1 : ¬ km = 0 → 1 ≤ (sg2 (u.take km) 0).length := fun hk0 => by
    cases u with
    | nil => simp at hmu; omega
    | cons c0 t0 => obtain ⟨q0, rfl⟩ : ∃ q0, km = q0 + 1 := ⟨km - 1, by omega⟩; rw [List.take_succ_cons]; exact sg2_pos
  refine Ct.of [some (.ref o), none, none] (by decide +kernel) (Nat.le_of_ble_eq_true rfl) (fun p e s m args below meth c bs C hini => ?_)
  have tail : ∀ (s9 : Nat) (h1 : xh) (f1 : Nat → Int32), ¬ km = 0 → ((s9 = sr.length ∧ rowB u km ∉ sr.map (·.1)) ∨ (sr.map (·.1))[s9]? = some (rowB u km)) → (∀ j : Nat, (j < 2000 ∨ 2000 + 100 ≤ j) → f1 j = A 15 j) → MO G h1 o I (upF (upF A 15 f1) 13 (upd (A 13) 20 (nI (sg2 (u.take km) 0).length))) → Mf o h h1 → X p l e { frames := 5, cells := 0, slots := 0, locals := 112 } s m args below meth c G bs (MQ below (x_Q G bs (fun r h' => OpM G o h (opString (u, km, src, lat, (fo, pa, ze, ra, sr), ch)) r h')) args s 0 0 (fun q => bs ≤ q)) 0 0 60 [some (.ref o), some (.int 20), some (.int (nI s9))] [] h1 := by
    intro s9 h1 f1 hk0 hcd hfo1 hM hf
    have hs9 : s9 ≤ 20 := by
      rcases hcd with z | z
      · omega
      · have := (List.getElem?_eq_some_iff.mp z).1
        simp at this
        omega
    refine x_iload_n C dX9_string_60 (kk := ?_)
    refine x_bipush C dX9_string_61 (v := 20) (kk := ?_)
    refine x_ncmp_ne C s9 20 dX9_string_63 69 (fun hc63 => ?_) (fun hc63 => ?_)
    · refine x_aload_n C dX9_string_69 (kk := ?_)
      refine x_get C fl_X9_49 dX9_string_70 (hh := hM.1) (kk := ?_)
      refine x_iload_n C dX9_string_73 (kk := ?_)
      refine x_aload_n C dX9_string_74 (kk := ?_)
      refine x_iconst C dX9_string_75 (v := 0) (kk := ?_)
      refine x_aload_n C dX9_string_76 (kk := ?_)
      refine x_get C fl_X9_120 dX9_string_77 (hh := hM.1) (kk := ?_)
      refine x_top _ hU.2.2.2.1 ?_
      refine x_aload_n C dX9_string_80 (kk := ?_)
      refine x_get C fl_X9_55 dX9_string_81 (hh := hM.1) (kk := ?_)
      refine x_bipush C dX9_string_84 (v := 100) (kk := ?_)
      refine x_iload_n C dX9_string_86 (kk := ?_)
      refine x_imul C dX9_string_87 ?_
      refine x_top _ (nI_mul 100 s9) ?_
      refine x_callV C ml_X9_signsOf lk_X9_145 (m_signsOf (u := u) (a := 0) (b := km) (k := 15) (q := 100 * s9) l G (by exact hU.2.2.1) hul (Nat.zero_le _) hmu (by decide) (by decide) rfl (by omega) hM) dX9_string_88 (fun r88 h88 hp88 => ?_) (hh := hM.1)
      have hs20 : s9 < 20 := by omega
      obtain ⟨f2, rfl, hM, hfo2, hfa2, hq2⟩ := hp88
      have hf := hf.tr hq2
      rw [List.drop_zero] at hfa2 ⊢
      refine x_mst C 13 (s9) hM hf dX9_string_91 rfl (n := 21) (by omega) (kk := fun h hM hf => ?_)
      refine x_aload_n C dX9_string_92 (kk := ?_)
      refine x_get C fl_X9_52 dX9_string_93 (hh := hM.1) (kk := ?_)
      refine x_iload_n C dX9_string_96 (kk := ?_)
      refine x_aload_n C dX9_string_97 (kk := ?_)
      refine x_aload_n C dX9_string_98 (kk := ?_)
      refine x_get C fl_X9_120 dX9_string_99 (hh := hM.1) (kk := ?_)
      refine x_top _ hU.2.2.2.1 ?_
      refine x_aload_n C dX9_string_102 (kk := ?_)
      refine x_get C fl_X9_106 dX9_string_103 (hh := hM.1) (kk := ?_)
      refine x_top _ hU.1 ?_
      refine x_aload_n C dX9_string_106 (kk := ?_)
      refine x_get C fl_X9_58 dX9_string_107 (hh := hM.1) (kk := ?_)
      refine x_bipush C dX9_string_110 (v := 100) (kk := ?_)
      refine x_iload_n C dX9_string_112 (kk := ?_)
      refine x_imul C dX9_string_113 ?_
      refine x_top _ (nI_mul 100 s9) ?_
      refine x_callV C ml_X9_signsOf lk_X9_145 (m_signsOf (u := u) (a := km) (b := u.length) (k := 16) (q := 100 * s9) l G (by exact hU.2.2.1) hul hmu (Nat.le_refl _) (by decide) (by decide) rfl (by omega) hM) dX9_string_114 (fun r114 h114 hp114 => ?_) (hh := hM.1)
      obtain ⟨f3, rfl, hM, hfo3, hfa3, hq3⟩ := hp114
      have hf := hf.tr hq3
      rw [List.take_length] at hfa3 ⊢
      refine x_mst C 14 (s9) hM hf dX9_string_117 rfl (n := 21) (by omega) (kk := fun h hM hf => ?_)
      refine x_aload_n C dX9_string_118 (kk := ?_)
      refine x_dup C dX9_string_119 (kk := ?_)
      refine x_get C fl_X9_149 dX9_string_120 (hh := hM.1) (kk := ?_)
      refine x_top _ hSt.1 ?_
      refine x_iload_n C dX9_string_123 (kk := ?_)
      refine x_aload_n C dX9_string_124 (kk := ?_)
      refine x_get C fl_X9_149 dX9_string_125 (hh := hM.1) (kk := ?_)
      refine x_top _ hSt.1 ?_
      refine x_ncmp_ne C s9 sr.length dX9_string_128 135 (fun hc128 => ?_) (fun hc128 => ?_)
      · refine x_iconst C dX9_string_135 (v := 0) (kk := ?_)
        have hin3 : (sr.map (·.1))[s9]? = some (rowB u km) := hcd.elim (fun z => absurd z.1 hc128) id
        have hale : (aput sr (rowB u km) (rowA u km)).length = sr.length := aput_len hSt.2.2.1 hin3
        have hin : rowB u km ∈ sr.map (·.1) ∨ sr.length < 20 := Or.inl (List.mem_of_getElem? hin3)
        refine x_iadd C dX9_string_136 ?_
        refine x_top _ (show _ = nI (aput sr (rowB u km) (rowA u km)).length from by rw [hale]; exact nI_add sr.length 0) ?_
        refine x_mpi C 7 hM hf fp_X9_149 dX9_string_137 (kk := fun h hM hf => ?_)
        refine x_aload_n C dX9_string_140 (kk := ?_)
        refine x_callV C ml_X9_emptyDraft lk_X9_142 (m_emptyDraft l G hM) dX9_string_141 (fun r141 h141 hp141 => ?_) (hh := hM.1)
        obtain ⟨rfl, hM, hf2⟩ := hp141
        have hf := hf.tr hf2
        refine x_aload_n C dX9_string_144 (kk := ?_)
        refine x_get C fl_X9_149 dX9_string_145 (hh := hM.1) (kk := ?_)
        refine x_iret C rfl dX9_string_148 (hp := ?_)
        exact ⟨by simp only [opString, if_neg hk0, if_pos hin]; rfl, by simp only [opString, if_neg hk0, if_pos hin]; exact ⟨_, _, hM, ⟨rfl, Nat.zero_le _, fL_nil _, rfl, Nat.le_refl _⟩, hSr, hFo, hPa, hZe, hRa, mrtPut hSt hcd (by omega) (by rw [hrb]; exact hl1 hk0) (by omega) (by omega) (by rw [hrb]; exact pk_us) (fun i h1 h2 => (pk_un h2).trans (pk_un (by omega))) (by rw [hra]; exact pk_us) (fun i h1 h2 => pk_un h2) (rowMap hfa2) (fun j h1 h2 => (hfo2 j h2).trans (hfo1 j (Or.inl h1))) (rowMap hfa3) (fun j h1 h2 => hfo3 j h2), hCh, hOu⟩, hf⟩
      · refine x_iconst C dX9_string_131 (v := 1) (kk := ?_)
        refine x_goto C dX9_string_132 136 ?_
        have hni : rowB u km ∉ sr.map (·.1) := hcd.elim (fun z => z.2) (fun z => by have := (List.getElem?_eq_some_iff.mp z).1; simp at this; omega)
        have hale : (aput sr (rowB u km) (rowA u km)).length = sr.length + 1 := by rw [aput_new hni]; simp
        have hin : rowB u km ∈ sr.map (·.1) ∨ sr.length < 20 := Or.inr (by omega)
        refine x_iadd C dX9_string_136 ?_
        refine x_top _ (show _ = nI (aput sr (rowB u km) (rowA u km)).length from by rw [hale]; exact nI_add sr.length 1) ?_
        refine x_mpi C 7 hM hf fp_X9_149 dX9_string_137 (kk := fun h hM hf => ?_)
        refine x_aload_n C dX9_string_140 (kk := ?_)
        refine x_callV C ml_X9_emptyDraft lk_X9_142 (m_emptyDraft l G hM) dX9_string_141 (fun r141 h141 hp141 => ?_) (hh := hM.1)
        obtain ⟨rfl, hM, hf2⟩ := hp141
        have hf := hf.tr hf2
        refine x_aload_n C dX9_string_144 (kk := ?_)
        refine x_get C fl_X9_149 dX9_string_145 (hh := hM.1) (kk := ?_)
        refine x_iret C rfl dX9_string_148 (hp := ?_)
        exact ⟨by simp only [opString, if_neg hk0, if_pos hin]; rfl, by simp only [opString, if_neg hk0, if_pos hin]; exact ⟨_, _, hM, ⟨rfl, Nat.zero_le _, fL_nil _, rfl, Nat.le_refl _⟩, hSr, hFo, hPa, hZe, hRa, mrtPut hSt hcd (by omega) (by rw [hrb]; exact hl1 hk0) (by omega) (by omega) (by rw [hrb]; exact pk_us) (fun i h1 h2 => (pk_un h2).trans (pk_un (by omega))) (by rw [hra]; exact pk_us) (fun i h1 h2 => pk_un h2) (rowMap hfa2) (fun j h1 h2 => (hfo2 j h2).trans (hfo1 j (Or.inl h1))) (rowMap hfa3) (fun j h1 h2 => hfo3 j h2), hCh, hOu⟩, hf⟩
    · refine x_bipush C dX9_string_66 (v := -2) (kk := ?_)
      refine x_iret C rfl dX9_string_68 (hp := ?_)
      have hng : ¬ (rowB u km ∈ sr.map (·.1) ∨ sr.length < 20) := fun z => by
        rcases hcd with ⟨c1, c2⟩ | c3
        · exact z.elim c2 (fun z => by omega)
        · have := (List.getElem?_eq_some_iff.mp c3).1
          simp at this
          omega
      exact ⟨by simp only [opString, if_neg hk0, if_neg hng], by simp only [opString, if_neg hk0, if_neg hng]; exact ⟨_, _, hM, hU, hSr, hFo, hPa, hZe, hRa, mrtSame hSt (fun i hi => pk_un (by omega)) (fun j hj => hfo1 j (by omega)), hCh, hOu⟩, hf⟩
  have lp : ∀ (f1 : Nat → Int32) (h1 : xh), ¬ km = 0 → (∀ j : Nat, (j < 2000 ∨ 2000 + 100 ≤ j) → f1 j = A 15 j) → (∀ (j : Nat) (x : Sg), (sg2 (u.take km) 0)[j]? = some x → f1 (2000 + j) = x.1) → MO G h1 o I (upF (upF A 15 f1) 13 (upd (A 13) 20 (nI (sg2 (u.take km) 0).length))) → Mf o h h1 → ∀ (n s9 : Nat), sr.length - s9 < n → s9 ≤ sr.length → rowB u km ∉ (sr.map (·.1)).take s9 → X p l e { frames := 5, cells := 0, slots := 0, locals := 112 } s m args below meth c G bs (MQ below (x_Q G bs (fun r h' => OpM G o h (opString (u, km, src, lat, (fo, pa, ze, ra, sr), ch)) r h')) args s 0 0 (fun q => bs ≤ q)) 0 0 37 [some (.ref o), some (.int 20), some (.int (nI s9))] [] h1 := by
    intro f1 h1 hk0 hfo1 hfa1 hM hf n
    induction n with
    | zero => intro s9 hn; omega
    | succ n ih =>
      intro s9 hn hs hni
      refine x_iload_n C dX9_string_37 (kk := ?_)
      refine x_aload_n C dX9_string_38 (kk := ?_)
      refine x_get C fl_X9_149 dX9_string_39 (hh := hM.1) (kk := ?_)
      refine x_top _ hSt.1 ?_
      refine x_ncmp_ge C s9 sr.length dX9_string_42 60 (fun hc42 => ?_) (fun hc42 => ?_)
      · exact tail s9 _ f1 hk0 (Or.inl ⟨by omega, by rw [List.take_of_length_le (by simpa using hc42)] at hni; exact hni⟩) hfo1 hM hf
      obtain ⟨wq, hwq⟩ : ∃ wq, sr[s9]? = some wq := ⟨sr[s9], List.getElem?_eq_getElem hc42⟩
      obtain ⟨⟨a1, a2, a3⟩, b1, b2, b3, b4⟩ := hSt.2.2.2 s9 wq hwq
      have hkq : (sr.map (·.1))[s9]? = some wq.1 := by rw [List.getElem?_map, hwq]; rfl
      refine x_aload_n C dX9_string_45 (kk := ?_)
      refine x_iload_n C dX9_string_46 (kk := ?_)
      refine x_iload_n C dX9_string_47 (kk := ?_)
      refine x_callV C ml_X9_isSameRow lk_X9_152 (m_isSameRow (s9 := s9) (t9 := 20) (w := wq.1) (y := rowB u km) l G (by omega) (by omega) a1 (by omega) ((pk_un (by omega)).trans b1) (by rw [hrb]; show upd (A 13) 20 (nI (sg2 (u.take km) 0).length) 20 = _; exact pk_us) (fun j v hv => (hfo1 _ (by have := (List.getElem?_eq_some_iff.mp hv).1; omega)).trans (b3 j v hv)) (rowMap hfa1) hM) dX9_string_48 (fun r48 h48 hp48 => ?_) (hh := hM.1)
      obtain ⟨rfl, hz⟩ := hp48
      subst hz
      refine x_ifB_ne C dX9_string_51 60 (fun hc51 => ?_) (fun hc51 => ?_)
      · exact tail s9 _ f1 hk0 (Or.inr (by rw [hkq, hc51])) hfo1 hM hf
      · refine x_iinc1 C dX9_string_54 (kk := ?_)
        refine x_goto C dX9_string_57 37 ?_
        exact ih (s9 + 1) (by omega) (by omega) (by rw [take_at hkq]; intro z; rcases List.mem_append.mp z with z | z; exact hni z; rw [List.mem_singleton] at z; exact hc51 z.symm)
  refine x_aload_n C dX9_string_0 (kk := ?_)
  refine x_get C fl_X9_120 dX9_string_1 (hh := hM.1) (kk := ?_)
  refine x_top _ hU.2.2.2.1 ?_
  refine x_if_ne C dX9_string_4 9 (fun hc4 => ?_) (fun hc4 => ?_)
  rotate_left
  · have hk0 : km = 0 := (nI_eq (a := km) (b := 0) (by omega) (by omega)).mp hc4
    refine x_iconst C dX9_string_7 (v := -1) (kk := ?_)
    refine x_iret C rfl dX9_string_8 (hp := ?_)
    exact ⟨by simp only [opString, if_pos hk0], by simp only [opString, if_pos hk0]; exact hS, hf⟩
  have hk0 : ¬ km = 0 := fun z => hc4 (by rw [z]; rfl)
  refine x_bipush C dX9_string_9 (v := 20) (kk := ?_)
  refine x_istore_n C dX9_string_11 (kk := ?_)
  refine x_aload_n C dX9_string_12 (kk := ?_)
  refine x_get C fl_X9_49 dX9_string_13 (hh := hM.1) (kk := ?_)
  refine x_iload_n C dX9_string_16 (kk := ?_)
  refine x_aload_n C dX9_string_17 (kk := ?_)
  refine x_iconst C dX9_string_18 (v := 0) (kk := ?_)
  refine x_aload_n C dX9_string_19 (kk := ?_)
  refine x_get C fl_X9_120 dX9_string_20 (hh := hM.1) (kk := ?_)
  refine x_top _ hU.2.2.2.1 ?_
  refine x_aload_n C dX9_string_23 (kk := ?_)
  refine x_get C fl_X9_55 dX9_string_24 (hh := hM.1) (kk := ?_)
  refine x_bipush C dX9_string_27 (v := 100) (kk := ?_)
  refine x_iload_n C dX9_string_29 (kk := ?_)
  refine x_imul C dX9_string_30 ?_
  refine x_top _ (nI_mul 100 20) ?_
  refine x_callV C ml_X9_signsOf lk_X9_145 (m_signsOf (u := u) (a := 0) (b := km) (k := 15) (q := 2000) l G (by exact hU.2.2.1) hul (Nat.zero_le _) hmu (by decide) (by decide) rfl (by omega) hM) dX9_string_31 (fun r31 h31 hp31 => ?_) (hh := hM.1)
  obtain ⟨f1, rfl, hM, hfo1, hfa1, hq1⟩ := hp31
  have hf := hf.tr hq1
  rw [List.drop_zero] at hfa1 ⊢
  refine x_mst C 13 (20) hM hf dX9_string_34 rfl (n := 21) (by omega) (kk := fun h hM hf => ?_)
  refine x_iconst C dX9_string_35 (v := 0) (kk := ?_)
  refine x_istore_n C dX9_string_36 (kk := ?_)
  exact lp f1 _ hk0 hfo1 hfa1 hM hf (sr.length + 1) 0 (by omega) (by omega) (by simp)
theorem uV {s : Int32} (h : 65536 ≤ s) : uVal s 0 = 55296 + (s - 65536) / 1024 ∧ ∀ w : Int32, ¬ w = 0 → uVal s w = 56320 + ((s - 65536) - (s - 65536) / 1024 * 1024) := by
  have h0 : ¬ s < 65536 := Int32.not_lt.mpr h
  obtain ⟨q, hq, rfl⟩ := nI_of (x := s) (Int32.not_lt.mpr (Int32.le_trans (by decide) h))
  have hq2 : 65536 ≤ q := (nI_leI (a := 65536) (b := q) (by omega) hq).mp h
  have e : nI q - 65536 = nI (q - 65536) := pk_sub (a := q) (b := 65536) hq2
  have e1 : nI (q - 65536) >>> ((10 : Int32) &&& 31) = nI ((q - 65536) / 2 ^ 10) := pk_shrN (by omega) _ 10 (by decide)
  have e2 : nI (q - 65536) / 1024 = nI ((q - 65536) / 1024) := pk_div (a := q - 65536) (d := 1024) (by omega) (by omega) (by omega)
  have e3 : nI (q - 65536) &&& 1023 = nI ((q - 65536) % 2 ^ 10) := pk_andN (by omega) 10 (by decide)
  have e4 : nI (q - 65536) - nI (q - 65536) / 1024 * 1024 = nI ((q - 65536) % 1024) := pk_rem (a := q - 65536) (d := 1024) (by omega) (by omega) (by omega)
  refine ⟨?_, fun w hw => ?_⟩
  · unfold uVal
    rw [if_neg h0, if_pos rfl, e, e1, e2]
  · unfold uVal
    rw [if_neg h0, if_neg hw, e, e3, e4]
set_option maxRecDepth 100000 in
set_option maxHeartbeats 4000000 in
theorem m_unitAt (l : Launch) (G : xG) {h : xh} {o : Nat} {u : List Int32} {km : Nat} {src lat : List Sg} {fo : List Fo} {pa : List Pr} {ze : List Int32} {ra : List Rg} {sr : List Sr} {ch : List (Option Fi)} (i : Int32) (hS : Ms G h o (u, km, src, lat, (fo, pa, ze, ra, sr), ch)) : Ct l G yX9_unitAt cX9_unitAt 6 (Option.some Jvm.ClassFile.FieldType.int) { frames := 1, cells := 0, slots := 0, locals := 20 } [.ref o, .int i] h (fun r h' => OpM G o h (opUnitAt (u, km, src, lat, (fo, pa, ze, ra, sr), ch) i, (u, km, src, lat, (fo, pa, ze, ra, sr), ch)) r h') := by
  obtain ⟨I, A, hM, hU, hSr, hFo, hPa, hZe, hRa, hSt, hCh, hOu⟩ := id hS
  dsimp only at hU hSr hFo hPa hZe hRa hSt hCh hOu
  have hf : Mf o h h := Fr.rf
  have hll := hOu.2.1
  refine Ct.of [some (.ref o), some (.int i), none, none, none, none] (by decide +kernel) (Nat.le_of_ble_eq_true rfl) (fun p e s m args below meth c bs C hini => ?_)
  have loop : ∀ (n k j : Nat) (x4 x5 : Option Value), lat.length - k < n → k ≤ lat.length → j < 2 ^ 31 → 0 ≤ i → opUnitAt (u, km, src, lat, (fo, pa, ze, ra, sr), ch) i = uAt (lat.drop k) (nI j) → X p l e { frames := 1, cells := 0, slots := 0, locals := 20 } s m args below meth c G bs (MQ below (x_Q G bs (fun r h' => OpM G o h (opUnitAt (u, km, src, lat, (fo, pa, ze, ra, sr), ch) i, (u, km, src, lat, (fo, pa, ze, ra, sr), ch)) r h')) args s 0 0 (fun q => bs ≤ q)) 0 0 4 [some (.ref o), some (.int i), some (.int (nI j)), some (.int (nI k)), x4, x5] [] h := by
    intro n
    induction n with
    | zero => intro k j x4 x5 hn; omega
    | succ n ih =>
      intro k j x4 x5 hn hk hj hi0 hs
      refine x_iload_n C dX9_unitAt_4 (kk := ?_)
      refine x_aload_n C dX9_unitAt_5 (kk := ?_)
      refine x_get C fl_X9_226 dX9_unitAt_6 (hh := hM.1) (kk := ?_)
      refine x_top _ hOu.1 ?_
      refine x_ncmp_ge C k lat.length dX9_unitAt_9 96 (fun hc9 => ?_) (fun hc9 => ?_)
      · refine x_bipush C dX9_unitAt_96 (v := -13) (kk := ?_)
        refine x_iret C rfl dX9_unitAt_98 (hp := ?_)
        exact ⟨by rw [hs, List.drop_eq_nil_of_le hc9]; rfl, hS, hf⟩
      obtain ⟨v, hv⟩ : ∃ v, lat[k]? = some v := ⟨lat[k], List.getElem?_eq_getElem hc9⟩
      have hfv := fL_at hOu.2.2.1 hv
      rw [drop_at hv] at hs
      have hs1 : opUnitAt (u, km, src, lat, (fo, pa, ze, ra, sr), ch) i = if nI j < uOf v.1 then uVal v.1 (nI j) else uAt (lat.drop (k + 1)) (nI j - uOf v.1) := hs
      refine x_iload_n C dX9_unitAt_12 (kk := ?_)
      refine x_if_lt C dX9_unitAt_13 96 (fun hc13 => ?_) (fun hc13 => ?_)
      · exact absurd hi0 (Int32.not_le.mpr hc13)
      · refine x_aload_n C dX9_unitAt_16 (kk := ?_)
        refine x_get C fl_X9_79 dX9_unitAt_17 (hh := hM.1) (kk := ?_)
        refine x_iload_n C dX9_unitAt_20 (kk := ?_)
        refine x_mld C 23 k hM dX9_unitAt_21 rfl (n := 300) (by omega) (kk := ?_)
        rw [hfv]
        refine x_callS C ml_X9_unitsOf lk_X9_191 (m_unitsOf l G v.1) dX9_unitAt_22 (fun r22 h22 hp22 => ?_)
        obtain ⟨rfl, hz⟩ := hp22
        subst hz
        by_cases h2 : 65536 ≤ v.1
        · have hue : uOf v.1 = nI 2 := if_pos h2
          rw [hue] at hs1 ⊢
          refine x_istore C dX9_unitAt_25 (kk := ?_)
          refine x_iload_n C dX9_unitAt_27 (kk := ?_)
          refine x_iload C dX9_unitAt_28 (kk := ?_)
          refine x_ncmp_ge C j 2 dX9_unitAt_30 85 (fun hc30 => ?_) (fun hc30 => ?_)
          · rw [if_neg (nI_nlt (by omega) (by omega)), pk_sub hc30] at hs1
            refine x_iload_n C dX9_unitAt_85 (kk := ?_)
            refine x_iload C dX9_unitAt_86 (kk := ?_)
            refine x_isub C dX9_unitAt_88 ?_
            refine x_top _ (pk_sub hc30) ?_
            refine x_istore_n C dX9_unitAt_89 (kk := ?_)
            refine x_iinc1 C dX9_unitAt_90 (kk := ?_)
            refine x_goto C dX9_unitAt_93 4 ?_
            exact ih (k + 1) _ _ _ (by omega) (by omega) (by omega) hi0 hs1
          rw [if_pos (nI_lt (by omega) (by omega))] at hs1
          refine x_aload_n C dX9_unitAt_33 (kk := ?_)
          refine x_get C fl_X9_79 dX9_unitAt_34 (hh := hM.1) (kk := ?_)
          refine x_iload_n C dX9_unitAt_37 (kk := ?_)
          refine x_mld C 23 k hM dX9_unitAt_38 rfl (n := 300) (by omega) (kk := ?_)
          rw [hfv]
          refine x_ldc C tw_616 dX9_unitAt_39 ?_
          refine x_isub C dX9_unitAt_41 ?_
          refine x_istore C dX9_unitAt_42 (kk := ?_)
          refine x_iload C dX9_unitAt_44 (kk := ?_)
          refine x_iconst C dX9_unitAt_46 (v := 1) (kk := ?_)
          refine x_icmp_ne C dX9_unitAt_47 59 (fun _ => ?_) (fun z => absurd z (by decide))
          refine x_iload_n C dX9_unitAt_59 (kk := ?_)
          refine x_if_ne C dX9_unitAt_60 75 (fun hc60 => ?_) (fun hc60 => ?_)
          · refine x_ldc C tw_614 dX9_unitAt_75 ?_
            refine x_iload C dX9_unitAt_77 (kk := ?_)
            refine x_sipush C dX9_unitAt_79 (v := 1024) (kk := ?_)
            refine x_irem C dX9_unitAt_82 (kk := ?_)
            refine x_iadd C dX9_unitAt_83 ?_
            refine x_iret C rfl dX9_unitAt_84 (hp := ?_)
            exact ⟨by rw [hs1, (uV h2).2 _ hc60], hS, hf⟩
          · refine x_ldc C tw_606 dX9_unitAt_63 ?_
            refine x_iload C dX9_unitAt_65 (kk := ?_)
            refine x_sipush C dX9_unitAt_67 (v := 1024) (kk := ?_)
            refine x_idiv C dX9_unitAt_70 (kk := ?_)
            refine x_iadd C dX9_unitAt_71 ?_
            refine x_goto C dX9_unitAt_72 84 ?_
            refine x_iret C rfl dX9_unitAt_84 (hp := ?_)
            exact ⟨by rw [hs1, hc60, (uV h2).1], hS, hf⟩
        have hue : uOf v.1 = nI 1 := if_neg h2
        rw [hue] at hs1 ⊢
        refine x_istore C dX9_unitAt_25 (kk := ?_)
        refine x_iload_n C dX9_unitAt_27 (kk := ?_)
        refine x_iload C dX9_unitAt_28 (kk := ?_)
        refine x_ncmp_ge C j 1 dX9_unitAt_30 85 (fun hc30 => ?_) (fun hc30 => ?_)
        · rw [if_neg (nI_nlt (by omega) (by omega)), pk_sub hc30] at hs1
          refine x_iload_n C dX9_unitAt_85 (kk := ?_)
          refine x_iload C dX9_unitAt_86 (kk := ?_)
          refine x_isub C dX9_unitAt_88 ?_
          refine x_top _ (pk_sub hc30) ?_
          refine x_istore_n C dX9_unitAt_89 (kk := ?_)
          refine x_iinc1 C dX9_unitAt_90 (kk := ?_)
          refine x_goto C dX9_unitAt_93 4 ?_
          exact ih (k + 1) _ _ _ (by omega) (by omega) (by omega) hi0 hs1
        rw [if_pos (nI_lt (by omega) (by omega))] at hs1
        refine x_aload_n C dX9_unitAt_33 (kk := ?_)
        refine x_get C fl_X9_79 dX9_unitAt_34 (hh := hM.1) (kk := ?_)
        refine x_iload_n C dX9_unitAt_37 (kk := ?_)
        refine x_mld C 23 k hM dX9_unitAt_38 rfl (n := 300) (by omega) (kk := ?_)
        rw [hfv]
        refine x_ldc C tw_616 dX9_unitAt_39 ?_
        refine x_isub C dX9_unitAt_41 ?_
        refine x_istore C dX9_unitAt_42 (kk := ?_)
        refine x_iload C dX9_unitAt_44 (kk := ?_)
        refine x_iconst C dX9_unitAt_46 (v := 1) (kk := ?_)
        refine x_icmp_ne C dX9_unitAt_47 59 (fun z => absurd rfl z) (fun _ => ?_)
        refine x_aload_n C dX9_unitAt_50 (kk := ?_)
        refine x_get C fl_X9_79 dX9_unitAt_51 (hh := hM.1) (kk := ?_)
        refine x_iload_n C dX9_unitAt_54 (kk := ?_)
        refine x_mld C 23 k hM dX9_unitAt_55 rfl (n := 300) (by omega) (kk := ?_)
        rw [hfv]
        refine x_goto C dX9_unitAt_56 84 ?_
        refine x_iret C rfl dX9_unitAt_84 (hp := ?_)
        exact ⟨by rw [hs1]; unfold uVal; rw [if_pos (Int32.not_le.mp h2)], hS, hf⟩
  refine x_iload_n C dX9_unitAt_0 (kk := ?_)
  refine x_istore_n C dX9_unitAt_1 (kk := ?_)
  refine x_iconst C dX9_unitAt_2 (v := 0) (kk := ?_)
  refine x_istore_n C dX9_unitAt_3 (kk := ?_)
  by_cases hc1 : 0 ≤ i
  · obtain ⟨j, hj, rfl⟩ := nI_of (Int32.not_lt.mpr hc1)
    exact loop (lat.length + 1) 0 j _ _ (by omega) (by omega) hj hc1 (by simp only [opUnitAt, if_pos hc1]; rfl)
  refine x_iload_n C dX9_unitAt_4 (kk := ?_)
  refine x_aload_n C dX9_unitAt_5 (kk := ?_)
  refine x_get C fl_X9_226 dX9_unitAt_6 (hh := hM.1) (kk := ?_)
  refine x_icmp_ge C dX9_unitAt_9 96 (fun hc9 => ?_) (fun hc9 => ?_)
  · refine x_bipush C dX9_unitAt_96 (v := -13) (kk := ?_)
    refine x_iret C rfl dX9_unitAt_98 (hp := ?_)
    exact ⟨by simp only [opUnitAt, if_neg hc1], hS, hf⟩
  · refine x_iload_n C dX9_unitAt_12 (kk := ?_)
    refine x_if_lt C dX9_unitAt_13 96 (fun hc13 => ?_) (fun hc13 => ?_)
    · refine x_bipush C dX9_unitAt_96 (v := -13) (kk := ?_)
      refine x_iret C rfl dX9_unitAt_98 (hp := ?_)
      exact ⟨by simp only [opUnitAt, if_neg hc1], hS, hf⟩
    · exact absurd (Int32.not_lt.mp hc13) hc1
