/-! THE REFERENCE, IV: folds, pairs, rows of the draft -/
theorem upF_at {A : Nat → Nat → Int32} {k : Nat} {f : Nat → Int32} : upF A k f k = f := if_pos rfl
theorem upF_upF {A : Nat → Nat → Int32} {k : Nat} {f g : Nat → Int32} : upF (upF A k f) k g = upF A k g := by
  funext j
  by_cases h : j = k
  · simp only [upF, if_pos h]
  · simp only [upF, if_neg h]
theorem upF_0 {A : Nat → Nat → Int32} {k : Nat} {f : Nat → Int32} (h : k ≠ 0) : upF A k f 0 = A 0 := if_neg (Ne.symm h)
theorem upF_id {A : Nat → Nat → Int32} {k : Nat} : upF A k (A k) = A := by
  funext j
  by_cases h : j = k
  · subst h; exact if_pos rfl
  · simp only [upF, if_neg h]
theorem upd_id {I : Nat → Int32} {k : Nat} {v : Int32} (h : I k = v) : upd I k v = I := by
  funext j
  by_cases z : j = k
  · simp only [upd, if_pos z]; rw [z, h]
  · simp only [upd, if_neg z]
theorem nI_mul (a b : Nat) : nI a * nI b = nI (a * b) := (Int32.ofNat_mul a b).symm
theorem aput_at {κ ν : Type} [BEq κ] [LawfulBEq κ] {q : List (κ × ν)} {x : κ} {v : ν} {k : Nat} (hn : (q.map (·.1)).Nodup) (h : (k = q.length ∧ x ∉ q.map (·.1)) ∨ (q.map (·.1))[k]? = some x) (i : Nat) : (aput q x v)[i]? = if i = k then some (x, v) else q[i]? := by
  rcases h with ⟨rfl, h⟩ | h
  · rw [aput_new h]
    by_cases e : i = q.length
    · subst e; simp
    · rw [if_neg e]
      by_cases e2 : i < q.length
      · rw [List.getElem?_append_left e2]
      · rw [List.getElem?_eq_none (by simp; omega), List.getElem?_eq_none (by omega)]
  · have hk : k < q.length := by simpa using (List.getElem?_eq_some_iff.mp h).1
    rw [aput_old hn h]
    by_cases e : i = k
    · subst e; rw [List.getElem?_set_self hk, if_pos rfl]
    · rw [List.getElem?_set_ne (Ne.symm e), if_neg e]
theorem fL_pt {α : Type} {f : Nat → Int32} {q q' : List α} {π : α → Int32} {k : Nat} {y : α} {w : Int32} (h : ∀ i, q'[i]? = if i = k then some y else q[i]?) (hf : fL f (q.map π)) (hw : w = π y) : fL (upd f k w) (q'.map π) := by
  intro j v hv
  rw [List.getElem?_map, h j] at hv
  by_cases e : j = k
  · rw [if_pos e] at hv
    simp only [upd, if_pos e]
    rw [hw]
    simpa using hv
  · rw [if_neg e] at hv
    simp only [upd, if_neg e]
    exact hf j v (by rw [List.getElem?_map]; exact hv)
theorem aput_len {κ ν : Type} [BEq κ] [LawfulBEq κ] {q : List (κ × ν)} {x : κ} {v : ν} {k : Nat} (hn : (q.map (·.1)).Nodup) (h : (q.map (·.1))[k]? = some x) : (aput q x v).length = q.length := by rw [aput_old hn h]; simp
theorem fp_sz {a b c : Int32} (h : ((a = -1 ∨ 0 ≤ a ∧ a ≤ 1114111) ∧ (b = -1 ∨ 0 ≤ b ∧ b ≤ 1114111) ∧ (c = -1 ∨ 0 ≤ c ∧ c ≤ 1114111)) ∧ ¬ (a = -1 ∧ ¬ b = -1) ∧ ¬ (b = -1 ∧ ¬ c = -1)) : (if 0 ≤ a then (1 : Int32) else 0) + (if 0 ≤ b then 1 else 0) + (if 0 ≤ c then 1 else 0) = nI (fparts a b c).length := by
  obtain ⟨⟨ha, hb, hc⟩, h1, h2⟩ := h
  have key : ∀ x : Int32, (x = -1 ∨ 0 ≤ x ∧ x ≤ 1114111) → ((0 ≤ x) ↔ ¬ x = -1) := by
    intro x hx
    constructor
    · intro h z; rw [z] at h; exact absurd h (by decide)
    · intro h; exact (hx.resolve_left h).1
  simp only [key a ha, key b hb, key c hc]
  unfold fparts
  by_cases e1 : a = -1
  · have e2 : b = -1 := Classical.byContradiction fun z => h1 ⟨e1, z⟩
    have e3 : c = -1 := Classical.byContradiction fun z => h2 ⟨e2, z⟩
    simp [e1, e2, e3]; decide
  · by_cases e2 : b = -1
    · have e3 : c = -1 := Classical.byContradiction fun z => h2 ⟨e2, z⟩
      simp [e1, e2, e3]; decide
    · by_cases e3 : c = -1
      · simp [e1, e2, e3]; decide
      · simp [e1, e2, e3]; decide
theorem mrfPut {n : Int32} {f g w : Nat → Int32} {fo : List Fo} {v a b d sz : Int32} {k : Nat} (h : MrF n f g w fo) (hcd : ((a = -1 ∨ 0 ≤ a ∧ a ≤ 1114111) ∧ (b = -1 ∨ 0 ≤ b ∧ b ≤ 1114111) ∧ (d = -1 ∨ 0 ≤ d ∧ d ≤ 1114111)) ∧ ¬ (a = -1 ∧ ¬ b = -1) ∧ ¬ (b = -1 ∧ ¬ d = -1)) (hk : (k = fo.length ∧ v ∉ fo.map (·.1)) ∨ (fo.map (·.1))[k]? = some v) (hl : (aput fo v (fparts a b d)).length ≤ 40) (hsz : sz = nI (fparts a b d).length) : MrF (nI (aput fo v (fparts a b d)).length) (upd f k v) (upd g k sz) (upd (upd (upd w (3 * k) a) (3 * k + 1) b) (3 * k + 2) d) (aput fo v (fparts a b d)) := by
  obtain ⟨h0, h1, h2, h3, h4, h5, h6⟩ := h
  obtain ⟨p1, p2, p3, hwf⟩ := fp_get hcd
  have hat := aput_at (v := fparts a b d) h2 hk
  refine ⟨rfl, hl, aput_keys h2, fun e he => ?_, fL_pt hat h4 rfl, fL_pt hat h5 hsz, fun i e he j hj => ?_⟩
  · obtain ⟨i, hi⟩ := List.getElem?_of_mem he
    rw [hat i] at hi
    by_cases z : i = k
    · rw [if_pos z] at hi; cases hi; exact hwf
    · rw [if_neg z] at hi; exact h3 e (List.mem_of_getElem? hi)
  · rw [hat i] at he
    by_cases z : i = k
    · rw [if_pos z] at he
      cases he
      subst z
      have hj3 : j = 0 ∨ j = 1 ∨ j = 2 := by omega
      rcases hj3 with rfl | rfl | rfl
      · simp only [upd, if_neg (show ¬ 3 * i + 0 = 3 * i + 2 by omega), if_neg (show ¬ 3 * i + 0 = 3 * i + 1 by omega), if_pos (show 3 * i + 0 = 3 * i by omega)]; exact p1.symm
      · simp only [upd, if_neg (show ¬ 3 * i + 1 = 3 * i + 2 by omega), if_true]; exact p2.symm
      · simp only [upd, if_true]; exact p3.symm
    · rw [if_neg z] at he
      simp only [upd, if_neg (show ¬ 3 * i + j = 3 * k + 2 by omega), if_neg (show ¬ 3 * i + j = 3 * k + 1 by omega), if_neg (show ¬ 3 * i + j = 3 * k by omega)]
      exact h6 i e he j hj
theorem mrpPut {n : Int32} {f g w : Nat → Int32} {pa : List Pr} {v a b : Int32} {k : Nat} (h : MrP n f g w pa) (hk : (k = pa.length ∧ (a, b) ∉ pa.map (·.1)) ∨ (pa.map (·.1))[k]? = some (a, b)) (hl : (aput pa (a, b) v).length ≤ 20) : MrP (nI (aput pa (a, b) v).length) (upd f k a) (upd g k b) (upd w k v) (aput pa (a, b) v) := by
  obtain ⟨h0, h1, h2, h4, h5, h6⟩ := h
  have hat := aput_at (v := v) h2 hk
  exact ⟨rfl, hl, aput_keys h2, fL_pt hat h4 rfl, fL_pt hat h5 rfl, fL_pt hat h6 rfl⟩
set_option maxRecDepth 100000 in
set_option maxHeartbeats 4000000 in
theorem m_fold (l : Launch) (G : xG) {h : xh} {o : Nat} {u : List Int32} {km : Nat} {src lat : List Sg} {fo : List Fo} {pa : List Pr} {ze : List Int32} {ra : List Rg} {sr : List Sr} {ch : List (Option Fi)} (v a b d : Int32) (hS : Ms G h o (u, km, src, lat, (fo, pa, ze, ra, sr), ch)) : Ct l G yX9_fold cX9_fold 6 (Option.some Jvm.ClassFile.FieldType.int) { frames := 3, cells := 0, slots := 0, locals := 62 } [.ref o, .int v, .int a, .int b, .int d] h (fun r h' => OpM G o h (opFold (u, km, src, lat, (fo, pa, ze, ra, sr), ch) v a b d) r h') := by
  obtain ⟨I, A, hM, hU, hSr, hFo, hPa, hZe, hRa, hSt, hCh, hOu⟩ := id hS
  dsimp only at hU hSr hFo hPa hZe hRa hSt hCh hOu
  have hf : Mf o h h := Fr.rf
  have hl := hFo.2.1
  refine Ct.of [some (.ref o), some (.int v), some (.int a), some (.int b), some (.int d), none] (by decide +kernel) (Nat.le_of_ble_eq_true rfl) (fun p e s m args below meth c bs C hini => ?_)
  have tail2 : ∀ (k : Nat) (h1 : xh), (0 ≤ v ∧ v ≤ 1114111) ∧ ((a = -1 ∨ 0 ≤ a ∧ a ≤ 1114111) ∧ (b = -1 ∨ 0 ≤ b ∧ b ≤ 1114111) ∧ (d = -1 ∨ 0 ≤ d ∧ d ≤ 1114111)) ∧ ¬ (a = -1 ∧ ¬ b = -1) ∧ ¬ (b = -1 ∧ ¬ d = -1) → ((k = fo.length ∧ v ∉ fo.map (·.1)) ∨ (fo.map (·.1))[k]? = some v) → (v ∈ fo.map (·.1) ∨ fo.length < 40) → k < 40 → (aput fo v (fparts a b d)).length ≤ 40 → MO G h1 o (upd I 3 (nI (aput fo v (fparts a b d)).length)) A → Mf o h h1 → X p l e { frames := 3, cells := 0, slots := 0, locals := 62 } s m args below meth c G bs (MQ below (x_Q G bs (fun r h' => OpM G o h (opFold (u, km, src, lat, (fo, pa, ze, ra, sr), ch) v a b d) r h')) args s 0 0 (fun q => bs ≤ q)) 0 0 97 [some (.ref o), some (.int v), some (.int a), some (.int b), some (.int d), some (.int (nI k))] [] h1 := by
    intro k h1 hcd hk hin hk40 hal hM hf
    have hsz := fp_sz hcd.2
    refine x_aload_n C dX9_fold_97 (kk := ?_)
    refine x_get C fl_X9_22 dX9_fold_98 (hh := hM.1) (kk := ?_)
    refine x_iload C dX9_fold_101 (kk := ?_)
    refine x_iload_n C dX9_fold_103 (kk := ?_)
    refine x_mst C 4 (k) hM hf dX9_fold_104 rfl (n := 40) (by omega) (kk := fun h hM hf => ?_)
    refine x_aload_n C dX9_fold_105 (kk := ?_)
    refine x_get C fl_X9_25 dX9_fold_106 (hh := hM.1) (kk := ?_)
    refine x_iload C dX9_fold_109 (kk := ?_)
    refine x_iload_n C dX9_fold_111 (kk := ?_)
    refine x_if_ge C dX9_fold_112 119 (fun hc112 => ?_) (fun hc112 => ?_)
    · refine x_iconst C dX9_fold_119 (v := 1) (kk := ?_)
      refine x_iload_n C dX9_fold_120 (kk := ?_)
      refine x_if_ge C dX9_fold_121 128 (fun hc121 => ?_) (fun hc121 => ?_)
      · refine x_iconst C dX9_fold_128 (v := 1) (kk := ?_)
        refine x_iadd C dX9_fold_129 ?_
        refine x_iload C dX9_fold_130 (kk := ?_)
        refine x_if_ge C dX9_fold_132 139 (fun hc132 => ?_) (fun hc132 => ?_)
        · refine x_iconst C dX9_fold_139 (v := 1) (kk := ?_)
          refine x_iadd C dX9_fold_140 ?_
          refine x_top _ (by simp only [hc112, hc121, hc132, if_true, if_false] at hsz; exact hsz) ?_
          refine x_mst C 5 (k) hM hf dX9_fold_141 rfl (n := 40) (by omega) (kk := fun h hM hf => ?_)
          refine x_aload_n C dX9_fold_142 (kk := ?_)
          refine x_get C fl_X9_28 dX9_fold_143 (hh := hM.1) (kk := ?_)
          refine x_iconst C dX9_fold_146 (v := 3) (kk := ?_)
          refine x_iload C dX9_fold_147 (kk := ?_)
          refine x_imul C dX9_fold_149 ?_
          refine x_top _ (nI_mul 3 k) ?_
          refine x_iload_n C dX9_fold_150 (kk := ?_)
          refine x_mst C 6 (3 * k) hM hf dX9_fold_151 rfl (n := 120) (by omega) (kk := fun h hM hf => ?_)
          refine x_aload_n C dX9_fold_152 (kk := ?_)
          refine x_get C fl_X9_28 dX9_fold_153 (hh := hM.1) (kk := ?_)
          refine x_iconst C dX9_fold_156 (v := 3) (kk := ?_)
          refine x_iload C dX9_fold_157 (kk := ?_)
          refine x_imul C dX9_fold_159 ?_
          refine x_top _ (nI_mul 3 k) ?_
          refine x_iconst C dX9_fold_160 (v := 1) (kk := ?_)
          refine x_iadd C dX9_fold_161 ?_
          refine x_top _ (nI_add (3 * k) 1) ?_
          refine x_iload_n C dX9_fold_162 (kk := ?_)
          refine x_mst C 6 (3 * k + 1) hM hf dX9_fold_163 rfl (n := 120) (by omega) (kk := fun h hM hf => ?_)
          refine x_aload_n C dX9_fold_164 (kk := ?_)
          refine x_get C fl_X9_28 dX9_fold_165 (hh := hM.1) (kk := ?_)
          refine x_iconst C dX9_fold_168 (v := 3) (kk := ?_)
          refine x_iload C dX9_fold_169 (kk := ?_)
          refine x_imul C dX9_fold_171 ?_
          refine x_top _ (nI_mul 3 k) ?_
          refine x_iconst C dX9_fold_172 (v := 2) (kk := ?_)
          refine x_iadd C dX9_fold_173 ?_
          refine x_top _ (nI_add (3 * k) 2) ?_
          refine x_iload C dX9_fold_174 (kk := ?_)
          refine x_mst C 6 (3 * k + 2) hM hf dX9_fold_176 rfl (n := 120) (by omega) (kk := fun h hM hf => ?_)
          refine x_aload_n C dX9_fold_177 (kk := ?_)
          refine x_get C fl_X9_155 dX9_fold_178 (hh := hM.1) (kk := ?_)
          refine x_iret C rfl dX9_fold_181 (hp := ?_)
          exact ⟨by simp only [opFold, if_pos hcd, if_pos hin]; rfl, by simp only [opFold, if_pos hcd, if_pos hin]; exact ⟨_, _, hM, hU, hSr, mrfPut hFo hcd.2 hk hal rfl, hPa, hZe, hRa, hSt, hCh, hOu⟩, hf⟩
        · refine x_iconst C dX9_fold_135 (v := 0) (kk := ?_)
          refine x_goto C dX9_fold_136 140 ?_
          refine x_iadd C dX9_fold_140 ?_
          refine x_top _ (by simp only [hc112, hc121, hc132, if_true, if_false] at hsz; exact hsz) ?_
          refine x_mst C 5 (k) hM hf dX9_fold_141 rfl (n := 40) (by omega) (kk := fun h hM hf => ?_)
          refine x_aload_n C dX9_fold_142 (kk := ?_)
          refine x_get C fl_X9_28 dX9_fold_143 (hh := hM.1) (kk := ?_)
          refine x_iconst C dX9_fold_146 (v := 3) (kk := ?_)
          refine x_iload C dX9_fold_147 (kk := ?_)
          refine x_imul C dX9_fold_149 ?_
          refine x_top _ (nI_mul 3 k) ?_
          refine x_iload_n C dX9_fold_150 (kk := ?_)
          refine x_mst C 6 (3 * k) hM hf dX9_fold_151 rfl (n := 120) (by omega) (kk := fun h hM hf => ?_)
          refine x_aload_n C dX9_fold_152 (kk := ?_)
          refine x_get C fl_X9_28 dX9_fold_153 (hh := hM.1) (kk := ?_)
          refine x_iconst C dX9_fold_156 (v := 3) (kk := ?_)
          refine x_iload C dX9_fold_157 (kk := ?_)
          refine x_imul C dX9_fold_159 ?_
          refine x_top _ (nI_mul 3 k) ?_
          refine x_iconst C dX9_fold_160 (v := 1) (kk := ?_)
          refine x_iadd C dX9_fold_161 ?_
          refine x_top _ (nI_add (3 * k) 1) ?_
          refine x_iload_n C dX9_fold_162 (kk := ?_)
          refine x_mst C 6 (3 * k + 1) hM hf dX9_fold_163 rfl (n := 120) (by omega) (kk := fun h hM hf => ?_)
          refine x_aload_n C dX9_fold_164 (kk := ?_)
          refine x_get C fl_X9_28 dX9_fold_165 (hh := hM.1) (kk := ?_)
          refine x_iconst C dX9_fold_168 (v := 3) (kk := ?_)
          refine x_iload C dX9_fold_169 (kk := ?_)
          refine x_imul C dX9_fold_171 ?_
          refine x_top _ (nI_mul 3 k) ?_
          refine x_iconst C dX9_fold_172 (v := 2) (kk := ?_)
          refine x_iadd C dX9_fold_173 ?_
          refine x_top _ (nI_add (3 * k) 2) ?_
          refine x_iload C dX9_fold_174 (kk := ?_)
          refine x_mst C 6 (3 * k + 2) hM hf dX9_fold_176 rfl (n := 120) (by omega) (kk := fun h hM hf => ?_)
          refine x_aload_n C dX9_fold_177 (kk := ?_)
          refine x_get C fl_X9_155 dX9_fold_178 (hh := hM.1) (kk := ?_)
          refine x_iret C rfl dX9_fold_181 (hp := ?_)
          exact ⟨by simp only [opFold, if_pos hcd, if_pos hin]; rfl, by simp only [opFold, if_pos hcd, if_pos hin]; exact ⟨_, _, hM, hU, hSr, mrfPut hFo hcd.2 hk hal rfl, hPa, hZe, hRa, hSt, hCh, hOu⟩, hf⟩
      · refine x_iconst C dX9_fold_124 (v := 0) (kk := ?_)
        refine x_goto C dX9_fold_125 129 ?_
        refine x_iadd C dX9_fold_129 ?_
        refine x_iload C dX9_fold_130 (kk := ?_)
        refine x_if_ge C dX9_fold_132 139 (fun hc132 => ?_) (fun hc132 => ?_)
        · refine x_iconst C dX9_fold_139 (v := 1) (kk := ?_)
          refine x_iadd C dX9_fold_140 ?_
          refine x_top _ (by simp only [hc112, hc121, hc132, if_true, if_false] at hsz; exact hsz) ?_
          refine x_mst C 5 (k) hM hf dX9_fold_141 rfl (n := 40) (by omega) (kk := fun h hM hf => ?_)
          refine x_aload_n C dX9_fold_142 (kk := ?_)
          refine x_get C fl_X9_28 dX9_fold_143 (hh := hM.1) (kk := ?_)
          refine x_iconst C dX9_fold_146 (v := 3) (kk := ?_)
          refine x_iload C dX9_fold_147 (kk := ?_)
          refine x_imul C dX9_fold_149 ?_
          refine x_top _ (nI_mul 3 k) ?_
          refine x_iload_n C dX9_fold_150 (kk := ?_)
          refine x_mst C 6 (3 * k) hM hf dX9_fold_151 rfl (n := 120) (by omega) (kk := fun h hM hf => ?_)
          refine x_aload_n C dX9_fold_152 (kk := ?_)
          refine x_get C fl_X9_28 dX9_fold_153 (hh := hM.1) (kk := ?_)
          refine x_iconst C dX9_fold_156 (v := 3) (kk := ?_)
          refine x_iload C dX9_fold_157 (kk := ?_)
          refine x_imul C dX9_fold_159 ?_
          refine x_top _ (nI_mul 3 k) ?_
          refine x_iconst C dX9_fold_160 (v := 1) (kk := ?_)
          refine x_iadd C dX9_fold_161 ?_
          refine x_top _ (nI_add (3 * k) 1) ?_
          refine x_iload_n C dX9_fold_162 (kk := ?_)
          refine x_mst C 6 (3 * k + 1) hM hf dX9_fold_163 rfl (n := 120) (by omega) (kk := fun h hM hf => ?_)
          refine x_aload_n C dX9_fold_164 (kk := ?_)
          refine x_get C fl_X9_28 dX9_fold_165 (hh := hM.1) (kk := ?_)
          refine x_iconst C dX9_fold_168 (v := 3) (kk := ?_)
          refine x_iload C dX9_fold_169 (kk := ?_)
          refine x_imul C dX9_fold_171 ?_
          refine x_top _ (nI_mul 3 k) ?_
          refine x_iconst C dX9_fold_172 (v := 2) (kk := ?_)
          refine x_iadd C dX9_fold_173 ?_
          refine x_top _ (nI_add (3 * k) 2) ?_
          refine x_iload C dX9_fold_174 (kk := ?_)
          refine x_mst C 6 (3 * k + 2) hM hf dX9_fold_176 rfl (n := 120) (by omega) (kk := fun h hM hf => ?_)
          refine x_aload_n C dX9_fold_177 (kk := ?_)
          refine x_get C fl_X9_155 dX9_fold_178 (hh := hM.1) (kk := ?_)
          refine x_iret C rfl dX9_fold_181 (hp := ?_)
          exact ⟨by simp only [opFold, if_pos hcd, if_pos hin]; rfl, by simp only [opFold, if_pos hcd, if_pos hin]; exact ⟨_, _, hM, hU, hSr, mrfPut hFo hcd.2 hk hal rfl, hPa, hZe, hRa, hSt, hCh, hOu⟩, hf⟩
        · refine x_iconst C dX9_fold_135 (v := 0) (kk := ?_)
          refine x_goto C dX9_fold_136 140 ?_
          refine x_iadd C dX9_fold_140 ?_
          refine x_top _ (by simp only [hc112, hc121, hc132, if_true, if_false] at hsz; exact hsz) ?_
          refine x_mst C 5 (k) hM hf dX9_fold_141 rfl (n := 40) (by omega) (kk := fun h hM hf => ?_)
          refine x_aload_n C dX9_fold_142 (kk := ?_)
          refine x_get C fl_X9_28 dX9_fold_143 (hh := hM.1) (kk := ?_)
          refine x_iconst C dX9_fold_146 (v := 3) (kk := ?_)
          refine x_iload C dX9_fold_147 (kk := ?_)
          refine x_imul C dX9_fold_149 ?_
          refine x_top _ (nI_mul 3 k) ?_
          refine x_iload_n C dX9_fold_150 (kk := ?_)
          refine x_mst C 6 (3 * k) hM hf dX9_fold_151 rfl (n := 120) (by omega) (kk := fun h hM hf => ?_)
          refine x_aload_n C dX9_fold_152 (kk := ?_)
          refine x_get C fl_X9_28 dX9_fold_153 (hh := hM.1) (kk := ?_)
          refine x_iconst C dX9_fold_156 (v := 3) (kk := ?_)
          refine x_iload C dX9_fold_157 (kk := ?_)
          refine x_imul C dX9_fold_159 ?_
          refine x_top _ (nI_mul 3 k) ?_
          refine x_iconst C dX9_fold_160 (v := 1) (kk := ?_)
          refine x_iadd C dX9_fold_161 ?_
          refine x_top _ (nI_add (3 * k) 1) ?_
          refine x_iload_n C dX9_fold_162 (kk := ?_)
          refine x_mst C 6 (3 * k + 1) hM hf dX9_fold_163 rfl (n := 120) (by omega) (kk := fun h hM hf => ?_)
          refine x_aload_n C dX9_fold_164 (kk := ?_)
          refine x_get C fl_X9_28 dX9_fold_165 (hh := hM.1) (kk := ?_)
          refine x_iconst C dX9_fold_168 (v := 3) (kk := ?_)
          refine x_iload C dX9_fold_169 (kk := ?_)
          refine x_imul C dX9_fold_171 ?_
          refine x_top _ (nI_mul 3 k) ?_
          refine x_iconst C dX9_fold_172 (v := 2) (kk := ?_)
          refine x_iadd C dX9_fold_173 ?_
          refine x_top _ (nI_add (3 * k) 2) ?_
          refine x_iload C dX9_fold_174 (kk := ?_)
          refine x_mst C 6 (3 * k + 2) hM hf dX9_fold_176 rfl (n := 120) (by omega) (kk := fun h hM hf => ?_)
          refine x_aload_n C dX9_fold_177 (kk := ?_)
          refine x_get C fl_X9_155 dX9_fold_178 (hh := hM.1) (kk := ?_)
          refine x_iret C rfl dX9_fold_181 (hp := ?_)
          exact ⟨by simp only [opFold, if_pos hcd, if_pos hin]; rfl, by simp only [opFold, if_pos hcd, if_pos hin]; exact ⟨_, _, hM, hU, hSr, mrfPut hFo hcd.2 hk hal rfl, hPa, hZe, hRa, hSt, hCh, hOu⟩, hf⟩
    · refine x_iconst C dX9_fold_115 (v := 0) (kk := ?_)
      refine x_goto C dX9_fold_116 120 ?_
      refine x_iload_n C dX9_fold_120 (kk := ?_)
      refine x_if_ge C dX9_fold_121 128 (fun hc121 => ?_) (fun hc121 => ?_)
      · refine x_iconst C dX9_fold_128 (v := 1) (kk := ?_)
        refine x_iadd C dX9_fold_129 ?_
        refine x_iload C dX9_fold_130 (kk := ?_)
        refine x_if_ge C dX9_fold_132 139 (fun hc132 => ?_) (fun hc132 => ?_)
        · refine x_iconst C dX9_fold_139 (v := 1) (kk := ?_)
          refine x_iadd C dX9_fold_140 ?_
          refine x_top _ (by simp only [hc112, hc121, hc132, if_true, if_false] at hsz; exact hsz) ?_
          refine x_mst C 5 (k) hM hf dX9_fold_141 rfl (n := 40) (by omega) (kk := fun h hM hf => ?_)
          refine x_aload_n C dX9_fold_142 (kk := ?_)
          refine x_get C fl_X9_28 dX9_fold_143 (hh := hM.1) (kk := ?_)
          refine x_iconst C dX9_fold_146 (v := 3) (kk := ?_)
          refine x_iload C dX9_fold_147 (kk := ?_)
          refine x_imul C dX9_fold_149 ?_
          refine x_top _ (nI_mul 3 k) ?_
          refine x_iload_n C dX9_fold_150 (kk := ?_)
          refine x_mst C 6 (3 * k) hM hf dX9_fold_151 rfl (n := 120) (by omega) (kk := fun h hM hf => ?_)
          refine x_aload_n C dX9_fold_152 (kk := ?_)
          refine x_get C fl_X9_28 dX9_fold_153 (hh := hM.1) (kk := ?_)
          refine x_iconst C dX9_fold_156 (v := 3) (kk := ?_)
          refine x_iload C dX9_fold_157 (kk := ?_)
          refine x_imul C dX9_fold_159 ?_
          refine x_top _ (nI_mul 3 k) ?_
          refine x_iconst C dX9_fold_160 (v := 1) (kk := ?_)
          refine x_iadd C dX9_fold_161 ?_
          refine x_top _ (nI_add (3 * k) 1) ?_
          refine x_iload_n C dX9_fold_162 (kk := ?_)
          refine x_mst C 6 (3 * k + 1) hM hf dX9_fold_163 rfl (n := 120) (by omega) (kk := fun h hM hf => ?_)
          refine x_aload_n C dX9_fold_164 (kk := ?_)
          refine x_get C fl_X9_28 dX9_fold_165 (hh := hM.1) (kk := ?_)
          refine x_iconst C dX9_fold_168 (v := 3) (kk := ?_)
          refine x_iload C dX9_fold_169 (kk := ?_)
          refine x_imul C dX9_fold_171 ?_
          refine x_top _ (nI_mul 3 k) ?_
          refine x_iconst C dX9_fold_172 (v := 2) (kk := ?_)
          refine x_iadd C dX9_fold_173 ?_
          refine x_top _ (nI_add (3 * k) 2) ?_
          refine x_iload C dX9_fold_174 (kk := ?_)
          refine x_mst C 6 (3 * k + 2) hM hf dX9_fold_176 rfl (n := 120) (by omega) (kk := fun h hM hf => ?_)
          refine x_aload_n C dX9_fold_177 (kk := ?_)
          refine x_get C fl_X9_155 dX9_fold_178 (hh := hM.1) (kk := ?_)
          refine x_iret C rfl dX9_fold_181 (hp := ?_)
          exact ⟨by simp only [opFold, if_pos hcd, if_pos hin]; rfl, by simp only [opFold, if_pos hcd, if_pos hin]; exact ⟨_, _, hM, hU, hSr, mrfPut hFo hcd.2 hk hal rfl, hPa, hZe, hRa, hSt, hCh, hOu⟩, hf⟩
        · refine x_iconst C dX9_fold_135 (v := 0) (kk := ?_)
          refine x_goto C dX9_fold_136 140 ?_
          refine x_iadd C dX9_fold_140 ?_
          refine x_top _ (by simp only [hc112, hc121, hc132, if_true, if_false] at hsz; exact hsz) ?_
          refine x_mst C 5 (k) hM hf dX9_fold_141 rfl (n := 40) (by omega) (kk := fun h hM hf => ?_)
          refine x_aload_n C dX9_fold_142 (kk := ?_)
          refine x_get C fl_X9_28 dX9_fold_143 (hh := hM.1) (kk := ?_)
          refine x_iconst C dX9_fold_146 (v := 3) (kk := ?_)
          refine x_iload C dX9_fold_147 (kk := ?_)
          refine x_imul C dX9_fold_149 ?_
          refine x_top _ (nI_mul 3 k) ?_
          refine x_iload_n C dX9_fold_150 (kk := ?_)
          refine x_mst C 6 (3 * k) hM hf dX9_fold_151 rfl (n := 120) (by omega) (kk := fun h hM hf => ?_)
          refine x_aload_n C dX9_fold_152 (kk := ?_)
          refine x_get C fl_X9_28 dX9_fold_153 (hh := hM.1) (kk := ?_)
          refine x_iconst C dX9_fold_156 (v := 3) (kk := ?_)
          refine x_iload C dX9_fold_157 (kk := ?_)
          refine x_imul C dX9_fold_159 ?_
          refine x_top _ (nI_mul 3 k) ?_
          refine x_iconst C dX9_fold_160 (v := 1) (kk := ?_)
          refine x_iadd C dX9_fold_161 ?_
          refine x_top _ (nI_add (3 * k) 1) ?_
          refine x_iload_n C dX9_fold_162 (kk := ?_)
          refine x_mst C 6 (3 * k + 1) hM hf dX9_fold_163 rfl (n := 120) (by omega) (kk := fun h hM hf => ?_)
          refine x_aload_n C dX9_fold_164 (kk := ?_)
          refine x_get C fl_X9_28 dX9_fold_165 (hh := hM.1) (kk := ?_)
          refine x_iconst C dX9_fold_168 (v := 3) (kk := ?_)
          refine x_iload C dX9_fold_169 (kk := ?_)
          refine x_imul C dX9_fold_171 ?_
          refine x_top _ (nI_mul 3 k) ?_
          refine x_iconst C dX9_fold_172 (v := 2) (kk := ?_)
          refine x_iadd C dX9_fold_173 ?_
          refine x_top _ (nI_add (3 * k) 2) ?_
          refine x_iload C dX9_fold_174 (kk := ?_)
          refine x_mst C 6 (3 * k + 2) hM hf dX9_fold_176 rfl (n := 120) (by omega) (kk := fun h hM hf => ?_)
          refine x_aload_n C dX9_fold_177 (kk := ?_)
          refine x_get C fl_X9_155 dX9_fold_178 (hh := hM.1) (kk := ?_)
          refine x_iret C rfl dX9_fold_181 (hp := ?_)
          exact ⟨by simp only [opFold, if_pos hcd, if_pos hin]; rfl, by simp only [opFold, if_pos hcd, if_pos hin]; exact ⟨_, _, hM, hU, hSr, mrfPut hFo hcd.2 hk hal rfl, hPa, hZe, hRa, hSt, hCh, hOu⟩, hf⟩
      · refine x_iconst C dX9_fold_124 (v := 0) (kk := ?_)
        refine x_goto C dX9_fold_125 129 ?_
        refine x_iadd C dX9_fold_129 ?_
        refine x_iload C dX9_fold_130 (kk := ?_)
        refine x_if_ge C dX9_fold_132 139 (fun hc132 => ?_) (fun hc132 => ?_)
        · refine x_iconst C dX9_fold_139 (v := 1) (kk := ?_)
          refine x_iadd C dX9_fold_140 ?_
          refine x_top _ (by simp only [hc112, hc121, hc132, if_true, if_false] at hsz; exact hsz) ?_
          refine x_mst C 5 (k) hM hf dX9_fold_141 rfl (n := 40) (by omega) (kk := fun h hM hf => ?_)
          refine x_aload_n C dX9_fold_142 (kk := ?_)
          refine x_get C fl_X9_28 dX9_fold_143 (hh := hM.1) (kk := ?_)
          refine x_iconst C dX9_fold_146 (v := 3) (kk := ?_)
          refine x_iload C dX9_fold_147 (kk := ?_)
          refine x_imul C dX9_fold_149 ?_
          refine x_top _ (nI_mul 3 k) ?_
          refine x_iload_n C dX9_fold_150 (kk := ?_)
          refine x_mst C 6 (3 * k) hM hf dX9_fold_151 rfl (n := 120) (by omega) (kk := fun h hM hf => ?_)
          refine x_aload_n C dX9_fold_152 (kk := ?_)
          refine x_get C fl_X9_28 dX9_fold_153 (hh := hM.1) (kk := ?_)
          refine x_iconst C dX9_fold_156 (v := 3) (kk := ?_)
          refine x_iload C dX9_fold_157 (kk := ?_)
          refine x_imul C dX9_fold_159 ?_
          refine x_top _ (nI_mul 3 k) ?_
          refine x_iconst C dX9_fold_160 (v := 1) (kk := ?_)
          refine x_iadd C dX9_fold_161 ?_
          refine x_top _ (nI_add (3 * k) 1) ?_
          refine x_iload_n C dX9_fold_162 (kk := ?_)
          refine x_mst C 6 (3 * k + 1) hM hf dX9_fold_163 rfl (n := 120) (by omega) (kk := fun h hM hf => ?_)
          refine x_aload_n C dX9_fold_164 (kk := ?_)
          refine x_get C fl_X9_28 dX9_fold_165 (hh := hM.1) (kk := ?_)
          refine x_iconst C dX9_fold_168 (v := 3) (kk := ?_)
          refine x_iload C dX9_fold_169 (kk := ?_)
          refine x_imul C dX9_fold_171 ?_
          refine x_top _ (nI_mul 3 k) ?_
          refine x_iconst C dX9_fold_172 (v := 2) (kk := ?_)
          refine x_iadd C dX9_fold_173 ?_
          refine x_top _ (nI_add (3 * k) 2) ?_
          refine x_iload C dX9_fold_174 (kk := ?_)
          refine x_mst C 6 (3 * k + 2) hM hf dX9_fold_176 rfl (n := 120) (by omega) (kk := fun h hM hf => ?_)
          refine x_aload_n C dX9_fold_177 (kk := ?_)
          refine x_get C fl_X9_155 dX9_fold_178 (hh := hM.1) (kk := ?_)
          refine x_iret C rfl dX9_fold_181 (hp := ?_)
          exact ⟨by simp only [opFold, if_pos hcd, if_pos hin]; rfl, by simp only [opFold, if_pos hcd, if_pos hin]; exact ⟨_, _, hM, hU, hSr, mrfPut hFo hcd.2 hk hal rfl, hPa, hZe, hRa, hSt, hCh, hOu⟩, hf⟩
        · refine x_iconst C dX9_fold_135 (v := 0) (kk := ?_)
          refine x_goto C dX9_fold_136 140 ?_
          refine x_iadd C dX9_fold_140 ?_
          refine x_top _ (by simp only [hc112, hc121, hc132, if_true, if_false] at hsz; exact hsz) ?_
          refine x_mst C 5 (k) hM hf dX9_fold_141 rfl (n := 40) (by omega) (kk := fun h hM hf => ?_)
          refine x_aload_n C dX9_fold_142 (kk := ?_)
          refine x_get C fl_X9_28 dX9_fold_143 (hh := hM.1) (kk := ?_)
          refine x_iconst C dX9_fold_146 (v := 3) (kk := ?_)
          refine x_iload C dX9_fold_147 (kk := ?_)
          refine x_imul C dX9_fold_149 ?_
          refine x_top _ (nI_mul 3 k) ?_
          refine x_iload_n C dX9_fold_150 (kk := ?_)
          refine x_mst C 6 (3 * k) hM hf dX9_fold_151 rfl (n := 120) (by omega) (kk := fun h hM hf => ?_)
          refine x_aload_n C dX9_fold_152 (kk := ?_)
          refine x_get C fl_X9_28 dX9_fold_153 (hh := hM.1) (kk := ?_)
          refine x_iconst C dX9_fold_156 (v := 3) (kk := ?_)
          refine x_iload C dX9_fold_157 (kk := ?_)
          refine x_imul C dX9_fold_159 ?_
          refine x_top _ (nI_mul 3 k) ?_
          refine x_iconst C dX9_fold_160 (v := 1) (kk := ?_)
          refine x_iadd C dX9_fold_161 ?_
          refine x_top _ (nI_add (3 * k) 1) ?_
          refine x_iload_n C dX9_fold_162 (kk := ?_)
          refine x_mst C 6 (3 * k + 1) hM hf dX9_fold_163 rfl (n := 120) (by omega) (kk := fun h hM hf => ?_)
          refine x_aload_n C dX9_fold_164 (kk := ?_)
          refine x_get C fl_X9_28 dX9_fold_165 (hh := hM.1) (kk := ?_)
          refine x_iconst C dX9_fold_168 (v := 3) (kk := ?_)
          refine x_iload C dX9_fold_169 (kk := ?_)
          refine x_imul C dX9_fold_171 ?_
          refine x_top _ (nI_mul 3 k) ?_
          refine x_iconst C dX9_fold_172 (v := 2) (kk := ?_)
          refine x_iadd C dX9_fold_173 ?_
          refine x_top _ (nI_add (3 * k) 2) ?_
          refine x_iload C dX9_fold_174 (kk := ?_)
          refine x_mst C 6 (3 * k + 2) hM hf dX9_fold_176 rfl (n := 120) (by omega) (kk := fun h hM hf => ?_)
          refine x_aload_n C dX9_fold_177 (kk := ?_)
          refine x_get C fl_X9_155 dX9_fold_178 (hh := hM.1) (kk := ?_)
          refine x_iret C rfl dX9_fold_181 (hp := ?_)
          exact ⟨by simp only [opFold, if_pos hcd, if_pos hin]; rfl, by simp only [opFold, if_pos hcd, if_pos hin]; exact ⟨_, _, hM, hU, hSr, mrfPut hFo hcd.2 hk hal rfl, hPa, hZe, hRa, hSt, hCh, hOu⟩, hf⟩
  have tail : (0 ≤ v ∧ v ≤ 1114111) ∧ ((a = -1 ∨ 0 ≤ a ∧ a ≤ 1114111) ∧ (b = -1 ∨ 0 ≤ b ∧ b ≤ 1114111) ∧ (d = -1 ∨ 0 ≤ d ∧ d ≤ 1114111)) ∧ ¬ (a = -1 ∧ ¬ b = -1) ∧ ¬ (b = -1 ∧ ¬ d = -1) → X p l e { frames := 3, cells := 0, slots := 0, locals := 62 } s m args below meth c G bs (MQ below (x_Q G bs (fun r h' => OpM G o h (opFold (u, km, src, lat, (fo, pa, ze, ra, sr), ch) v a b d) r h')) args s 0 0 (fun q => bs ≤ q)) 0 0 52 [some (.ref o), some (.int v), some (.int a), some (.int b), some (.int d), none] [] h := by
    intro hcd
    refine x_aload_n C dX9_fold_52 (kk := ?_)
    refine x_iload_n C dX9_fold_53 (kk := ?_)
    refine x_callV C ml_X9_foldAt lk_X9_164 (m_foldAt l G v hM hFo) dX9_fold_54 (fun r54 h54 hp54 => ?_) (hh := hM.1)
    obtain ⟨r, rfl, hsl, hq⟩ := hp54
    subst hq
    rcases hsl with ⟨rfl, hni⟩ | ⟨k, rfl, hk⟩
    · skip
      refine x_istore C dX9_fold_57 (kk := ?_)
      refine x_iload C dX9_fold_59 (kk := ?_)
      refine x_if_ge C dX9_fold_61 76 (fun z => absurd z (by decide)) (fun _ => ?_)
      refine x_aload_n C dX9_fold_64 (kk := ?_)
      refine x_get C fl_X9_155 dX9_fold_65 (hh := hM.1) (kk := ?_)
      refine x_top _ hFo.1 ?_
      refine x_bipush C dX9_fold_68 (v := 40) (kk := ?_)
      refine x_ncmp_ne C fo.length 40 dX9_fold_70 76 (fun hc70 => ?_) (fun hc70 => ?_)
      · refine x_iload C dX9_fold_76 (kk := ?_)
        refine x_if_ge C dX9_fold_78 97 (fun z => absurd z (by decide)) (fun _ => ?_)
        refine x_aload_n C dX9_fold_81 (kk := ?_)
        refine x_get C fl_X9_155 dX9_fold_82 (hh := hM.1) (kk := ?_)
        refine x_top _ hFo.1 ?_
        refine x_istore C dX9_fold_85 (kk := ?_)
        refine x_aload_n C dX9_fold_87 (kk := ?_)
        refine x_dup C dX9_fold_88 (kk := ?_)
        refine x_get C fl_X9_155 dX9_fold_89 (hh := hM.1) (kk := ?_)
        refine x_top _ hFo.1 ?_
        refine x_iconst C dX9_fold_92 (v := 1) (kk := ?_)
        refine x_iadd C dX9_fold_93 ?_
        refine x_top _ (nI_1 fo.length) ?_
        refine x_mpi C 3 hM hf fp_X9_155 dX9_fold_94 (kk := fun h hM hf => ?_)
        have hale : (aput fo v (fparts a b d)).length = fo.length + 1 := by rw [aput_new hni]; simp
        exact tail2 fo.length _ hcd (Or.inl ⟨rfl, hni⟩) (Or.inr (by omega)) (by omega) (by omega) (by rw [hale]; exact hM) hf
      · refine x_bipush C dX9_fold_73 (v := -2) (kk := ?_)
        refine x_iret C rfl dX9_fold_75 (hp := ?_)
        have hng : ¬ (v ∈ fo.map (·.1) ∨ fo.length < 40) := fun z => z.elim hni (fun z => by omega)
        exact ⟨by simp only [opFold, if_pos hcd, if_neg hng], by simp only [opFold, if_pos hcd, if_neg hng]; exact hS, hf⟩
    have hkl : k < fo.length := by simpa using (List.getElem?_eq_some_iff.mp hk).1
    refine x_istore C dX9_fold_57 (kk := ?_)
    refine x_iload C dX9_fold_59 (kk := ?_)
    refine x_if_ge C dX9_fold_61 76 (fun _ => ?_) (fun z => absurd (Int32.not_lt.mp (nI_pos (by omega))) z)
    refine x_iload C dX9_fold_76 (kk := ?_)
    refine x_if_ge C dX9_fold_78 97 (fun _ => ?_) (fun z => absurd (Int32.not_lt.mp (nI_pos (by omega))) z)
    have hale : (aput fo v (fparts a b d)).length = fo.length := aput_len hFo.2.2.1 hk
    exact tail2 k _ hcd (Or.inr hk) (Or.inl (List.mem_of_getElem? hk)) (by omega) (by omega) (by rw [upd_id (by rw [hale]; exact hFo.1)]; exact hM) hf
  refine x_iload_n C dX9_fold_0 (kk := ?_)
  refine x_callS C ml_X9_isSign lk_X9_158 (m_isSign l G v) dX9_fold_1 (fun r1 h1 hp1 => ?_)
  obtain ⟨rfl, rfl⟩ := hp1
  refine x_ifB_eq C dX9_fold_4 50 (fun hc4 => ?_) (fun hc4 => ?_)
  · have hng : ¬ ((0 ≤ v ∧ v ≤ 1114111) ∧ ((a = -1 ∨ 0 ≤ a ∧ a ≤ 1114111) ∧ (b = -1 ∨ 0 ≤ b ∧ b ≤ 1114111) ∧ (d = -1 ∨ 0 ≤ d ∧ d ≤ 1114111)) ∧ ¬ (a = -1 ∧ ¬ b = -1) ∧ ¬ (b = -1 ∧ ¬ d = -1)) := fun z => hc4 z.1
    refine x_iconst C dX9_fold_50 (v := -1) (kk := ?_)
    refine x_iret C rfl dX9_fold_51 (hp := ?_)
    exact ⟨by simp only [opFold, if_neg hng], by simp only [opFold, if_neg hng]; exact hS, hf⟩
  · refine x_iload_n C dX9_fold_7 (kk := ?_)
    refine x_callS C ml_X9_isSignOrNone lk_X9_161 (m_isSignOrNone l G a) dX9_fold_8 (fun r8 h8 hp8 => ?_)
    obtain ⟨rfl, rfl⟩ := hp8
    refine x_ifB_eq C dX9_fold_11 50 (fun hc11 => ?_) (fun hc11 => ?_)
    · have hng : ¬ ((0 ≤ v ∧ v ≤ 1114111) ∧ ((a = -1 ∨ 0 ≤ a ∧ a ≤ 1114111) ∧ (b = -1 ∨ 0 ≤ b ∧ b ≤ 1114111) ∧ (d = -1 ∨ 0 ≤ d ∧ d ≤ 1114111)) ∧ ¬ (a = -1 ∧ ¬ b = -1) ∧ ¬ (b = -1 ∧ ¬ d = -1)) := fun z => hc11 z.2.1.1
      refine x_iconst C dX9_fold_50 (v := -1) (kk := ?_)
      refine x_iret C rfl dX9_fold_51 (hp := ?_)
      exact ⟨by simp only [opFold, if_neg hng], by simp only [opFold, if_neg hng]; exact hS, hf⟩
    · refine x_iload_n C dX9_fold_14 (kk := ?_)
      refine x_callS C ml_X9_isSignOrNone lk_X9_161 (m_isSignOrNone l G b) dX9_fold_15 (fun r15 h15 hp15 => ?_)
      obtain ⟨rfl, rfl⟩ := hp15
      refine x_ifB_eq C dX9_fold_18 50 (fun hc18 => ?_) (fun hc18 => ?_)
      · have hng : ¬ ((0 ≤ v ∧ v ≤ 1114111) ∧ ((a = -1 ∨ 0 ≤ a ∧ a ≤ 1114111) ∧ (b = -1 ∨ 0 ≤ b ∧ b ≤ 1114111) ∧ (d = -1 ∨ 0 ≤ d ∧ d ≤ 1114111)) ∧ ¬ (a = -1 ∧ ¬ b = -1) ∧ ¬ (b = -1 ∧ ¬ d = -1)) := fun z => hc18 z.2.1.2.1
        refine x_iconst C dX9_fold_50 (v := -1) (kk := ?_)
        refine x_iret C rfl dX9_fold_51 (hp := ?_)
        exact ⟨by simp only [opFold, if_neg hng], by simp only [opFold, if_neg hng]; exact hS, hf⟩
      · refine x_iload C dX9_fold_21 (kk := ?_)
        refine x_callS C ml_X9_isSignOrNone lk_X9_161 (m_isSignOrNone l G d) dX9_fold_23 (fun r23 h23 hp23 => ?_)
        obtain ⟨rfl, rfl⟩ := hp23
        refine x_ifB_eq C dX9_fold_26 50 (fun hc26 => ?_) (fun hc26 => ?_)
        · have hng : ¬ ((0 ≤ v ∧ v ≤ 1114111) ∧ ((a = -1 ∨ 0 ≤ a ∧ a ≤ 1114111) ∧ (b = -1 ∨ 0 ≤ b ∧ b ≤ 1114111) ∧ (d = -1 ∨ 0 ≤ d ∧ d ≤ 1114111)) ∧ ¬ (a = -1 ∧ ¬ b = -1) ∧ ¬ (b = -1 ∧ ¬ d = -1)) := fun z => hc26 z.2.1.2.2
          refine x_iconst C dX9_fold_50 (v := -1) (kk := ?_)
          refine x_iret C rfl dX9_fold_51 (hp := ?_)
          exact ⟨by simp only [opFold, if_neg hng], by simp only [opFold, if_neg hng]; exact hS, hf⟩
        · refine x_iload_n C dX9_fold_29 (kk := ?_)
          refine x_iconst C dX9_fold_30 (v := -1) (kk := ?_)
          refine x_icmp_ne C dX9_fold_31 39 (fun hc31 => ?_) (fun hc31 => ?_)
          · refine x_iload_n C dX9_fold_39 (kk := ?_)
            refine x_iconst C dX9_fold_40 (v := -1) (kk := ?_)
            refine x_icmp_ne C dX9_fold_41 52 (fun hc41 => ?_) (fun hc41 => ?_)
            · refine tail ⟨hc4, ⟨hc11, hc18, hc26⟩, fun z => ?_, fun z => ?_⟩
              · first | exact hc31 z.1 | exact z.2 hc36
              · first | exact hc41 z.1 | exact z.2 hc47
            · refine x_iload C dX9_fold_44 (kk := ?_)
              refine x_iconst C dX9_fold_46 (v := -1) (kk := ?_)
              refine x_icmp_eq C dX9_fold_47 52 (fun hc47 => ?_) (fun hc47 => ?_)
              · refine tail ⟨hc4, ⟨hc11, hc18, hc26⟩, fun z => ?_, fun z => ?_⟩
                · first | exact hc31 z.1 | exact z.2 hc36
                · first | exact hc41 z.1 | exact z.2 hc47
              · have hng : ¬ ((0 ≤ v ∧ v ≤ 1114111) ∧ ((a = -1 ∨ 0 ≤ a ∧ a ≤ 1114111) ∧ (b = -1 ∨ 0 ≤ b ∧ b ≤ 1114111) ∧ (d = -1 ∨ 0 ≤ d ∧ d ≤ 1114111)) ∧ ¬ (a = -1 ∧ ¬ b = -1) ∧ ¬ (b = -1 ∧ ¬ d = -1)) := fun z => z.2.2.2 ⟨hc41, hc47⟩
                refine x_iconst C dX9_fold_50 (v := -1) (kk := ?_)
                refine x_iret C rfl dX9_fold_51 (hp := ?_)
                exact ⟨by simp only [opFold, if_neg hng], by simp only [opFold, if_neg hng]; exact hS, hf⟩
          · refine x_iload_n C dX9_fold_34 (kk := ?_)
            refine x_iconst C dX9_fold_35 (v := -1) (kk := ?_)
            refine x_icmp_ne C dX9_fold_36 50 (fun hc36 => ?_) (fun hc36 => ?_)
            · have hng : ¬ ((0 ≤ v ∧ v ≤ 1114111) ∧ ((a = -1 ∨ 0 ≤ a ∧ a ≤ 1114111) ∧ (b = -1 ∨ 0 ≤ b ∧ b ≤ 1114111) ∧ (d = -1 ∨ 0 ≤ d ∧ d ≤ 1114111)) ∧ ¬ (a = -1 ∧ ¬ b = -1) ∧ ¬ (b = -1 ∧ ¬ d = -1)) := fun z => z.2.2.1 ⟨hc31, hc36⟩
              refine x_iconst C dX9_fold_50 (v := -1) (kk := ?_)
              refine x_iret C rfl dX9_fold_51 (hp := ?_)
              exact ⟨by simp only [opFold, if_neg hng], by simp only [opFold, if_neg hng]; exact hS, hf⟩
            · refine x_iload_n C dX9_fold_39 (kk := ?_)
              refine x_iconst C dX9_fold_40 (v := -1) (kk := ?_)
              refine x_icmp_ne C dX9_fold_41 52 (fun hc41 => ?_) (fun hc41 => ?_)
              · refine tail ⟨hc4, ⟨hc11, hc18, hc26⟩, fun z => ?_, fun z => ?_⟩
                · first | exact hc31 z.1 | exact z.2 hc36
                · first | exact hc41 z.1 | exact z.2 hc47
              · refine x_iload C dX9_fold_44 (kk := ?_)
                refine x_iconst C dX9_fold_46 (v := -1) (kk := ?_)
                refine x_icmp_eq C dX9_fold_47 52 (fun hc47 => ?_) (fun hc47 => ?_)
                · refine tail ⟨hc4, ⟨hc11, hc18, hc26⟩, fun z => ?_, fun z => ?_⟩
                  · first | exact hc31 z.1 | exact z.2 hc36
                  · first | exact hc41 z.1 | exact z.2 hc47
                · have hng : ¬ ((0 ≤ v ∧ v ≤ 1114111) ∧ ((a = -1 ∨ 0 ≤ a ∧ a ≤ 1114111) ∧ (b = -1 ∨ 0 ≤ b ∧ b ≤ 1114111) ∧ (d = -1 ∨ 0 ≤ d ∧ d ≤ 1114111)) ∧ ¬ (a = -1 ∧ ¬ b = -1) ∧ ¬ (b = -1 ∧ ¬ d = -1)) := fun z => z.2.2.2 ⟨hc41, hc47⟩
                  refine x_iconst C dX9_fold_50 (v := -1) (kk := ?_)
                  refine x_iret C rfl dX9_fold_51 (hp := ?_)
                  exact ⟨by simp only [opFold, if_neg hng], by simp only [opFold, if_neg hng]; exact hS, hf⟩
set_option maxRecDepth 100000 in
set_option maxHeartbeats 4000000 in
theorem m_pair (l : Launch) (G : xG) {h : xh} {o : Nat} {u : List Int32} {km : Nat} {src lat : List Sg} {fo : List Fo} {pa : List Pr} {ze : List Int32} {ra : List Rg} {sr : List Sr} {ch : List (Option Fi)} (a b v : Int32) (hS : Ms G h o (u, km, src, lat, (fo, pa, ze, ra, sr), ch)) : Ct l G yX9_pair cX9_pair 5 (Option.some Jvm.ClassFile.FieldType.int) { frames := 2, cells := 0, slots := 0, locals := 42 } [.ref o, .int a, .int b, .int v] h (fun r h' => OpM G o h (opPair (u, km, src, lat, (fo, pa, ze, ra, sr), ch) a b v) r h') := by
  obtain ⟨I, A, hM, hU, hSr, hFo, hPa, hZe, hRa, hSt, hCh, hOu⟩ := id hS
  dsimp only at hU hSr hFo hPa hZe hRa hSt hCh hOu
  have hf : Mf o h h := Fr.rf
  have hl := hPa.2.1
  refine Ct.of [some (.ref o), some (.int a), some (.int b), some (.int v), none] (by decide +kernel) (Nat.le_of_ble_eq_true rfl) (fun p e s m args below meth c bs C hini => ?_)
  have tail2 : ∀ (k : Nat) (h1 : xh), (0 ≤ a ∧ a ≤ 1114111) ∧ (0 ≤ b ∧ b ≤ 1114111) ∧ (0 ≤ v ∧ v ≤ 1114111) → ((k = pa.length ∧ (a, b) ∉ pa.map (·.1)) ∨ (pa.map (·.1))[k]? = some (a, b)) → ((a, b) ∈ pa.map (·.1) ∨ pa.length < 20) → k < 20 → (aput pa (a, b) v).length ≤ 20 → MO G h1 o (upd I 4 (nI (aput pa (a, b) v).length)) A → Mf o h h1 → X p l e { frames := 2, cells := 0, slots := 0, locals := 42 } s m args below meth c G bs (MQ below (x_Q G bs (fun r h' => OpM G o h (opPair (u, km, src, lat, (fo, pa, ze, ra, sr), ch) a b v) r h')) args s 0 0 (fun q => bs ≤ q)) 0 0 69 [some (.ref o), some (.int a), some (.int b), some (.int v), some (.int (nI k))] [] h1 := by
    intro k h1 hcd hk hin hk40 hal hM hf
    refine x_aload_n C dX9_pair_69 (kk := ?_)
    refine x_get C fl_X9_31 dX9_pair_70 (hh := hM.1) (kk := ?_)
    refine x_iload C dX9_pair_73 (kk := ?_)
    refine x_iload_n C dX9_pair_75 (kk := ?_)
    refine x_mst C 7 (k) hM hf dX9_pair_76 rfl (n := 20) (by omega) (kk := fun h hM hf => ?_)
    refine x_aload_n C dX9_pair_77 (kk := ?_)
    refine x_get C fl_X9_34 dX9_pair_78 (hh := hM.1) (kk := ?_)
    refine x_iload C dX9_pair_81 (kk := ?_)
    refine x_iload_n C dX9_pair_83 (kk := ?_)
    refine x_mst C 8 (k) hM hf dX9_pair_84 rfl (n := 20) (by omega) (kk := fun h hM hf => ?_)
    refine x_aload_n C dX9_pair_85 (kk := ?_)
    refine x_get C fl_X9_37 dX9_pair_86 (hh := hM.1) (kk := ?_)
    refine x_iload C dX9_pair_89 (kk := ?_)
    refine x_iload_n C dX9_pair_91 (kk := ?_)
    refine x_mst C 9 (k) hM hf dX9_pair_92 rfl (n := 20) (by omega) (kk := fun h hM hf => ?_)
    refine x_aload_n C dX9_pair_93 (kk := ?_)
    refine x_get C fl_X9_168 dX9_pair_94 (hh := hM.1) (kk := ?_)
    refine x_iret C rfl dX9_pair_97 (hp := ?_)
    exact ⟨by simp only [opPair, if_pos hcd, if_pos hin]; rfl, by simp only [opPair, if_pos hcd, if_pos hin]; exact ⟨_, _, hM, hU, hSr, hFo, mrpPut hPa hk hal, hZe, hRa, hSt, hCh, hOu⟩, hf⟩
  refine x_iload_n C dX9_pair_0 (kk := ?_)
  refine x_callS C ml_X9_isSign lk_X9_158 (m_isSign l G a) dX9_pair_1 (fun r1 h1 hp1 => ?_)
  obtain ⟨rfl, rfl⟩ := hp1
  refine x_ifB_eq C dX9_pair_4 21 (fun hc4 => ?_) (fun hc4 => ?_)
  · have hng : ¬ ((0 ≤ a ∧ a ≤ 1114111) ∧ (0 ≤ b ∧ b ≤ 1114111) ∧ (0 ≤ v ∧ v ≤ 1114111)) := fun z => hc4 z.1
    refine x_iconst C dX9_pair_21 (v := -1) (kk := ?_)
    refine x_iret C rfl dX9_pair_22 (hp := ?_)
    exact ⟨by simp only [opPair, if_neg hng], by simp only [opPair, if_neg hng]; exact hS, hf⟩
  · refine x_iload_n C dX9_pair_7 (kk := ?_)
    refine x_callS C ml_X9_isSign lk_X9_158 (m_isSign l G b) dX9_pair_8 (fun r8 h8 hp8 => ?_)
    obtain ⟨rfl, rfl⟩ := hp8
    refine x_ifB_eq C dX9_pair_11 21 (fun hc11 => ?_) (fun hc11 => ?_)
    · have hng : ¬ ((0 ≤ a ∧ a ≤ 1114111) ∧ (0 ≤ b ∧ b ≤ 1114111) ∧ (0 ≤ v ∧ v ≤ 1114111)) := fun z => hc11 z.2.1
      refine x_iconst C dX9_pair_21 (v := -1) (kk := ?_)
      refine x_iret C rfl dX9_pair_22 (hp := ?_)
      exact ⟨by simp only [opPair, if_neg hng], by simp only [opPair, if_neg hng]; exact hS, hf⟩
    · refine x_iload_n C dX9_pair_14 (kk := ?_)
      refine x_callS C ml_X9_isSign lk_X9_158 (m_isSign l G v) dX9_pair_15 (fun r15 h15 hp15 => ?_)
      obtain ⟨rfl, rfl⟩ := hp15
      refine x_ifB_ne C dX9_pair_18 23 (fun hc18 => ?_) (fun hc18 => ?_)
      · refine x_aload_n C dX9_pair_23 (kk := ?_)
        refine x_iload_n C dX9_pair_24 (kk := ?_)
        refine x_iload_n C dX9_pair_25 (kk := ?_)
        refine x_callV C ml_X9_pairAt lk_X9_171 (m_pairAt l G a b hM hPa) dX9_pair_26 (fun r26 h26 hp26 => ?_) (hh := hM.1)
        have hcd : (0 ≤ a ∧ a ≤ 1114111) ∧ (0 ≤ b ∧ b ≤ 1114111) ∧ (0 ≤ v ∧ v ≤ 1114111) := ⟨hc4, hc11, hc18⟩
        obtain ⟨r, rfl, hsl, hq⟩ := hp26
        subst hq
        rcases hsl with ⟨rfl, hni⟩ | ⟨k, rfl, hk⟩
        · skip
          refine x_istore C dX9_pair_29 (kk := ?_)
          refine x_iload C dX9_pair_31 (kk := ?_)
          refine x_if_ge C dX9_pair_33 48 (fun z => absurd z (by decide)) (fun _ => ?_)
          refine x_aload_n C dX9_pair_36 (kk := ?_)
          refine x_get C fl_X9_168 dX9_pair_37 (hh := hM.1) (kk := ?_)
          refine x_top _ hPa.1 ?_
          refine x_bipush C dX9_pair_40 (v := 20) (kk := ?_)
          refine x_ncmp_ne C pa.length 20 dX9_pair_42 48 (fun hc42 => ?_) (fun hc42 => ?_)
          · refine x_iload C dX9_pair_48 (kk := ?_)
            refine x_if_ge C dX9_pair_50 69 (fun z => absurd z (by decide)) (fun _ => ?_)
            refine x_aload_n C dX9_pair_53 (kk := ?_)
            refine x_get C fl_X9_168 dX9_pair_54 (hh := hM.1) (kk := ?_)
            refine x_top _ hPa.1 ?_
            refine x_istore C dX9_pair_57 (kk := ?_)
            refine x_aload_n C dX9_pair_59 (kk := ?_)
            refine x_dup C dX9_pair_60 (kk := ?_)
            refine x_get C fl_X9_168 dX9_pair_61 (hh := hM.1) (kk := ?_)
            refine x_top _ hPa.1 ?_
            refine x_iconst C dX9_pair_64 (v := 1) (kk := ?_)
            refine x_iadd C dX9_pair_65 ?_
            refine x_top _ (nI_1 pa.length) ?_
            refine x_mpi C 4 hM hf fp_X9_168 dX9_pair_66 (kk := fun h hM hf => ?_)
            have hale : (aput pa (a, b) v).length = pa.length + 1 := by rw [aput_new hni]; simp
            exact tail2 pa.length _ hcd (Or.inl ⟨rfl, hni⟩) (Or.inr (by omega)) (by omega) (by omega) (by rw [hale]; exact hM) hf
          · refine x_bipush C dX9_pair_45 (v := -2) (kk := ?_)
            refine x_iret C rfl dX9_pair_47 (hp := ?_)
            have hng : ¬ ((a, b) ∈ pa.map (·.1) ∨ pa.length < 20) := fun z => z.elim hni (fun z => by omega)
            exact ⟨by simp only [opPair, if_pos hcd, if_neg hng], by simp only [opPair, if_pos hcd, if_neg hng]; exact hS, hf⟩
        have hkl : k < pa.length := by simpa using (List.getElem?_eq_some_iff.mp hk).1
        refine x_istore C dX9_pair_29 (kk := ?_)
        refine x_iload C dX9_pair_31 (kk := ?_)
        refine x_if_ge C dX9_pair_33 48 (fun _ => ?_) (fun z => absurd (Int32.not_lt.mp (nI_pos (by omega))) z)
        refine x_iload C dX9_pair_48 (kk := ?_)
        refine x_if_ge C dX9_pair_50 69 (fun _ => ?_) (fun z => absurd (Int32.not_lt.mp (nI_pos (by omega))) z)
        have hale : (aput pa (a, b) v).length = pa.length := aput_len hPa.2.2.1 hk
        exact tail2 k _ hcd (Or.inr hk) (Or.inl (List.mem_of_getElem? hk)) (by omega) (by omega) (by rw [upd_id (by rw [hale]; exact hPa.1)]; exact hM) hf
      · have hng : ¬ ((0 ≤ a ∧ a ≤ 1114111) ∧ (0 ≤ b ∧ b ≤ 1114111) ∧ (0 ≤ v ∧ v ≤ 1114111)) := fun z => hc18 z.2.2
        refine x_iconst C dX9_pair_21 (v := -1) (kk := ?_)
        refine x_iret C rfl dX9_pair_22 (hp := ?_)
        exact ⟨by simp only [opPair, if_neg hng], by simp only [opPair, if_neg hng]; exact hS, hf⟩
