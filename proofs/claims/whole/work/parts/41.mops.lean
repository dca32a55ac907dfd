/-! THE REFERENCE'S STATE, AND WHAT ITS CALLS DO -/
def MrU (n m : Int32) (f : Nat → Int32) (u : List Int32) (km : Nat) : Prop := n = nI u.length ∧ u.length ≤ 100 ∧ fL f u ∧ m = nI km ∧ km ≤ u.length
def MrS (n : Int32) (f g k : Nat → Int32) (q : List Sg) (lim : Nat) : Prop := n = nI q.length ∧ q.length ≤ lim ∧ fL f (q.map (·.1)) ∧ fL g (q.map (·.2.1)) ∧ fL k (q.map (·.2.2))
def MrF (n : Int32) (f g k : Nat → Int32) (fo : List Fo) : Prop := n = nI fo.length ∧ fo.length ≤ 40 ∧ (fo.map (·.1)).Nodup ∧ (∀ e ∈ fo, wfP e.2) ∧ fL f (fo.map (·.1)) ∧ fL g (fo.map (fun e => nI e.2.length)) ∧ ∀ (i : Nat) (e : Fo), fo[i]? = some e → ∀ j : Nat, j < 3 → k (3 * i + j) = e.2.getD j (-1)
def MrP (n : Int32) (f g k : Nat → Int32) (pa : List Pr) : Prop := n = nI pa.length ∧ pa.length ≤ 20 ∧ (pa.map (·.1)).Nodup ∧ fL f (pa.map (·.1.1)) ∧ fL g (pa.map (·.1.2)) ∧ fL k (pa.map (·.2))
def MrZ (n : Int32) (f : Nat → Int32) (ze : List Int32) : Prop := n = nI ze.length ∧ ze.length ≤ 10 ∧ fL f ze ∧ ∀ z ∈ ze, (0 : Int32) ≤ z ∧ z ≤ 1114102
def MrR (n : Int32) (f g : Nat → Int32) (ra : List Rg) : Prop := n = nI ra.length ∧ ra.length ≤ 8 ∧ fL f (ra.map (·.1)) ∧ fL g (ra.map (·.2))
def MrT (n : Int32) (f g k t : Nat → Int32) (sr : List Sr) : Prop := n = nI sr.length ∧ sr.length ≤ 20 ∧ (sr.map (·.1)).Nodup ∧ ∀ (s : Nat) (w : Sr), sr[s]? = some w → (w.1.length ≤ 100 ∧ w.2.length ≤ 100 ∧ 1 ≤ w.1.length) ∧ f s = nI w.1.length ∧ g s = nI w.2.length ∧ (∀ (j : Nat) (v : Int32), w.1[j]? = some v → k (100 * s + j) = v) ∧ ∀ (j : Nat) (v : Int32), w.2[j]? = some v → t (100 * s + j) = v
def MrC (c r m g : Nat → Int32) (ch : List (Option Fi)) : Prop := ch.length = 8 ∧ (∀ p : Nat, ch[p]? = some none → c p = 0) ∧ ∀ (p : Nat) (fi : Fi), ch[p]? = some (some fi) → (∃ k : Nat, k ≤ 6 ∧ fi.1 = nI k ∧ c p = nI (k + 1)) ∧ r p = fi.2.1 ∧ m p = fi.2.2.1 ∧ g p = fi.2.2.2
def Mr (I : Nat → Int32) (A : Nat → Nat → Int32) (a : Ab) : Prop := MrU (I 0) (I 1) (A 0) a.1 a.2.1 ∧ MrS (I 2) (A 1) (A 2) (A 3) a.2.2.1 100 ∧ MrF (I 3) (A 4) (A 5) (A 6) a.2.2.2.2.1.1 ∧ MrP (I 4) (A 7) (A 8) (A 9) a.2.2.2.2.1.2.1 ∧ MrZ (I 5) (A 10) a.2.2.2.2.1.2.2.1 ∧ MrR (I 6) (A 11) (A 12) a.2.2.2.2.1.2.2.2.1 ∧ MrT (I 7) (A 13) (A 14) (A 15) (A 16) a.2.2.2.2.1.2.2.2.2 ∧ MrC (A 17) (A 18) (A 19) (A 20) a.2.2.2.2.2 ∧ MrS (I 8) (A 23) (A 24) (A 25) a.2.2.2.1 300
def Ms (G : xG) (h : xh) (o : Nat) (a : Ab) : Prop := ∃ (I : Nat → Int32) (A : Nat → Nat → Int32), MO G h o I A ∧ Mr I A a
def OpM (G : xG) (o : Nat) (h : xh) (z : Int32 × Ab) (v : Option Value) (h' : xh) : Prop := v = some (.int z.1) ∧ Ms G h' o z.2 ∧ Mf o h h'
set_option maxRecDepth 100000 in
set_option maxHeartbeats 4000000 in
theorem m_unit (l : Launch) (G : xG) {h : xh} {o : Nat} {u : List Int32} {km : Nat} {src lat : List Sg} {fo : List Fo} {pa : List Pr} {ze : List Int32} {ra : List Rg} {sr : List Sr} {ch : List (Option Fi)} (v : Int32) (hS : Ms G h o (u, km, src, lat, (fo, pa, ze, ra, sr), ch)) : Ct l G yX9_unit cX9_unit 2 (Option.some Jvm.ClassFile.FieldType.int) { frames := 0, cells := 0, slots := 0, locals := 0 } [.ref o, .int v] h (fun r h' => OpM G o h (opUnit (u, km, src, lat, (fo, pa, ze, ra, sr), ch) v) r h') := by
  obtain ⟨I, A, hM, hU, hSr, hFo, hPa, hZe, hRa, hSt, hCh, hOu⟩ := id hS
  dsimp only at hU hSr hFo hPa hZe hRa hSt hCh hOu
  have hf : Mf o h h := Fr.rf
  have hul := hU.2.1
  refine Ct.of [some (.ref o), some (.int v)] (by decide +kernel) (Nat.le_of_ble_eq_true rfl) (fun p e s m args below meth c bs C hini => ?_)
  refine x_aload_n C dX9_unit_0 (kk := ?_)
  refine x_get C fl_X9_106 dX9_unit_1 (hh := hM.1) (kk := ?_)
  refine x_top _ hU.1 ?_
  refine x_bipush C dX9_unit_4 (v := 100) (kk := ?_)
  refine x_ncmp_ne C u.length 100 dX9_unit_6 12 (fun hc6 => ?_) (fun hc6 => ?_)
  · skip
    refine x_aload_n C dX9_unit_12 (kk := ?_)
    refine x_get C fl_X9_7 dX9_unit_13 (hh := hM.1) (kk := ?_)
    refine x_aload_n C dX9_unit_16 (kk := ?_)
    refine x_get C fl_X9_106 dX9_unit_17 (hh := hM.1) (kk := ?_)
    refine x_top _ hU.1 ?_
    refine x_iload_n C dX9_unit_20 (kk := ?_)
    refine x_ldc C tw_588 dX9_unit_21 ?_
    refine x_iand C dX9_unit_23 ?_
    refine x_mst C 0 (u.length) hM hf dX9_unit_24 rfl (n := 100) (by omega) (kk := fun h hM hf => ?_)
    refine x_aload_n C dX9_unit_25 (kk := ?_)
    refine x_dup C dX9_unit_26 (kk := ?_)
    refine x_get C fl_X9_106 dX9_unit_27 (hh := hM.1) (kk := ?_)
    refine x_top _ hU.1 ?_
    refine x_iconst C dX9_unit_30 (v := 1) (kk := ?_)
    refine x_iadd C dX9_unit_31 ?_
    refine x_top _ (nI_1 u.length) ?_
    refine x_mpi C 0 hM hf fp_X9_106 dX9_unit_32 (kk := fun h hM hf => ?_)
    refine x_aload_n C dX9_unit_35 (kk := ?_)
    refine x_get C fl_X9_106 dX9_unit_36 (hh := hM.1) (kk := ?_)
    refine x_iret C rfl dX9_unit_39 (hp := ?_)
    exact ⟨by simp only [opUnit, if_neg hc6]; rfl, by simp only [opUnit, if_neg hc6]; exact ⟨_, _, hM, ⟨by rw [List.length_append]; rfl, by simp; omega, fL_app hU.2.2.1 rfl, hU.2.2.2.1, by simp; have := hU.2.2.2.2; omega⟩, hSr, hFo, hPa, hZe, hRa, hSt, hCh, hOu⟩, hf⟩
  refine x_bipush C dX9_unit_9 (v := -2) (kk := ?_)
  refine x_iret C rfl dX9_unit_11 (hp := ?_)
  exact ⟨by simp only [opUnit, if_pos hc6], by simp only [opUnit, if_pos hc6]; exact hS, hf⟩
set_option maxRecDepth 100000 in
set_option maxHeartbeats 4000000 in
theorem m_mark (l : Launch) (G : xG) {h : xh} {o : Nat} {u : List Int32} {km : Nat} {src lat : List Sg} {fo : List Fo} {pa : List Pr} {ze : List Int32} {ra : List Rg} {sr : List Sr} {ch : List (Option Fi)} (hS : Ms G h o (u, km, src, lat, (fo, pa, ze, ra, sr), ch)) : Ct l G yX9_mark cX9_mark 1 (Option.some Jvm.ClassFile.FieldType.int) { frames := 0, cells := 0, slots := 0, locals := 0 } [.ref o] h (fun r h' => OpM G o h (opMark (u, km, src, lat, (fo, pa, ze, ra, sr), ch)) r h') := by
  obtain ⟨I, A, hM, hU, hSr, hFo, hPa, hZe, hRa, hSt, hCh, hOu⟩ := id hS
  dsimp only at hU hSr hFo hPa hZe hRa hSt hCh hOu
  have hf : Mf o h h := Fr.rf
  refine Ct.of [some (.ref o)] (by decide +kernel) (Nat.le_of_ble_eq_true rfl) (fun p e s m args below meth c bs C hini => ?_)
  refine x_aload_n C dX9_mark_0 (kk := ?_)
  refine x_aload_n C dX9_mark_1 (kk := ?_)
  refine x_get C fl_X9_106 dX9_mark_2 (hh := hM.1) (kk := ?_)
  refine x_top _ hU.1 ?_
  refine x_mpi C 1 hM hf fp_X9_120 dX9_mark_5 (kk := fun h hM hf => ?_)
  refine x_aload_n C dX9_mark_8 (kk := ?_)
  refine x_get C fl_X9_120 dX9_mark_9 (hh := hM.1) (kk := ?_)
  refine x_iret C rfl dX9_mark_12 (hp := ?_)
  exact ⟨rfl, ⟨_, _, hM, ⟨hU.1, hU.2.1, hU.2.2.1, rfl, Nat.le_refl _⟩, hSr, hFo, hPa, hZe, hRa, hSt, hCh, hOu⟩, hf⟩
set_option maxRecDepth 100000 in
set_option maxHeartbeats 4000000 in
theorem m_table (l : Launch) (G : xG) {h : xh} {o : Nat} {u : List Int32} {km : Nat} {src lat : List Sg} {fo : List Fo} {pa : List Pr} {ze : List Int32} {ra : List Rg} {sr : List Sr} {ch : List (Option Fi)} (v : Int32) (hS : Ms G h o (u, km, src, lat, (fo, pa, ze, ra, sr), ch)) : Ct l G yX9_table cX9_table 2 (Option.some Jvm.ClassFile.FieldType.int) { frames := 2, cells := 0, slots := 0, locals := 42 } [.ref o, .int v] h (fun r h' => OpM G o h (opTable v, (u, km, src, lat, (fo, pa, ze, ra, sr), ch)) r h') := by
  refine Ct.of [some (.ref o), some (.int v)] (by decide +kernel) (Nat.le_of_ble_eq_true rfl) (fun p e s m args below meth c bs C hini => ?_)
  refine x_iload_n C dX9_table_0 (kk := ?_)
  refine x_iconst C dX9_table_1 (v := 0) (kk := ?_)
  refine x_bipush C dX9_table_2 (v := 127) (kk := ?_)
  refine x_callS C ml_X9_isIn lk_X9_111 (m_isIn l G v 0 127) dX9_table_4 (fun r4 h4 hp4 => ?_)
  obtain ⟨rfl, rfl⟩ := hp4
  refine x_ifB_eq C dX9_table_7 17 (fun hc7 => ?_) (fun hc7 => ?_)
  · refine x_bipush C dX9_table_17 (v := -13) (kk := ?_)
    refine x_iret C rfl dX9_table_19 (hp := ?_)
    exact ⟨by simp only [opTable, if_neg hc7], hS, Fr.rf⟩
  · refine x_iload_n C dX9_table_10 (kk := ?_)
    refine x_callS C ml_X9_classOf lk_X9_232 (m_classOf l G v) dX9_table_11 (fun r11 h11 hp11 => ?_)
    obtain ⟨rfl, rfl⟩ := hp11
    refine x_goto C dX9_table_14 19 ?_
    refine x_iret C rfl dX9_table_19 (hp := ?_)
    exact ⟨by simp only [opTable, if_pos hc7], hS, Fr.rf⟩
theorem outIn {n : Nat} {i : Int32} (hn : n ≤ 300) : (if 0 ≤ i ∧ i ≤ nI n - 1 then (1 : Int32) else 0) = if 0 ≤ i ∧ i < nI n then 1 else 0 := by
  have key : (i ≤ nI n - 1) ↔ (i < nI n) := by
    by_cases h0 : n = 0
    · subst h0
      have e : nI 0 - 1 = -1 := by decide
      rw [e]
      simp only [Int32.le_iff_toInt_le, Int32.lt_iff_toInt_lt, m1_toInt]
      have : (nI 0).toInt = 0 := by decide
      omega
    · rw [nI_sub1 (by omega)]
      simp only [Int32.le_iff_toInt_le, Int32.lt_iff_toInt_lt]
      rw [nI_toInt (by omega), nI_toInt (by omega)]
      omega
  simp only [key]
set_option maxRecDepth 100000 in
set_option maxHeartbeats 4000000 in
theorem m_isOut (l : Launch) (G : xG) {h : xh} {o : Nat} {I : Nat → Int32} {A : Nat → Nat → Int32} {n : Nat} (i : Int32) (hn : n ≤ 300) (hI : I 8 = nI n) (hM : MO G h o I A) : Ct l G yX9_isOut cX9_isOut 2 (Option.some Jvm.ClassFile.FieldType.boolean) { frames := 1, cells := 0, slots := 0, locals := 22 } [.ref o, .int i] h (fun r h' => r = some (.int (if 0 ≤ i ∧ i < nI n then 1 else 0)) ∧ h' = h) := by
  refine Ct.of [some (.ref o), some (.int i)] (by decide +kernel) (Nat.le_of_ble_eq_true rfl) (fun p e s m args below meth c bs C hini => ?_)
  refine x_iload_n C dX9_isOut_0 (kk := ?_)
  refine x_iconst C dX9_isOut_1 (v := 0) (kk := ?_)
  refine x_aload_n C dX9_isOut_2 (kk := ?_)
  refine x_get C fl_X9_226 dX9_isOut_3 (hh := hM.1) (kk := ?_)
  refine x_top _ hI ?_
  refine x_iconst C dX9_isOut_6 (v := 1) (kk := ?_)
  refine x_isub C dX9_isOut_7 ?_
  refine x_callS C ml_X9_isIn lk_X9_111 (m_isIn l G i 0 (nI n - 1)) dX9_isOut_8 (fun r8 h8 hp8 => ?_)
  obtain ⟨rfl, rfl⟩ := hp8
  refine x_zret C rfl dX9_isOut_11 (by first | exact Or.inl rfl | exact Or.inr rfl | assumption | exact ite01 _) (hp := ?_)
  exact ⟨by rw [outIn hn], rfl⟩
theorem atL {f : Nat → Int32} {q : List Sg} {π : Sg → Int32} {j : Nat} (h : fL f (q.map π)) (hj : j < q.length) : f j = π (q.getD j (0, 0, 0)) := by
  have e : q[j]? = some (q.getD j (0, 0, 0)) := by simp [hj]
  exact fL_at h e
set_option maxRecDepth 100000 in
set_option maxHeartbeats 4000000 in
theorem m_sign (l : Launch) (G : xG) {h : xh} {o : Nat} {u : List Int32} {km : Nat} {src lat : List Sg} {fo : List Fo} {pa : List Pr} {ze : List Int32} {ra : List Rg} {sr : List Sr} {ch : List (Option Fi)} (i : Int32) (hS : Ms G h o (u, km, src, lat, (fo, pa, ze, ra, sr), ch)) : Ct l G yX9_sign cX9_sign 2 (Option.some Jvm.ClassFile.FieldType.int) { frames := 2, cells := 0, slots := 0, locals := 43 } [.ref o, .int i] h (fun r h' => OpM G o h (opSign (u, km, src, lat, (fo, pa, ze, ra, sr), ch) i, (u, km, src, lat, (fo, pa, ze, ra, sr), ch)) r h') := by
  obtain ⟨I, A, hM, hU, hSr, hFo, hPa, hZe, hRa, hSt, hCh, hOu⟩ := id hS
  dsimp only at hU hSr hFo hPa hZe hRa hSt hCh hOu
  have hf : Mf o h h := Fr.rf
  have hll := hOu.2.1
  refine Ct.of [some (.ref o), some (.int i)] (by decide +kernel) (Nat.le_of_ble_eq_true rfl) (fun p e s m args below meth c bs C hini => ?_)
  refine x_aload_n C dX9_sign_0 (kk := ?_)
  refine x_iload_n C dX9_sign_1 (kk := ?_)
  refine x_callV C ml_X9_isOut lk_X9_229 (m_isOut l G i hll hOu.1 hM) dX9_sign_2 (fun r2 h2 hp2 => ?_) (hh := hM.1)
  obtain ⟨rfl, rfl⟩ := hp2
  refine x_ifB_eq C dX9_sign_5 17 (fun hc5 => ?_) (fun hc5 => ?_)
  · refine x_bipush C dX9_sign_17 (v := -13) (kk := ?_)
    refine x_iret C rfl dX9_sign_19 (hp := ?_)
    exact ⟨by simp only [opSign, if_neg hc5], hS, hf⟩
  · refine x_aload_n C dX9_sign_8 (kk := ?_)
    refine x_get C fl_X9_79 dX9_sign_9 (hh := hM.1) (kk := ?_)
    refine x_iload_n C dX9_sign_12 (kk := ?_)
    obtain ⟨j, hj, rfl⟩ := rng (by omega) hc5
    have hcl : (nI j).toNatClampNeg = j := nI_clamp (by omega)
    refine x_mld C 23 j hM dX9_sign_13 rfl (n := 300) (by omega) (kk := ?_)
    refine x_goto C dX9_sign_14 19 ?_
    refine x_iret C rfl dX9_sign_19 (hp := ?_)
    exact ⟨by simp only [opSign, if_pos hc5, hcl]; rw [atL hOu.2.2.1 hj], hS, hf⟩
set_option maxRecDepth 100000 in
set_option maxHeartbeats 4000000 in
theorem m_place (l : Launch) (G : xG) {h : xh} {o : Nat} {u : List Int32} {km : Nat} {src lat : List Sg} {fo : List Fo} {pa : List Pr} {ze : List Int32} {ra : List Rg} {sr : List Sr} {ch : List (Option Fi)} (i w : Int32) (hS : Ms G h o (u, km, src, lat, (fo, pa, ze, ra, sr), ch)) : Ct l G yX9_place cX9_place 3 (Option.some Jvm.ClassFile.FieldType.int) { frames := 2, cells := 0, slots := 0, locals := 43 } [.ref o, .int i, .int w] h (fun r h' => OpM G o h (opPlace (u, km, src, lat, (fo, pa, ze, ra, sr), ch) i w, (u, km, src, lat, (fo, pa, ze, ra, sr), ch)) r h') := by
  obtain ⟨I, A, hM, hU, hSr, hFo, hPa, hZe, hRa, hSt, hCh, hOu⟩ := id hS
  dsimp only at hU hSr hFo hPa hZe hRa hSt hCh hOu
  have hf : Mf o h h := Fr.rf
  have hll := hOu.2.1
  refine Ct.of [some (.ref o), some (.int i), some (.int w)] (by decide +kernel) (Nat.le_of_ble_eq_true rfl) (fun p e s m args below meth c bs C hini => ?_)
  refine x_aload_n C dX9_place_0 (kk := ?_)
  refine x_iload_n C dX9_place_1 (kk := ?_)
  refine x_callV C ml_X9_isOut lk_X9_229 (m_isOut l G i hll hOu.1 hM) dX9_place_2 (fun r2 h2 hp2 => ?_) (hh := hM.1)
  obtain ⟨rfl, rfl⟩ := hp2
  refine x_ifB_ne C dX9_place_5 13 (fun hc5 => ?_) (fun hc5 => ?_)
  · obtain ⟨j, hj, rfl⟩ := rng (by omega) hc5
    have hcl : (nI j).toNatClampNeg = j := nI_clamp (by omega)
    refine x_iload_n C dX9_place_13 (kk := ?_)
    refine x_if_eq C dX9_place_14 26 (fun hc14 => ?_) (fun hc14 => ?_)
    · refine x_aload_n C dX9_place_26 (kk := ?_)
      refine x_get C fl_X9_82 dX9_place_27 (hh := hM.1) (kk := ?_)
      refine x_iload_n C dX9_place_30 (kk := ?_)
      refine x_mld C 24 (j) hM dX9_place_31 rfl (n := 300) (by omega) (kk := ?_)
      refine x_iret C rfl dX9_place_32 (hp := ?_)
      exact ⟨by simp only [opPlace, if_pos hc5, if_pos hc14, hcl]; rw [atL hOu.2.2.2.1 hj], hS, hf⟩
    · refine x_aload_n C dX9_place_17 (kk := ?_)
      refine x_get C fl_X9_85 dX9_place_18 (hh := hM.1) (kk := ?_)
      refine x_iload_n C dX9_place_21 (kk := ?_)
      refine x_mld C 25 (j) hM dX9_place_22 rfl (n := 300) (by omega) (kk := ?_)
      refine x_goto C dX9_place_23 32 ?_
      refine x_iret C rfl dX9_place_32 (hp := ?_)
      exact ⟨by simp only [opPlace, if_pos hc5, if_neg hc14, hcl]; rw [atL hOu.2.2.2.2 hj], hS, hf⟩
  refine x_bipush C dX9_place_8 (v := -13) (kk := ?_)
  refine x_goto C dX9_place_10 32 ?_
  refine x_iret C rfl dX9_place_32 (hp := ?_)
  exact ⟨by simp only [opPlace, if_neg hc5], hS, hf⟩
set_option maxRecDepth 100000 in
set_option maxHeartbeats 4000000 in
theorem m_units (l : Launch) (G : xG) {h : xh} {o : Nat} {u : List Int32} {km : Nat} {src lat : List Sg} {fo : List Fo} {pa : List Pr} {ze : List Int32} {ra : List Rg} {sr : List Sr} {ch : List (Option Fi)} (hS : Ms G h o (u, km, src, lat, (fo, pa, ze, ra, sr), ch)) : Ct l G yX9_units cX9_units 3 (Option.some Jvm.ClassFile.FieldType.int) { frames := 1, cells := 0, slots := 0, locals := 20 } [.ref o] h (fun r h' => OpM G o h (opUnits (u, km, src, lat, (fo, pa, ze, ra, sr), ch), (u, km, src, lat, (fo, pa, ze, ra, sr), ch)) r h') := by
  obtain ⟨I, A, hM, hU, hSr, hFo, hPa, hZe, hRa, hSt, hCh, hOu⟩ := id hS
  dsimp only at hU hSr hFo hPa hZe hRa hSt hCh hOu
  have hf : Mf o h h := Fr.rf
  have hll := hOu.2.1
  refine Ct.of [some (.ref o), none, none] (by decide +kernel) (Nat.le_of_ble_eq_true rfl) (fun p e s m args below meth c bs C hini => ?_)
  have loop : ∀ (n k : Nat), lat.length - k < n → k ≤ lat.length → X p l e { frames := 1, cells := 0, slots := 0, locals := 20 } s m args below meth c G bs (MQ below (x_Q G bs (fun r h' => OpM G o h (opUnits (u, km, src, lat, (fo, pa, ze, ra, sr), ch), (u, km, src, lat, (fo, pa, ze, ra, sr), ch)) r h')) args s 0 0 (fun q => bs ≤ q)) 0 0 4 [some (.ref o), some (.int (uSum ((lat.map (·.1)).take k))), some (.int (nI k))] [] h := by
    intro n
    induction n with
    | zero => intro k hn; omega
    | succ n ih =>
      intro k hn hk
      refine x_iload_n C dX9_units_4 (kk := ?_)
      refine x_aload_n C dX9_units_5 (kk := ?_)
      refine x_get C fl_X9_226 dX9_units_6 (hh := hM.1) (kk := ?_)
      refine x_top _ hOu.1 ?_
      refine x_ncmp_ge C k lat.length dX9_units_9 30 (fun hc9 => ?_) (fun hc9 => ?_)
      · refine x_iload_n C dX9_units_30 (kk := ?_)
        refine x_iret C rfl dX9_units_31 (hp := ?_)
        exact ⟨by rw [List.take_of_length_le (by simpa using hc9)]; rfl, hS, hf⟩
      obtain ⟨v, hv⟩ : ∃ v, lat[k]? = some v := ⟨lat[k], List.getElem?_eq_getElem hc9⟩
      have hfv := fL_at hOu.2.2.1 hv
      refine x_iload_n C dX9_units_12 (kk := ?_)
      refine x_aload_n C dX9_units_13 (kk := ?_)
      refine x_get C fl_X9_79 dX9_units_14 (hh := hM.1) (kk := ?_)
      refine x_iload_n C dX9_units_17 (kk := ?_)
      refine x_mld C 23 k hM dX9_units_18 rfl (n := 300) (by omega) (kk := ?_)
      rw [hfv]
      refine x_callS C ml_X9_unitsOf lk_X9_191 (m_unitsOf l G v.1) dX9_units_19 (fun r19 h19 hp19 => ?_)
      obtain ⟨rfl, rfl⟩ := hp19
      refine x_iadd C dX9_units_22 ?_
      refine x_top _ (uSumL_take hv) ?_
      refine x_istore_n C dX9_units_23 (kk := ?_)
      refine x_iinc1 C dX9_units_24 (kk := ?_)
      refine x_goto C dX9_units_27 4 ?_
      exact ih (k + 1) (by omega) (by omega)
  refine x_iconst C dX9_units_0 (v := 0) (kk := ?_)
  refine x_istore_n C dX9_units_1 (kk := ?_)
  refine x_iconst C dX9_units_2 (v := 0) (kk := ?_)
  refine x_istore_n C dX9_units_3 (kk := ?_)
  exact loop (lat.length + 1) 0 (by omega) (by omega)
set_option maxRecDepth 100000 in
set_option maxHeartbeats 4000000 in
theorem m_broken (l : Launch) (G : xG) {h : xh} {o : Nat} {u : List Int32} {km : Nat} {src lat : List Sg} {fo : List Fo} {pa : List Pr} {ze : List Int32} {ra : List Rg} {sr : List Sr} {ch : List (Option Fi)} (i : Int32) (hS : Ms G h o (u, km, src, lat, (fo, pa, ze, ra, sr), ch)) : Ct l G yX9_broken cX9_broken 4 (Option.some Jvm.ClassFile.FieldType.int) { frames := 2, cells := 0, slots := 0, locals := 42 } [.ref o, .int i] h (fun r h' => OpM G o h (opBroken (u, km, src, lat, (fo, pa, ze, ra, sr), ch) i, (u, km, src, lat, (fo, pa, ze, ra, sr), ch)) r h') := by
  obtain ⟨I, A, hM, hU, hSr, hFo, hPa, hZe, hRa, hSt, hCh, hOu⟩ := id hS
  dsimp only at hU hSr hFo hPa hZe hRa hSt hCh hOu
  have hf : Mf o h h := Fr.rf
  have hll := hOu.2.1
  refine Ct.of [some (.ref o), some (.int i), none, none] (by decide +kernel) (Nat.le_of_ble_eq_true rfl) (fun p e s m args below meth c bs C hini => ?_)
  refine x_iload_n C dX9_broken_0 (kk := ?_)
  refine x_iconst C dX9_broken_1 (v := 0) (kk := ?_)
  refine x_aload_n C dX9_broken_2 (kk := ?_)
  refine x_get C fl_X9_226 dX9_broken_3 (hh := hM.1) (kk := ?_)
  refine x_top _ hOu.1 ?_
  refine x_callS C ml_X9_isIn lk_X9_111 (m_isIn l G i 0 (nI lat.length)) dX9_broken_6 (fun r6 h6 hp6 => ?_)
  obtain ⟨rfl, rfl⟩ := hp6
  refine x_ifB_ne C dX9_broken_9 15 (fun hc9 => ?_) (fun hc9 => ?_)
  · refine x_iload_n C dX9_broken_15 (kk := ?_)
    refine x_if_eq C dX9_broken_16 27 (fun hc16 => ?_) (fun hc16 => ?_)
    · have h1 : i = 0 ∨ i = nI lat.length := Or.inl hc16
      refine x_iconst C dX9_broken_27 (v := 1) (kk := ?_)
      refine x_iret C rfl dX9_broken_28 (hp := ?_)
      exact ⟨by simp only [opBroken, if_pos hc9, if_pos h1], hS, hf⟩
    · refine x_iload_n C dX9_broken_19 (kk := ?_)
      refine x_aload_n C dX9_broken_20 (kk := ?_)
      refine x_get C fl_X9_226 dX9_broken_21 (hh := hM.1) (kk := ?_)
      refine x_top _ hOu.1 ?_
      refine x_icmp_ne C dX9_broken_24 29 (fun hc24 => ?_) (fun hc24 => ?_)
      · have h1 : ¬ (i = 0 ∨ i = nI lat.length) := fun z => z.elim hc16 hc24
        obtain ⟨j, hj, rfl⟩ := rng (by omega) (And.intro hc9.1 (Int32.lt_of_le_of_ne hc9.2 hc24))
        have hj0 : 0 < j := Nat.pos_of_ne_zero (fun z => hc16 (by rw [z]; rfl))
        have hcl : (nI j).toNatClampNeg = j := nI_clamp (by omega)
        refine x_aload_n C dX9_broken_29 (kk := ?_)
        refine x_get C fl_X9_79 dX9_broken_30 (hh := hM.1) (kk := ?_)
        refine x_iload_n C dX9_broken_33 (kk := ?_)
        refine x_iconst C dX9_broken_34 (v := 1) (kk := ?_)
        refine x_isub C dX9_broken_35 ?_
        refine x_top _ (nI_sub1 hj0) ?_
        refine x_mld C 23 (j - 1) hM dX9_broken_36 rfl (n := 300) (by omega) (kk := ?_)
        rw [atL hOu.2.2.1 (show j - 1 < lat.length by omega)]
        refine x_callS C ml_X9_classOf lk_X9_232 (m_classOf l G (lat.getD (j - 1) (0, 0, 0)).1) dX9_broken_37 (fun r37 h37 hp37 => ?_)
        obtain ⟨rfl, rfl⟩ := hp37
        refine x_istore_n C dX9_broken_40 (kk := ?_)
        refine x_aload_n C dX9_broken_41 (kk := ?_)
        refine x_get C fl_X9_79 dX9_broken_42 (hh := hM.1) (kk := ?_)
        refine x_iload_n C dX9_broken_45 (kk := ?_)
        refine x_mld C 23 j hM dX9_broken_46 rfl (n := 300) (by omega) (kk := ?_)
        rw [atL hOu.2.2.1 hj]
        refine x_callS C ml_X9_classOf lk_X9_232 (m_classOf l G (lat.getD j (0, 0, 0)).1) dX9_broken_47 (fun r47 h47 hp47 => ?_)
        obtain ⟨rfl, rfl⟩ := hp47
        refine x_istore_n C dX9_broken_50 (kk := ?_)
        refine x_iload_n C dX9_broken_51 (kk := ?_)
        refine x_iload_n C dX9_broken_52 (kk := ?_)
        refine x_icmp_ne C dX9_broken_53 65 (fun hc53 => ?_) (fun hc53 => ?_)
        · have h2 : clsOf (lat.getD (j - 1) (0, 0, 0)).1 ≠ clsOf (lat.getD j (0, 0, 0)).1 ∨ clsOf (lat.getD (j - 1) (0, 0, 0)).1 = 0 ∨ clsOf (lat.getD (j - 1) (0, 0, 0)).1 = 4 := Or.inl hc53
          refine x_iconst C dX9_broken_65 (v := 1) (kk := ?_)
          refine x_goto C dX9_broken_66 70 ?_
          refine x_iret C rfl dX9_broken_70 (hp := ?_)
          exact ⟨by simp only [opBroken, if_pos hc9, if_neg h1, hcl, if_pos h2], hS, hf⟩
        · refine x_iload_n C dX9_broken_56 (kk := ?_)
          refine x_if_eq C dX9_broken_57 65 (fun hc57 => ?_) (fun hc57 => ?_)
          · have h2 : clsOf (lat.getD (j - 1) (0, 0, 0)).1 ≠ clsOf (lat.getD j (0, 0, 0)).1 ∨ clsOf (lat.getD (j - 1) (0, 0, 0)).1 = 0 ∨ clsOf (lat.getD (j - 1) (0, 0, 0)).1 = 4 := Or.inr (Or.inl hc57)
            refine x_iconst C dX9_broken_65 (v := 1) (kk := ?_)
            refine x_goto C dX9_broken_66 70 ?_
            refine x_iret C rfl dX9_broken_70 (hp := ?_)
            exact ⟨by simp only [opBroken, if_pos hc9, if_neg h1, hcl, if_pos h2], hS, hf⟩
          · refine x_iload_n C dX9_broken_60 (kk := ?_)
            refine x_iconst C dX9_broken_61 (v := 4) (kk := ?_)
            refine x_icmp_ne C dX9_broken_62 69 (fun hc62 => ?_) (fun hc62 => ?_)
            · have h2 : ¬ (clsOf (lat.getD (j - 1) (0, 0, 0)).1 ≠ clsOf (lat.getD j (0, 0, 0)).1 ∨ clsOf (lat.getD (j - 1) (0, 0, 0)).1 = 0 ∨ clsOf (lat.getD (j - 1) (0, 0, 0)).1 = 4) := fun z => z.elim (fun z => z hc53) (fun z => z.elim hc57 hc62)
              refine x_iconst C dX9_broken_69 (v := 0) (kk := ?_)
              refine x_iret C rfl dX9_broken_70 (hp := ?_)
              exact ⟨by simp only [opBroken, if_pos hc9, if_neg h1, hcl, if_neg h2], hS, hf⟩
            · have h2 : clsOf (lat.getD (j - 1) (0, 0, 0)).1 ≠ clsOf (lat.getD j (0, 0, 0)).1 ∨ clsOf (lat.getD (j - 1) (0, 0, 0)).1 = 0 ∨ clsOf (lat.getD (j - 1) (0, 0, 0)).1 = 4 := Or.inr (Or.inr hc62)
              refine x_iconst C dX9_broken_65 (v := 1) (kk := ?_)
              refine x_goto C dX9_broken_66 70 ?_
              refine x_iret C rfl dX9_broken_70 (hp := ?_)
              exact ⟨by simp only [opBroken, if_pos hc9, if_neg h1, hcl, if_pos h2], hS, hf⟩
      · have h1 : i = 0 ∨ i = nI lat.length := Or.inr hc24
        refine x_iconst C dX9_broken_27 (v := 1) (kk := ?_)
        refine x_iret C rfl dX9_broken_28 (hp := ?_)
        exact ⟨by simp only [opBroken, if_pos hc9, if_pos h1], hS, hf⟩
  · refine x_bipush C dX9_broken_12 (v := -13) (kk := ?_)
    refine x_iret C rfl dX9_broken_14 (hp := ?_)
    exact ⟨by simp only [opBroken, if_neg hc9], hS, hf⟩
