/-! THE REFERENCE, X: the whole run -/
def K4 (I I2 : Nat → Int32) (A A2 : Nat → Nat → Int32) : Prop := (∀ k, k < 8 → I2 k = I k) ∧ ∀ k, k < 23 → ¬ (19 ≤ k ∧ k ≤ 22) → A2 k = A k
theorem Kr.f {I I2 : Nat → Int32} {A A2 : Nat → Nat → Int32} (k : Kr I I2 A A2) : K4 I I2 A A2 := ⟨fun j h => k.1 j (by omega), fun j h1 h2 => k.2 j (by omega) (by omega) (by omega)⟩
theorem K4.mr {I I2 : Nat → Int32} {A A2 : Nat → Nat → Int32} {a : Ab} {q : List Sg} {pre : List (Option Fi)} (k : K4 I I2 A A2) (h : Mr I A a) (hc : MrC (A2 17) (A2 18) (A2 19) (A2 20) pre) (ho : MrS (I2 8) (A2 23) (A2 24) (A2 25) q 300) : Mr I2 A2 (a.1, a.2.1, a.2.2.1, q, a.2.2.2.2.1, pre) := by
  obtain ⟨k1, k2⟩ := k
  obtain ⟨g1, g2, g3, g4, g5, g6, g7, -, -⟩ := h
  refine ⟨?_, ?_, ?_, ?_, ?_, ?_, ?_, hc, ho⟩
  · simp only [k1 0 (by decide), k1 1 (by decide), k1 2 (by decide), k1 3 (by decide), k1 4 (by decide), k1 5 (by decide), k1 6 (by decide), k1 7 (by decide), k2 0 (by decide) (by decide), k2 1 (by decide) (by decide), k2 2 (by decide) (by decide), k2 3 (by decide) (by decide), k2 4 (by decide) (by decide), k2 5 (by decide) (by decide), k2 6 (by decide) (by decide), k2 7 (by decide) (by decide), k2 8 (by decide) (by decide), k2 9 (by decide) (by decide), k2 10 (by decide) (by decide), k2 11 (by decide) (by decide), k2 12 (by decide) (by decide), k2 13 (by decide) (by decide), k2 14 (by decide) (by decide), k2 15 (by decide) (by decide), k2 16 (by decide) (by decide), k2 17 (by decide) (by decide), k2 18 (by decide) (by decide)]; exact g1
  · simp only [k1 0 (by decide), k1 1 (by decide), k1 2 (by decide), k1 3 (by decide), k1 4 (by decide), k1 5 (by decide), k1 6 (by decide), k1 7 (by decide), k2 0 (by decide) (by decide), k2 1 (by decide) (by decide), k2 2 (by decide) (by decide), k2 3 (by decide) (by decide), k2 4 (by decide) (by decide), k2 5 (by decide) (by decide), k2 6 (by decide) (by decide), k2 7 (by decide) (by decide), k2 8 (by decide) (by decide), k2 9 (by decide) (by decide), k2 10 (by decide) (by decide), k2 11 (by decide) (by decide), k2 12 (by decide) (by decide), k2 13 (by decide) (by decide), k2 14 (by decide) (by decide), k2 15 (by decide) (by decide), k2 16 (by decide) (by decide), k2 17 (by decide) (by decide), k2 18 (by decide) (by decide)]; exact g2
  · simp only [k1 0 (by decide), k1 1 (by decide), k1 2 (by decide), k1 3 (by decide), k1 4 (by decide), k1 5 (by decide), k1 6 (by decide), k1 7 (by decide), k2 0 (by decide) (by decide), k2 1 (by decide) (by decide), k2 2 (by decide) (by decide), k2 3 (by decide) (by decide), k2 4 (by decide) (by decide), k2 5 (by decide) (by decide), k2 6 (by decide) (by decide), k2 7 (by decide) (by decide), k2 8 (by decide) (by decide), k2 9 (by decide) (by decide), k2 10 (by decide) (by decide), k2 11 (by decide) (by decide), k2 12 (by decide) (by decide), k2 13 (by decide) (by decide), k2 14 (by decide) (by decide), k2 15 (by decide) (by decide), k2 16 (by decide) (by decide), k2 17 (by decide) (by decide), k2 18 (by decide) (by decide)]; exact g3
  · simp only [k1 0 (by decide), k1 1 (by decide), k1 2 (by decide), k1 3 (by decide), k1 4 (by decide), k1 5 (by decide), k1 6 (by decide), k1 7 (by decide), k2 0 (by decide) (by decide), k2 1 (by decide) (by decide), k2 2 (by decide) (by decide), k2 3 (by decide) (by decide), k2 4 (by decide) (by decide), k2 5 (by decide) (by decide), k2 6 (by decide) (by decide), k2 7 (by decide) (by decide), k2 8 (by decide) (by decide), k2 9 (by decide) (by decide), k2 10 (by decide) (by decide), k2 11 (by decide) (by decide), k2 12 (by decide) (by decide), k2 13 (by decide) (by decide), k2 14 (by decide) (by decide), k2 15 (by decide) (by decide), k2 16 (by decide) (by decide), k2 17 (by decide) (by decide), k2 18 (by decide) (by decide)]; exact g4
  · simp only [k1 0 (by decide), k1 1 (by decide), k1 2 (by decide), k1 3 (by decide), k1 4 (by decide), k1 5 (by decide), k1 6 (by decide), k1 7 (by decide), k2 0 (by decide) (by decide), k2 1 (by decide) (by decide), k2 2 (by decide) (by decide), k2 3 (by decide) (by decide), k2 4 (by decide) (by decide), k2 5 (by decide) (by decide), k2 6 (by decide) (by decide), k2 7 (by decide) (by decide), k2 8 (by decide) (by decide), k2 9 (by decide) (by decide), k2 10 (by decide) (by decide), k2 11 (by decide) (by decide), k2 12 (by decide) (by decide), k2 13 (by decide) (by decide), k2 14 (by decide) (by decide), k2 15 (by decide) (by decide), k2 16 (by decide) (by decide), k2 17 (by decide) (by decide), k2 18 (by decide) (by decide)]; exact g5
  · simp only [k1 0 (by decide), k1 1 (by decide), k1 2 (by decide), k1 3 (by decide), k1 4 (by decide), k1 5 (by decide), k1 6 (by decide), k1 7 (by decide), k2 0 (by decide) (by decide), k2 1 (by decide) (by decide), k2 2 (by decide) (by decide), k2 3 (by decide) (by decide), k2 4 (by decide) (by decide), k2 5 (by decide) (by decide), k2 6 (by decide) (by decide), k2 7 (by decide) (by decide), k2 8 (by decide) (by decide), k2 9 (by decide) (by decide), k2 10 (by decide) (by decide), k2 11 (by decide) (by decide), k2 12 (by decide) (by decide), k2 13 (by decide) (by decide), k2 14 (by decide) (by decide), k2 15 (by decide) (by decide), k2 16 (by decide) (by decide), k2 17 (by decide) (by decide), k2 18 (by decide) (by decide)]; exact g6
  · simp only [k1 0 (by decide), k1 1 (by decide), k1 2 (by decide), k1 3 (by decide), k1 4 (by decide), k1 5 (by decide), k1 6 (by decide), k1 7 (by decide), k2 0 (by decide) (by decide), k2 1 (by decide) (by decide), k2 2 (by decide) (by decide), k2 3 (by decide) (by decide), k2 4 (by decide) (by decide), k2 5 (by decide) (by decide), k2 6 (by decide) (by decide), k2 7 (by decide) (by decide), k2 8 (by decide) (by decide), k2 9 (by decide) (by decide), k2 10 (by decide) (by decide), k2 11 (by decide) (by decide), k2 12 (by decide) (by decide), k2 13 (by decide) (by decide), k2 14 (by decide) (by decide), k2 15 (by decide) (by decide), k2 16 (by decide) (by decide), k2 17 (by decide) (by decide), k2 18 (by decide) (by decide)]; exact g7
def PreOK (ch pre : List (Option Fi)) (m9 g9 : Nat → Int32) (n : Nat) : Prop := pre.length = n ∧ ∀ y, y < n → (ch[y]? = some none → pre[y]? = some none) ∧ ∀ kd rl sm sg : Int32, ch[y]? = some (some (kd, rl, sm, sg)) → pre[y]? = some (some (kd, rl, m9 y, g9 y))
theorem PreOK.step {ch pre : List (Option Fi)} {m9 g9 m8 g8 : Nat → Int32} {n : Nat} {oo : Option Fi} (h : PreOK ch pre m9 g9 n) (hs : ∀ y, y < n → m8 y = m9 y ∧ g8 y = g9 y) (hn : (ch[n]? = some none ∧ oo = none) ∨ ∃ kd rl sm sg : Int32, ch[n]? = some (some (kd, rl, sm, sg)) ∧ oo = some (kd, rl, m8 n, g8 n)) : PreOK ch (pre ++ [oo]) m8 g8 (n + 1) := by
  obtain ⟨h0, h1⟩ := h
  refine ⟨by simp [h0], fun y hy => ?_⟩
  by_cases z : y = n
  · subst z
    have eq9 : (pre ++ [oo])[y]? = some oo := by rw [← h0]; simp
    rw [eq9]
    rcases hn with ⟨h2, rfl⟩ | ⟨kd, rl, sm, sg, h2, rfl⟩
    · exact ⟨fun _ => rfl, fun kd rl sm sg h3 => by rw [h2] at h3; cases h3⟩
    · exact ⟨fun h3 => (by rw [h2] at h3; cases h3), fun kd2 rl2 sm2 sg2 h3 => by rw [h2] at h3; cases h3; rfl⟩
  · rw [List.getElem?_append_left (by omega)]
    have h2 := h1 y (by omega)
    exact ⟨h2.1, fun kd rl sm sg h3 => by rw [(hs y (by omega)).1, (hs y (by omega)).2]; exact h2.2 kd rl sm sg h3⟩
theorem PreOK.mrc {ch pre : List (Option Fi)} {c9 r9 m9 g9 c8 r8 m8 g8 : Nat → Int32} (h : PreOK ch pre m8 g8 8) (hc : MrC c9 r9 m9 g9 ch) (ec : c8 = c9) (er : r8 = r9) : MrC c8 r8 m8 g8 pre := by
  obtain ⟨h0, h1⟩ := h
  obtain ⟨k0, k1, k2⟩ := hc
  subst ec
  subst er
  refine ⟨h0, fun y hy => ?_, fun y fi hy => ?_⟩
  · have hyl : y < 8 := by have := (List.getElem?_eq_some_iff.mp hy).1; omega
    obtain ⟨oo, ho⟩ : ∃ oo, ch[y]? = some oo := ⟨ch[y]'(by omega), List.getElem?_eq_getElem (by omega)⟩
    cases oo with
    | none => exact k1 y ho
    | some f2 =>
      obtain ⟨kd, rl, sm, sg⟩ := f2
      rw [(h1 y hyl).2 kd rl sm sg ho] at hy
      cases hy
  · have hyl : y < 8 := by have := (List.getElem?_eq_some_iff.mp hy).1; omega
    obtain ⟨oo, ho⟩ : ∃ oo, ch[y]? = some oo := ⟨ch[y]'(by omega), List.getElem?_eq_getElem (by omega)⟩
    cases oo with
    | none => rw [(h1 y hyl).1 ho] at hy; cases hy
    | some f2 =>
      obtain ⟨kd, rl, sm, sg⟩ := f2
      rw [(h1 y hyl).2 kd rl sm sg ho] at hy
      cases hy
      obtain ⟨b1, b2, -, -⟩ := k2 y _ ho
      exact ⟨b1, b2, rfl, rfl⟩
set_option maxRecDepth 100000 in
set_option maxHeartbeats 4000000 in
theorem m_run (l : Launch) (G : xG) {h : xh} {o : Nat} {u : List Int32} {km : Nat} {src lat : List Sg} {fo : List Fo} {pa : List Pr} {ze : List Int32} {ra : List Rg} {sr : List Sr} {ch : List (Option Fi)} (hS : Ms G h o (u, km, src, lat, (fo, pa, ze, ra, sr), ch)) : Ct l G yX9_run cX9_run 2 (Option.some Jvm.ClassFile.FieldType.int) { frames := 4, cells := 0, slots := 0, locals := 94 } [.ref o] h (fun r h' => OpM G o h (opRun (u, km, src, lat, (fo, pa, ze, ra, sr), ch)) r h') := by
  obtain ⟨I, A, hM, hR⟩ := id hS
  have hf : Mf o h h := Fr.rf
  obtain ⟨hU, hSr, hFo, hPa, hZe, hRa, hSt, hCh, hOu⟩ := id hR
  dsimp only at hU hSr hFo hPa hZe hRa hSt hCh hOu
  have hsl := hSr.2.1
  refine Ct.of [some (.ref o), none] (by decide +kernel) (Nat.le_of_ble_eq_true rfl) (fun p e s m args below meth c bs C hini => ?_)
  have loopD : ∀ (q : List Sg) (pre : List (Option Fi)), q.length ≤ 300 → runL (fo, pa, ze, ra, sr) ch src = some (q, pre) → ∀ (n k : Nat) (h1 : xh) (I1 : Nat → Int32) (A1 : Nat → Nat → Int32), q.length - k < n → k ≤ q.length → MO G h1 o I1 A1 → K4 I I1 A A1 → I1 8 = nI q.length → MrS (I1 9) (A1 26) (A1 27) (A1 28) q 300 → MrC (A1 17) (A1 18) (A1 19) (A1 20) pre → (∀ y, y < k → A1 23 y = A1 26 y ∧ A1 24 y = A1 27 y ∧ A1 25 y = A1 28 y) → Mf o h h1 → X p l e { frames := 4, cells := 0, slots := 0, locals := 94 } s m args below meth c G bs (MQ below (x_Q G bs (fun r h' => OpM G o h (opRun (u, km, src, lat, (fo, pa, ze, ra, sr), ch)) r h')) args s 0 0 (fun q => bs ≤ q)) 0 0 156 [some (.ref o), some (.int (nI k))] [] h1 := by
    intro q pre hq hrun n
    induction n with
    | zero => intro k h1 I1 A1 hn; omega
    | succ n ih =>
      intro k h1 I1 A1 hn hk hM hk4 hI8 hQ hC hcp hf
      refine x_iload_n C dX9_run_156 (kk := ?_)
      refine x_aload_n C dX9_run_157 (kk := ?_)
      refine x_get C fl_X9_194 dX9_run_158 (hh := hM.1) (kk := ?_)
      refine x_top _ hQ.1 ?_
      refine x_ncmp_ge C k q.length dX9_run_161 206 (fun hc161 => ?_) (fun hc161 => ?_)
      · have lt : ∀ (y : Nat) (π : Sg → Int32) (v : Int32), (q.map π)[y]? = some v → y < k := fun y π v hv => by have := (List.getElem?_eq_some_iff.mp hv).1; simp at this; omega
        have hO : MrS (I1 8) (A1 23) (A1 24) (A1 25) q 300 := ⟨hI8, hq, fun y v hv => (hcp y (lt y _ v hv)).1.trans (hQ.2.2.1 y v hv), fun y v hv => (hcp y (lt y _ v hv)).2.1.trans (hQ.2.2.2.1 y v hv), fun y v hv => (hcp y (lt y _ v hv)).2.2.trans (hQ.2.2.2.2 y v hv)⟩
        refine x_aload_n C dX9_run_206 (kk := ?_)
        refine x_get C fl_X9_226 dX9_run_207 (hh := hM.1) (kk := ?_)
        refine x_top _ hI8 ?_
        refine x_iret C rfl dX9_run_210 (hp := ?_)
        exact ⟨by simp only [opRun, hrun], by simp only [opRun, hrun]; exact ⟨I1, A1, hM, hk4.mr hR hC hO⟩, hf⟩
      refine x_aload_n C dX9_run_164 (kk := ?_)
      refine x_get C fl_X9_79 dX9_run_165 (hh := hM.1) (kk := ?_)
      refine x_iload_n C dX9_run_168 (kk := ?_)
      refine x_aload_n C dX9_run_169 (kk := ?_)
      refine x_get C fl_X9_88 dX9_run_170 (hh := hM.1) (kk := ?_)
      refine x_iload_n C dX9_run_173 (kk := ?_)
      refine x_mld C 26 (k) hM dX9_run_174 rfl (n := 300) (by omega) (kk := ?_)
      refine x_mst C 23 (k) hM hf dX9_run_175 rfl (n := 300) (by omega) (kk := fun h hM hf => ?_)
      refine x_aload_n C dX9_run_176 (kk := ?_)
      refine x_get C fl_X9_82 dX9_run_177 (hh := hM.1) (kk := ?_)
      refine x_iload_n C dX9_run_180 (kk := ?_)
      refine x_aload_n C dX9_run_181 (kk := ?_)
      refine x_get C fl_X9_91 dX9_run_182 (hh := hM.1) (kk := ?_)
      refine x_iload_n C dX9_run_185 (kk := ?_)
      refine x_mld C 27 (k) hM dX9_run_186 rfl (n := 300) (by omega) (kk := ?_)
      refine x_mst C 24 (k) hM hf dX9_run_187 rfl (n := 300) (by omega) (kk := fun h hM hf => ?_)
      refine x_aload_n C dX9_run_188 (kk := ?_)
      refine x_get C fl_X9_85 dX9_run_189 (hh := hM.1) (kk := ?_)
      refine x_iload_n C dX9_run_192 (kk := ?_)
      refine x_aload_n C dX9_run_193 (kk := ?_)
      refine x_get C fl_X9_94 dX9_run_194 (hh := hM.1) (kk := ?_)
      refine x_iload_n C dX9_run_197 (kk := ?_)
      refine x_mld C 28 (k) hM dX9_run_198 rfl (n := 300) (by omega) (kk := ?_)
      refine x_mst C 25 (k) hM hf dX9_run_199 rfl (n := 300) (by omega) (kk := fun h hM hf => ?_)
      refine x_iinc1 C dX9_run_200 (kk := ?_)
      refine x_goto C dX9_run_203 156 ?_
      exact ih (k + 1) _ _ _ (by omega) (by omega) hM ⟨hk4.1, fun k h1 h2 => (upF_un (by omega)).trans ((upF_un (by omega)).trans ((upF_un (by omega)).trans (hk4.2 k h1 h2)))⟩ hI8 hQ hC (fun y hy => by
        by_cases z : y = k
        · subst z; exact ⟨pk_us, pk_us, pk_us⟩
        · have := hcp y (by omega)
          exact ⟨(pk_un z).trans this.1, (pk_un z).trans this.2.1, (pk_un z).trans this.2.2⟩) hf
  have loopC : ∀ (q : List Sg) (pre : List (Option Fi)), q.length ≤ 300 → runL (fo, pa, ze, ra, sr) ch src = some (q, pre) → ∀ (n k : Nat) (h1 : xh) (I1 : Nat → Int32) (A1 : Nat → Nat → Int32), 8 - k < n → k ≤ 8 → MO G h1 o I1 A1 → K4 I I1 A A1 → MrS (I1 9) (A1 26) (A1 27) (A1 28) q 300 → PreOK ch pre (A1 21) (A1 22) 8 → (∀ y, y < k → A1 19 y = A1 21 y ∧ A1 20 y = A1 22 y) → Mf o h h1 → X p l e { frames := 4, cells := 0, slots := 0, locals := 94 } s m args below meth c G bs (MQ below (x_Q G bs (fun r h' => OpM G o h (opRun (u, km, src, lat, (fo, pa, ze, ra, sr), ch)) r h')) args s 0 0 (fun q => bs ≤ q)) 0 0 110 [some (.ref o), some (.int (nI k))] [] h1 := by
    intro q pre hq hrun n
    induction n with
    | zero => intro k h1 I1 A1 hn; omega
    | succ n ih =>
      intro k h1 I1 A1 hn hk hM hk4 hQ hP hcp hf
      refine x_iload_n C dX9_run_110 (kk := ?_)
      refine x_bipush C dX9_run_111 (v := 8) (kk := ?_)
      refine x_ncmp_ge C k 8 dX9_run_113 146 (fun hc113 => ?_) (fun hc113 => ?_)
      · have hP2 : PreOK ch pre (A1 19) (A1 20) 8 := ⟨hP.1, fun y hy => ⟨(hP.2 y hy).1, fun kd rl sm sg h3 => by rw [(hcp y (by omega)).1, (hcp y (by omega)).2]; exact (hP.2 y hy).2 kd rl sm sg h3⟩⟩
        have hC : MrC (A1 17) (A1 18) (A1 19) (A1 20) pre := hP2.mrc hCh (hk4.2 17 (by decide) (by decide)) (hk4.2 18 (by decide) (by decide))
        refine x_aload_n C dX9_run_146 (kk := ?_)
        refine x_aload_n C dX9_run_147 (kk := ?_)
        refine x_get C fl_X9_194 dX9_run_148 (hh := hM.1) (kk := ?_)
        refine x_top _ hQ.1 ?_
        refine x_mpi C 8 hM hf fp_X9_226 dX9_run_151 (kk := fun h hM hf => ?_)
        refine x_iconst C dX9_run_154 (v := 0) (kk := ?_)
        refine x_istore_n C dX9_run_155 (kk := ?_)
        exact loopD q pre hq hrun (q.length + 1) 0 _ _ _ (by omega) (by omega) hM ⟨fun j h1 => (pk_un (by omega)).trans (hk4.1 j h1), hk4.2⟩ pk_us hQ hC (fun y hy => absurd hy (Nat.not_lt_zero y)) hf
      refine x_aload_n C dX9_run_116 (kk := ?_)
      refine x_get C fl_X9_67 dX9_run_117 (hh := hM.1) (kk := ?_)
      refine x_iload_n C dX9_run_120 (kk := ?_)
      refine x_aload_n C dX9_run_121 (kk := ?_)
      refine x_get C fl_X9_73 dX9_run_122 (hh := hM.1) (kk := ?_)
      refine x_iload_n C dX9_run_125 (kk := ?_)
      refine x_mld C 21 (k) hM dX9_run_126 rfl (n := 8) (by omega) (kk := ?_)
      refine x_mst C 19 (k) hM hf dX9_run_127 rfl (n := 8) (by omega) (kk := fun h hM hf => ?_)
      refine x_aload_n C dX9_run_128 (kk := ?_)
      refine x_get C fl_X9_70 dX9_run_129 (hh := hM.1) (kk := ?_)
      refine x_iload_n C dX9_run_132 (kk := ?_)
      refine x_aload_n C dX9_run_133 (kk := ?_)
      refine x_get C fl_X9_76 dX9_run_134 (hh := hM.1) (kk := ?_)
      refine x_iload_n C dX9_run_137 (kk := ?_)
      refine x_mld C 22 (k) hM dX9_run_138 rfl (n := 8) (by omega) (kk := ?_)
      refine x_mst C 20 (k) hM hf dX9_run_139 rfl (n := 8) (by omega) (kk := fun h hM hf => ?_)
      refine x_iinc1 C dX9_run_140 (kk := ?_)
      refine x_goto C dX9_run_143 110 ?_
      exact ih (k + 1) _ _ _ (by omega) (by omega) hM ⟨hk4.1, fun k h1 h2 => (upF_un (by omega)).trans ((upF_un (by omega)).trans (hk4.2 k h1 h2))⟩ hQ hP (fun y hy => by
        by_cases z : y = k
        · subst z; exact ⟨pk_us, pk_us⟩
        · have := hcp y (by omega)
          exact ⟨(pk_un z).trans this.1, (pk_un z).trans this.2⟩) hf
  have loopB : ∀ (n k : Nat) (h1 : xh) (I1 : Nat → Int32) (A1 : Nat → Nat → Int32) (q : List Sg) (pre : List (Option Fi)), 8 - k < n → k ≤ 8 → MO G h1 o I1 A1 → Kr I I1 A A1 → MrS (I1 9) (A1 26) (A1 27) (A1 28) q 300 → PreOK ch pre (A1 21) (A1 22) k → runL (fo, pa, ze, ra, sr) ch src = (runL (fo, pa, ze, ra, sr) (ch.drop k) q).map (fun z => (z.1, pre ++ z.2)) → Mf o h h1 → X p l e { frames := 4, cells := 0, slots := 0, locals := 94 } s m args below meth c G bs (MQ below (x_Q G bs (fun r h' => OpM G o h (opRun (u, km, src, lat, (fo, pa, ze, ra, sr), ch)) r h')) args s 0 0 (fun q => bs ≤ q)) 0 0 62 [some (.ref o), some (.int (nI k))] [] h1 := by
    intro n
    induction n with
    | zero => intro k h1 I1 A1 q pre hn; omega
    | succ n ih =>
      intro k h1 I1 A1 q pre hn hk hM hkr hQ hP hrun hf
      have hc8 := hCh.1
      refine x_iload_n C dX9_run_62 (kk := ?_)
      refine x_bipush C dX9_run_63 (v := 8) (kk := ?_)
      refine x_ncmp_ge C k 8 dX9_run_65 108 (fun hc65 => ?_) (fun hc65 => ?_)
      · have hk8 : k = 8 := by omega
        subst hk8
        rw [List.drop_eq_nil_of_le (by omega)] at hrun
        simp only [runL, Option.map_some, List.append_nil] at hrun
        refine x_iconst C dX9_run_108 (v := 0) (kk := ?_)
        refine x_istore_n C dX9_run_109 (kk := ?_)
        exact loopC q pre hQ.2.1 hrun 9 0 _ _ _ (by omega) (by omega) hM hkr.f hQ hP (fun y hy => absurd hy (Nat.not_lt_zero y)) hf
      obtain ⟨oo, ho⟩ : ∃ oo, ch[k]? = some oo := ⟨ch[k]'(by omega), List.getElem?_eq_getElem (by omega)⟩
      rw [drop_at ho] at hrun
      refine x_aload_n C dX9_run_68 (kk := ?_)
      refine x_get C fl_X9_73 dX9_run_69 (hh := hM.1) (kk := ?_)
      refine x_iload_n C dX9_run_72 (kk := ?_)
      refine x_iconst C dX9_run_73 (v := 0) (kk := ?_)
      refine x_mst C 21 (k) hM hf dX9_run_74 rfl (n := 8) (by omega) (kk := fun h hM hf => ?_)
      refine x_aload_n C dX9_run_75 (kk := ?_)
      refine x_get C fl_X9_76 dX9_run_76 (hh := hM.1) (kk := ?_)
      refine x_iload_n C dX9_run_79 (kk := ?_)
      refine x_iconst C dX9_run_80 (v := 0) (kk := ?_)
      refine x_mst C 22 (k) hM hf dX9_run_81 rfl (n := 8) (by omega) (kk := fun h hM hf => ?_)
      refine x_aload_n C dX9_run_82 (kk := ?_)
      refine x_get C fl_X9_61 dX9_run_83 (hh := hM.1) (kk := ?_)
      refine x_iload_n C dX9_run_86 (kk := ?_)
      refine x_mld C 17 k hM dX9_run_87 rfl (n := 8) (by omega) (kk := ?_)
      have hkr2 : Kr I1 _ A1 _ := ⟨fun _ _ => rfl, fun j h1 h2 h3 => (upF_un (A := upF A1 21 (upd (A1 21) k 0)) (f := upd (A1 22) k 0) h3).trans (upF_un h2)⟩
      have hkr3 := hkr.tr hkr2
      cases oo with
      | none =>
        refine x_top _ ((congrFun (hkr.2 17 (by decide) (by decide) (by decide)) k).trans (hCh.2.1 k ho)) ?_
        refine x_if_le C dX9_run_88 102 (fun _ => ?_) (fun z => absurd (by decide) z)
        rw [runL_cons_none] at hrun
        refine x_iinc1 C dX9_run_102 (kk := ?_)
        refine x_goto C dX9_run_105 62 ?_
        exact ih (k + 1) _ _ _ q (pre ++ [none]) (by omega) (by omega) hM hkr3 hQ (hP.step (fun y hy => ⟨pk_un (by omega), pk_un (by omega)⟩) (Or.inl ⟨ho, rfl⟩)) (by rw [hrun, Option.map_map]; congr 1; funext z; simp) hf
      | some fi =>
        obtain ⟨kd, rl, sm, sg⟩ := fi
        obtain ⟨⟨k2, hk6, hke, hck⟩, -⟩ := hCh.2.2 k _ ho
        dsimp only at hke
        subst hke
        refine x_top _ ((congrFun (hkr.2 17 (by decide) (by decide) (by decide)) k).trans hck) ?_
        refine x_if_le C dX9_run_88 102 (fun z => absurd z (Int32.not_le.mpr (nI_lt (a := 0) (b := k2 + 1) (by omega) (by omega)))) (fun _ => ?_)
        rw [runL_cons] at hrun
        dsimp only at hrun
        refine x_aload_n C dX9_run_91 (kk := ?_)
        refine x_iload_n C dX9_run_92 (kk := ?_)
        refine x_callV C ml_X9_goesThrough lk_X9_223 (m_goesThrough (q := q) l G hk6 (hkr3.mr hR) ho (by exact pk_us) (by exact pk_us) (by exact hQ) hM) dX9_run_93 (fun r93 h93 hp93 => ?_) (hh := hM.1)
        rcases hp93 with ⟨hlo, rfl, ⟨I2, A2, hM, hkr4⟩, hfl⟩ | ⟨hle, rfl, ⟨I2, A2, hM, hkr4, hQ2, e21, e22⟩, hfl⟩
        · have hf := hf.tr hfl
          rw [if_pos hlo] at hrun
          have hrun2 : runL (fo, pa, ze, ra, sr) ch src = none := hrun
          refine x_if_ne C dX9_run_96 102 (fun z => absurd rfl z) (fun _ => ?_)
          refine x_bipush C dX9_run_99 (v := -3) (kk := ?_)
          refine x_iret C rfl dX9_run_101 (hp := ?_)
          exact ⟨by simp only [opRun, hrun2], by simp only [opRun, hrun2]; exact ⟨I2, A2, hM, (hkr3.tr hkr4).mr hR⟩, hf⟩
        have hf := hf.tr hfl
        rw [if_neg (Nat.not_lt.mpr hle)] at hrun
        refine x_if_ne C dX9_run_96 102 (fun _ => ?_) (fun z => absurd z (by decide))
        refine x_iinc1 C dX9_run_102 (kk := ?_)
        refine x_goto C dX9_run_105 62 ?_
        exact ih (k + 1) _ _ _ _ (pre ++ [some (nI k2, rl, (pas (fo, pa, ze, ra, sr) (nI k2) rl q).2.1, (pas (fo, pa, ze, ra, sr) (nI k2) rl q).2.2)]) (by omega) (by omega) hM (hkr3.tr hkr4) hQ2 (hP.step (fun y hy => ⟨by rw [e21]; exact (pk_un (by omega)).trans (pk_un (by omega)), by rw [e22]; exact (pk_un (by omega)).trans (pk_un (by omega))⟩) (Or.inr ⟨_, _, _, _, ho, by rw [e21, e22, pk_us, pk_us]⟩)) (by rw [hrun, Option.map_map]; congr 1; funext z; simp) hf
  have loopA : ∀ (n k : Nat) (h1 : xh) (I1 : Nat → Int32) (A1 : Nat → Nat → Int32), src.length - k < n → k ≤ src.length → MO G h1 o I1 A1 → Kr I I1 A A1 → I1 9 = nI src.length → (∀ y, y < k → A1 26 y = A1 1 y ∧ A1 27 y = A1 2 y ∧ A1 28 y = A1 3 y) → Mf o h h1 → X p l e { frames := 4, cells := 0, slots := 0, locals := 94 } s m args below meth c G bs (MQ below (x_Q G bs (fun r h' => OpM G o h (opRun (u, km, src, lat, (fo, pa, ze, ra, sr), ch)) r h')) args s 0 0 (fun q => bs ≤ q)) 0 0 10 [some (.ref o), some (.int (nI k))] [] h1 := by
    intro n
    induction n with
    | zero => intro k h1 I1 A1 hn; omega
    | succ n ih =>
      intro k h1 I1 A1 hn hk hM hkr hI9 hcp hf
      refine x_iload_n C dX9_run_10 (kk := ?_)
      refine x_aload_n C dX9_run_11 (kk := ?_)
      refine x_get C fl_X9_135 dX9_run_12 (hh := hM.1) (kk := ?_)
      refine x_top _ ((hkr.1 2 (by decide)).trans hSr.1) ?_
      refine x_ncmp_ge C k src.length dX9_run_15 60 (fun hc15 => ?_) (fun hc15 => ?_)
      · have lt : ∀ (y : Nat) (π : Sg → Int32) (v : Int32), (src.map π)[y]? = some v → y < k := fun y π v hv => by have := (List.getElem?_eq_some_iff.mp hv).1; simp at this; omega
        have hQ : MrS (I1 9) (A1 26) (A1 27) (A1 28) src 300 := ⟨hI9, by omega, fun y v hv => (hcp y (lt y _ v hv)).1.trans ((congrFun (hkr.2 1 (by decide) (by decide) (by decide)) y).trans (hSr.2.2.1 y v hv)), fun y v hv => (hcp y (lt y _ v hv)).2.1.trans ((congrFun (hkr.2 2 (by decide) (by decide) (by decide)) y).trans (hSr.2.2.2.1 y v hv)), fun y v hv => (hcp y (lt y _ v hv)).2.2.trans ((congrFun (hkr.2 3 (by decide) (by decide) (by decide)) y).trans (hSr.2.2.2.2 y v hv))⟩
        refine x_iconst C dX9_run_60 (v := 0) (kk := ?_)
        refine x_istore_n C dX9_run_61 (kk := ?_)
        exact loopB 9 0 _ _ _ src [] (by omega) (by omega) hM hkr hQ ⟨rfl, fun y hy => absurd hy (Nat.not_lt_zero y)⟩ (by rw [List.drop_zero]; cases runL (fo, pa, ze, ra, sr) ch src <;> simp) hf
      refine x_aload_n C dX9_run_18 (kk := ?_)
      refine x_get C fl_X9_88 dX9_run_19 (hh := hM.1) (kk := ?_)
      refine x_iload_n C dX9_run_22 (kk := ?_)
      refine x_aload_n C dX9_run_23 (kk := ?_)
      refine x_get C fl_X9_13 dX9_run_24 (hh := hM.1) (kk := ?_)
      refine x_iload_n C dX9_run_27 (kk := ?_)
      refine x_mld C 1 (k) hM dX9_run_28 rfl (n := 100) (by omega) (kk := ?_)
      refine x_mst C 26 (k) hM hf dX9_run_29 rfl (n := 300) (by omega) (kk := fun h hM hf => ?_)
      refine x_aload_n C dX9_run_30 (kk := ?_)
      refine x_get C fl_X9_91 dX9_run_31 (hh := hM.1) (kk := ?_)
      refine x_iload_n C dX9_run_34 (kk := ?_)
      refine x_aload_n C dX9_run_35 (kk := ?_)
      refine x_get C fl_X9_16 dX9_run_36 (hh := hM.1) (kk := ?_)
      refine x_iload_n C dX9_run_39 (kk := ?_)
      refine x_mld C 2 (k) hM dX9_run_40 rfl (n := 100) (by omega) (kk := ?_)
      refine x_mst C 27 (k) hM hf dX9_run_41 rfl (n := 300) (by omega) (kk := fun h hM hf => ?_)
      refine x_aload_n C dX9_run_42 (kk := ?_)
      refine x_get C fl_X9_94 dX9_run_43 (hh := hM.1) (kk := ?_)
      refine x_iload_n C dX9_run_46 (kk := ?_)
      refine x_aload_n C dX9_run_47 (kk := ?_)
      refine x_get C fl_X9_19 dX9_run_48 (hh := hM.1) (kk := ?_)
      refine x_iload_n C dX9_run_51 (kk := ?_)
      refine x_mld C 3 (k) hM dX9_run_52 rfl (n := 100) (by omega) (kk := ?_)
      refine x_mst C 28 (k) hM hf dX9_run_53 rfl (n := 300) (by omega) (kk := fun h hM hf => ?_)
      refine x_iinc1 C dX9_run_54 (kk := ?_)
      refine x_goto C dX9_run_57 10 ?_
      exact ih (k + 1) _ _ _ (by omega) (by omega) hM ⟨hkr.1, fun k h1 h2 h3 => (upF_un (by omega)).trans ((upF_un (by omega)).trans ((upF_un (by omega)).trans (hkr.2 k h1 h2 h3)))⟩ hI9 (fun y hy => by
        by_cases z : y = k
        · subst z; exact ⟨pk_us, pk_us, pk_us⟩
        · have := hcp y (by omega)
          exact ⟨(pk_un z).trans this.1, (pk_un z).trans this.2.1, (pk_un z).trans this.2.2⟩) hf
  refine x_aload_n C dX9_run_0 (kk := ?_)
  refine x_aload_n C dX9_run_1 (kk := ?_)
  refine x_get C fl_X9_135 dX9_run_2 (hh := hM.1) (kk := ?_)
  refine x_top _ hSr.1 ?_
  refine x_mpi C 9 hM hf fp_X9_194 dX9_run_5 (kk := fun h hM hf => ?_)
  refine x_iconst C dX9_run_8 (v := 0) (kk := ?_)
  refine x_istore_n C dX9_run_9 (kk := ?_)
  exact loopA (src.length + 1) 0 _ _ _ (by omega) (by omega) hM ⟨fun k h1 => pk_un (by omega), fun _ _ _ _ => rfl⟩ pk_us (fun y hy => absurd hy (Nat.not_lt_zero y)) hf
