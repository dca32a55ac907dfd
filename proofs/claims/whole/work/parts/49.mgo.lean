/-! THE REFERENCE, IX: a row goes through a filter -/
def Kr (I I2 : Nat → Int32) (A A2 : Nat → Nat → Int32) : Prop := (∀ k, k < 9 → I2 k = I k) ∧ ∀ k, k < 26 → k ≠ 21 → k ≠ 22 → A2 k = A k
theorem Kp.r {I I2 : Nat → Int32} {A A2 : Nat → Nat → Int32} (k : Kp I I2 A A2) : Kr I I2 A A2 := ⟨fun j h => k.1 j (by omega), fun j h1 h2 h3 => k.2 j (by omega) h2 h3⟩
theorem Kr.rf {I : Nat → Int32} {A : Nat → Nat → Int32} : Kr I I A A := ⟨fun _ _ => rfl, fun _ _ _ _ => rfl⟩
theorem Kr.tr {I I1 I2 : Nat → Int32} {A A1 A2 : Nat → Nat → Int32} (a : Kr I I1 A A1) (b : Kr I1 I2 A1 A2) : Kr I I2 A A2 := ⟨fun k h => (b.1 k h).trans (a.1 k h), fun k h1 h2 h3 => (b.2 k h1 h2 h3).trans (a.2 k h1 h2 h3)⟩
theorem Kr.mr {I I2 : Nat → Int32} {A A2 : Nat → Nat → Int32} {a : Ab} (k : Kr I I2 A A2) (h : Mr I A a) : Mr I2 A2 a := by
  obtain ⟨k1, k2⟩ := k
  unfold Mr at *
  simp only [k1 0 (by decide), k1 1 (by decide), k1 2 (by decide), k1 3 (by decide), k1 4 (by decide), k1 5 (by decide), k1 6 (by decide), k1 7 (by decide), k1 8 (by decide), k2 0 (by decide) (by decide) (by decide), k2 1 (by decide) (by decide) (by decide), k2 2 (by decide) (by decide) (by decide), k2 3 (by decide) (by decide) (by decide), k2 4 (by decide) (by decide) (by decide), k2 5 (by decide) (by decide) (by decide), k2 6 (by decide) (by decide) (by decide), k2 7 (by decide) (by decide) (by decide), k2 8 (by decide) (by decide) (by decide), k2 9 (by decide) (by decide) (by decide), k2 10 (by decide) (by decide) (by decide), k2 11 (by decide) (by decide) (by decide), k2 12 (by decide) (by decide) (by decide), k2 13 (by decide) (by decide) (by decide), k2 14 (by decide) (by decide) (by decide), k2 15 (by decide) (by decide) (by decide), k2 16 (by decide) (by decide) (by decide), k2 17 (by decide) (by decide) (by decide), k2 18 (by decide) (by decide) (by decide), k2 19 (by decide) (by decide) (by decide), k2 20 (by decide) (by decide) (by decide), k2 23 (by decide) (by decide) (by decide), k2 24 (by decide) (by decide) (by decide), k2 25 (by decide) (by decide) (by decide)]
  exact h
section SK
variable {ts : TS} {rl : Int32} {q : List Sg} {i : Nat} {a : Ac} {x : Sg}
theorem stp_0 : stp ts (nI 0) rl q i a x = (stFold ts.1 a.1 x, a.2) := by unfold stp; rw [if_pos (by decide)]
theorem stp_1 : stp ts (nI 1) rl q i a x = (stComp ts.2.1 a.1 x, a.2) := by unfold stp; rw [if_neg (by decide), if_pos (by decide)]
theorem stp_2 : stp ts (nI 2) rl q i a x = (stDig ts.2.2.1 a.1 x, a.2) := by unfold stp; rw [if_neg (by decide), if_neg (by decide), if_pos (by decide)]
theorem stp_3 : stp ts (nI 3) rl q i a x = (stDrop ts.2.2.2.1 a.1 x, a.2) := by unfold stp; rw [if_neg (by decide), if_neg (by decide), if_neg (by decide), if_pos (by decide)]
theorem stp_4 : stp ts (nI 4) rl q i a x = (if i < a.2 then a else match longest ts.2.2.2.2 (q.map (·.1)) i with
    | none => ((a.1.1 ++ [x], a.1.2), a.2)
    | some s => ((a.1.1 ++ s.2.map (fun v => (v, x.2.1, ((q[i + s.1.length - 1]?).map (·.2.2)).getD 0)), a.1.2.1 + 1, a.1.2.2), i + s.1.length)) := by unfold stp; rw [if_neg (by decide), if_neg (by decide), if_neg (by decide), if_neg (by decide), if_pos (by decide)]; rfl
theorem stp_5 : stp ts (nI 5) rl q i a x = (stHalf rl a.1 x, a.2) := by unfold stp; rw [if_neg (by decide), if_neg (by decide), if_neg (by decide), if_neg (by decide), if_neg (by decide), if_pos (by decide)]
theorem stp_6 : stp ts (nI 6) rl q i a x = (stWide a.1 x, a.2) := by unfold stp; rw [if_neg (by decide), if_neg (by decide), if_neg (by decide), if_neg (by decide), if_neg (by decide), if_neg (by decide)]
theorem iteOr {α : Type} {cc : Prop} [Decidable cc] (y z : α) : (if cc then y else z) = y ∨ (if cc then y else z) = z := by
  by_cases h : cc
  · exact Or.inl (if_pos h)
  · exact Or.inr (if_neg h)
theorem longest_mem {w : List Int32} {s : Sr} : ∀ (ss : List Sr) (best : Option Sr), ss.foldl (lstep w i) best = some s → best = some s ∨ s ∈ ss := by
  intro ss
  induction ss with
  | nil => intro best h; exact Or.inl h
  | cons b t ih =>
    intro best h
    rcases ih _ h with h1 | h1
    · rcases (iteOr _ _ : lstep w i best b = some b ∨ lstep w i best b = best) with h2 | h2
      · have h3 : some b = some s := h2.symm.trans h1
        cases h3
        exact Or.inr (List.mem_cons_self ..)
      · exact Or.inl (h2.symm.trans h1)
    · exact Or.inr (List.mem_cons_of_mem _ h1)
theorem aget_mem {fo : List Fo} {v : Int32} {ps : List Int32} (h : aget fo v = some ps) : ∃ en ∈ fo, en.2 = ps := by
  unfold aget at h
  cases hq : fo.find? (fun en => en.1 == v) with
  | none => rw [hq] at h; cases h
  | some en => rw [hq] at h; cases h; exact ⟨en, List.mem_of_find?_eq_some hq, rfl⟩
theorem comp_up {pa : List Pr} {z : List Sg × Int32 × Int32} : (stComp pa z x).1.length ≤ z.1.length + 1 := by
  unfold stComp
  split
  · simp
  · split
    · simp
    · (simp; try omega)
theorem stp_up {kd : Int32} (hF : ∀ en ∈ ts.1, wfP en.2) (hT : ∀ s ∈ ts.2.2.2.2, s.2.length ≤ 100) : (stp ts kd rl q i a x).1.1.length ≤ a.1.1.length + 100 := by
  unfold stp
  split
  · unfold stFold
    split
    · (simp; try omega)
    · rename_i ps hps
      obtain ⟨en, he, rfl⟩ := aget_mem hps
      have := (hF en he).1
      simp
      omega
  split
  · exact Nat.le_trans comp_up (by omega)
  split
  · unfold stDig; split <;> (simp; try omega)
  split
  · unfold stDrop; split <;> (simp; try omega)
  split
  · split
    · omega
    · split
      · (simp; try omega)
      · rename_i s hs
        have h1 : s ∈ ts.2.2.2.2 := (longest_mem _ _ hs).resolve_left (fun z => by cases z)
        have := hT s h1
        simp
        omega
  split
  · unfold stHalf
    split
    · split <;> (simp; try omega)
    · (simp; try omega)
  · unfold stWide
    split
    · (simp; try omega)
    · split <;> (simp; try omega)
theorem pas_skip {j b : Nat} (hb : (pasN ts (nI 4) rl q j).2 = b) : ∀ d : Nat, j + d ≤ b → pasN ts (nI 4) rl q (j + d) = pasN ts (nI 4) rl q j := by
  intro d
  induction d with
  | zero => intro _; rfl
  | succ d ih =>
    intro hd
    have h1 := ih (by omega)
    cases hx : q[j + d]? with
    | none => rw [← h1]; show pasN ts (nI 4) rl q (j + d + 1) = _; simp [pasN, hx]
    | some y => rw [show j + (d + 1) = j + d + 1 from rfl, pasN_at hx, stp_4, h1, if_pos (by omega)]
end SK
set_option maxRecDepth 100000 in
set_option maxHeartbeats 4000000 in
theorem m_goesThrough (l : Launch) (G : xG) {h : xh} {o : Nat} {I : Nat → Int32} {A : Nat → Nat → Int32} {u : List Int32} {km : Nat} {src lat : List Sg} {fo : List Fo} {pa : List Pr} {ze : List Int32} {ra : List Rg} {sr : List Sr} {ch : List (Option Fi)} {q : List Sg} {pp k : Nat} {rl sm sg : Int32} (hk6 : k ≤ 6) (hm : Mr I A (u, km, src, lat, (fo, pa, ze, ra, sr), ch)) (hfi : ch[pp]? = some (some (nI k, rl, sm, sg))) (h21a : A 21 pp = 0) (h22a : A 22 pp = 0) (hQ : MrS (I 9) (A 26) (A 27) (A 28) q 300) (hM : MO G h o I A) : Ct l G yX9_goesThrough cX9_goesThrough 4 (Option.some Jvm.ClassFile.FieldType.boolean) { frames := 3, cells := 0, slots := 0, locals := 71 } [.ref o, .int (nI pp)] h (fun r h' => (300 < (pas (fo, pa, ze, ra, sr) (nI k) rl q).1.length ∧ r = some (.int 0) ∧ (∃ (I2 : Nat → Int32) (A2 : Nat → Nat → Int32), MO G h' o I2 A2 ∧ Kr I I2 A A2) ∧ Mf o h h') ∨ ((pas (fo, pa, ze, ra, sr) (nI k) rl q).1.length ≤ 300 ∧ r = some (.int 1) ∧ (∃ (I2 : Nat → Int32) (A2 : Nat → Nat → Int32), MO G h' o I2 A2 ∧ Kr I I2 A A2 ∧ MrS (I2 9) (A2 26) (A2 27) (A2 28) (pas (fo, pa, ze, ra, sr) (nI k) rl q).1 300 ∧ A2 21 = upd (A 21) pp (pas (fo, pa, ze, ra, sr) (nI k) rl q).2.1 ∧ A2 22 = upd (A 22) pp (pas (fo, pa, ze, ra, sr) (nI k) rl q).2.2) ∧ Mf o h h')) := by
  have hf : Mf o h h := Fr.rf
  obtain ⟨hUU, hSS, hFo, hPa, hZe, hRa, hSt, hCh, hOu⟩ := id hm
  dsimp only at hUU hSS hFo hPa hZe hRa hSt hCh hOu
  have hpp : pp < 8 := by have h1 := (List.getElem?_eq_some_iff.mp hfi).1; have h2 := hCh.1; omega
  obtain ⟨⟨k9, hk69, hke, hck9⟩, hrl, -⟩ := hCh.2.2 pp _ hfi
  dsimp only at hke hrl
  have hql := hQ.2.1
  refine Ct.of [some (.ref o), some (.int (nI pp)), none, none] (by decide +kernel) (Nat.le_of_ble_eq_true rfl) (fun p e s m args below meth c bs C hini => ?_)
  have tail : k ≤ 6 → ∀ (x2 x3 : Option Value) (h1 : xh) (I1 : Nat → Int32) (A1 : Nat → Nat → Int32), MO G h1 o I1 A1 → Kp I I1 A A1 → A1 21 = upd (A 21) pp (pas (fo, pa, ze, ra, sr) (nI k) rl q).2.1 → A1 22 = upd (A 22) pp (pas (fo, pa, ze, ra, sr) (nI k) rl q).2.2 → MrL (I1 10) (A1 29) (A1 30) (A1 31) (pas (fo, pa, ze, ra, sr) (nI k) rl q).1 → (pas (fo, pa, ze, ra, sr) (nI k) rl q).1.length < 2 ^ 29 → Mf o h h1 → X p l e { frames := 3, cells := 0, slots := 0, locals := 71 } s m args below meth c G bs (MQ below (x_Q G bs (fun r h' => (300 < (pas (fo, pa, ze, ra, sr) (nI k) rl q).1.length ∧ r = some (.int 0) ∧ (∃ (I2 : Nat → Int32) (A2 : Nat → Nat → Int32), MO G h' o I2 A2 ∧ Kr I I2 A A2) ∧ Mf o h h') ∨ ((pas (fo, pa, ze, ra, sr) (nI k) rl q).1.length ≤ 300 ∧ r = some (.int 1) ∧ (∃ (I2 : Nat → Int32) (A2 : Nat → Nat → Int32), MO G h' o I2 A2 ∧ Kr I I2 A A2 ∧ MrS (I2 9) (A2 26) (A2 27) (A2 28) (pas (fo, pa, ze, ra, sr) (nI k) rl q).1 300 ∧ A2 21 = upd (A 21) pp (pas (fo, pa, ze, ra, sr) (nI k) rl q).2.1 ∧ A2 22 = upd (A 22) pp (pas (fo, pa, ze, ra, sr) (nI k) rl q).2.2) ∧ Mf o h h'))) args s 0 0 (fun q => bs ≤ q)) 0 0 101 [some (.ref o), some (.int (nI pp)), x2, x3] [] h1 := by
    intro hk6 x2 x3 h1 I1 A1 hM hkp h21 h22 hL hlen hf
    have copy : ∀ (n j : Nat) (h1 : xh) (I1 : Nat → Int32) (A1 : Nat → Nat → Int32), (pas (fo, pa, ze, ra, sr) (nI k) rl q).1.length - j < n → j ≤ (pas (fo, pa, ze, ra, sr) (nI k) rl q).1.length → (pas (fo, pa, ze, ra, sr) (nI k) rl q).1.length ≤ 300 → MO G h1 o I1 A1 → Kr I I1 A A1 → I1 9 = nI (pas (fo, pa, ze, ra, sr) (nI k) rl q).1.length → MrL (I1 10) (A1 29) (A1 30) (A1 31) (pas (fo, pa, ze, ra, sr) (nI k) rl q).1 → A1 21 = upd (A 21) pp (pas (fo, pa, ze, ra, sr) (nI k) rl q).2.1 → A1 22 = upd (A 22) pp (pas (fo, pa, ze, ra, sr) (nI k) rl q).2.2 → (∀ y, y < j → A1 26 y = A1 29 y ∧ A1 27 y = A1 30 y ∧ A1 28 y = A1 31 y) → Mf o h h1 → X p l e { frames := 3, cells := 0, slots := 0, locals := 71 } s m args below meth c G bs (MQ below (x_Q G bs (fun r h' => (300 < (pas (fo, pa, ze, ra, sr) (nI k) rl q).1.length ∧ r = some (.int 0) ∧ (∃ (I2 : Nat → Int32) (A2 : Nat → Nat → Int32), MO G h' o I2 A2 ∧ Kr I I2 A A2) ∧ Mf o h h') ∨ ((pas (fo, pa, ze, ra, sr) (nI k) rl q).1.length ≤ 300 ∧ r = some (.int 1) ∧ (∃ (I2 : Nat → Int32) (A2 : Nat → Nat → Int32), MO G h' o I2 A2 ∧ Kr I I2 A A2 ∧ MrS (I2 9) (A2 26) (A2 27) (A2 28) (pas (fo, pa, ze, ra, sr) (nI k) rl q).1 300 ∧ A2 21 = upd (A 21) pp (pas (fo, pa, ze, ra, sr) (nI k) rl q).2.1 ∧ A2 22 = upd (A 22) pp (pas (fo, pa, ze, ra, sr) (nI k) rl q).2.2) ∧ Mf o h h'))) args s 0 0 (fun q => bs ≤ q)) 0 0 123 [some (.ref o), some (.int (nI pp)), x2, some (.int (nI j))] [] h1 := by
      intro n
      induction n with
      | zero => intro j h1 I1 A1 hn; omega
      | succ n ih =>
        intro j h1 I1 A1 hn hj hle hM hkr hI9 hL h21 h22 hcp hf
        refine x_iload_n C dX9_goesThrough_123 (kk := ?_)
        refine x_aload_n C dX9_goesThrough_124 (kk := ?_)
        refine x_get C fl_X9_184 dX9_goesThrough_125 (hh := hM.1) (kk := ?_)
        refine x_top _ hL.1 ?_
        refine x_ncmp_ge C j (pas (fo, pa, ze, ra, sr) (nI k) rl q).1.length dX9_goesThrough_128 173 (fun hc128 => ?_) (fun hc128 => ?_)
        · refine x_iconst C dX9_goesThrough_173 (v := 1) (kk := ?_)
          refine x_zret C rfl dX9_goesThrough_174 (Or.inr rfl) (hp := ?_)
          obtain ⟨l0, l1, l2, l3⟩ := hL
          rw [List.take_of_length_le hle] at l1 l2 l3
          have lt : ∀ (y : Nat) (π : Sg → Int32) (v : Int32), ((pas (fo, pa, ze, ra, sr) (nI k) rl q).1.map π)[y]? = some v → y < j := fun y π v hv => by have := (List.getElem?_eq_some_iff.mp hv).1; simp at this; omega
          exact Or.inr ⟨hle, rfl, ⟨I1, A1, hM, hkr, ⟨hI9, hle, fun y v hv => (hcp y (lt y _ v hv)).1.trans (l1 y v hv), fun y v hv => (hcp y (lt y _ v hv)).2.1.trans (l2 y v hv), fun y v hv => (hcp y (lt y _ v hv)).2.2.trans (l3 y v hv)⟩, h21, h22⟩, hf⟩
        refine x_aload_n C dX9_goesThrough_131 (kk := ?_)
        refine x_get C fl_X9_88 dX9_goesThrough_132 (hh := hM.1) (kk := ?_)
        refine x_iload_n C dX9_goesThrough_135 (kk := ?_)
        refine x_aload_n C dX9_goesThrough_136 (kk := ?_)
        refine x_get C fl_X9_97 dX9_goesThrough_137 (hh := hM.1) (kk := ?_)
        refine x_iload_n C dX9_goesThrough_140 (kk := ?_)
        refine x_mld C 29 (j) hM dX9_goesThrough_141 rfl (n := 300) (by omega) (kk := ?_)
        refine x_mst C 26 (j) hM hf dX9_goesThrough_142 rfl (n := 300) (by omega) (kk := fun h hM hf => ?_)
        refine x_aload_n C dX9_goesThrough_143 (kk := ?_)
        refine x_get C fl_X9_91 dX9_goesThrough_144 (hh := hM.1) (kk := ?_)
        refine x_iload_n C dX9_goesThrough_147 (kk := ?_)
        refine x_aload_n C dX9_goesThrough_148 (kk := ?_)
        refine x_get C fl_X9_100 dX9_goesThrough_149 (hh := hM.1) (kk := ?_)
        refine x_iload_n C dX9_goesThrough_152 (kk := ?_)
        refine x_mld C 30 (j) hM dX9_goesThrough_153 rfl (n := 300) (by omega) (kk := ?_)
        refine x_mst C 27 (j) hM hf dX9_goesThrough_154 rfl (n := 300) (by omega) (kk := fun h hM hf => ?_)
        refine x_aload_n C dX9_goesThrough_155 (kk := ?_)
        refine x_get C fl_X9_94 dX9_goesThrough_156 (hh := hM.1) (kk := ?_)
        refine x_iload_n C dX9_goesThrough_159 (kk := ?_)
        refine x_aload_n C dX9_goesThrough_160 (kk := ?_)
        refine x_get C fl_X9_103 dX9_goesThrough_161 (hh := hM.1) (kk := ?_)
        refine x_iload_n C dX9_goesThrough_164 (kk := ?_)
        refine x_mld C 31 (j) hM dX9_goesThrough_165 rfl (n := 300) (by omega) (kk := ?_)
        refine x_mst C 28 (j) hM hf dX9_goesThrough_166 rfl (n := 300) (by omega) (kk := fun h hM hf => ?_)
        refine x_iinc1 C dX9_goesThrough_167 (kk := ?_)
        refine x_goto C dX9_goesThrough_170 123 ?_
        exact ih (j + 1) _ _ _ (by omega) (by omega) hle hM ⟨hkr.1, fun k h1 h2 h3 => (upF_un (by omega)).trans ((upF_un (by omega)).trans ((upF_un (by omega)).trans (hkr.2 k h1 h2 h3)))⟩ hI9 hL h21 h22 (fun y hy => by
          by_cases z : y = j
          · subst z; exact ⟨pk_us, pk_us, pk_us⟩
          · have := hcp y (by omega)
            exact ⟨(pk_un z).trans this.1, (pk_un z).trans this.2.1, (pk_un z).trans this.2.2⟩) hf
    refine x_aload_n C dX9_goesThrough_101 (kk := ?_)
    refine x_get C fl_X9_184 dX9_goesThrough_102 (hh := hM.1) (kk := ?_)
    refine x_top _ hL.1 ?_
    refine x_sipush C dX9_goesThrough_105 (v := 300) (kk := ?_)
    refine x_ncmp_le C (pas (fo, pa, ze, ra, sr) (nI k) rl q).1.length 300 dX9_goesThrough_108 113 (fun hc108 => ?_) (fun hc108 => ?_)
    · refine x_aload_n C dX9_goesThrough_113 (kk := ?_)
      refine x_aload_n C dX9_goesThrough_114 (kk := ?_)
      refine x_get C fl_X9_184 dX9_goesThrough_115 (hh := hM.1) (kk := ?_)
      refine x_top _ hL.1 ?_
      refine x_mpi C 9 hM hf fp_X9_194 dX9_goesThrough_118 (kk := fun h hM hf => ?_)
      refine x_iconst C dX9_goesThrough_121 (v := 0) (kk := ?_)
      refine x_istore_n C dX9_goesThrough_122 (kk := ?_)
      exact copy ((pas (fo, pa, ze, ra, sr) (nI k) rl q).1.length + 1) 0 _ _ _ (by omega) (by omega) hc108 hM ⟨fun k h1 => (pk_un (by omega)).trans (hkp.1 k (by omega)), hkp.r.2⟩ pk_us hL h21 h22 (fun y hy => absurd hy (Nat.not_lt_zero y)) hf
    · refine x_iconst C dX9_goesThrough_111 (v := 0) (kk := ?_)
      refine x_zret C rfl dX9_goesThrough_112 (by first | exact Or.inl rfl | exact Or.inr rfl | assumption | exact ite01 _) (hp := ?_)
      exact Or.inl ⟨hc108, rfl, ⟨I1, A1, hM, hkp.r⟩, hf⟩
  have loop : k ≤ 6 → A 17 pp = nI (k + 1) → ∀ (n i : Nat) (h1 : xh) (I1 : Nat → Int32) (A1 : Nat → Nat → Int32) (x3 : Option Value), q.length - i < n → i ≤ q.length → MO G h1 o I1 A1 → Kp I I1 A A1 → A1 21 = upd (A 21) pp (pasN (fo, pa, ze, ra, sr) (nI k) rl q i).1.2.1 → A1 22 = upd (A 22) pp (pasN (fo, pa, ze, ra, sr) (nI k) rl q i).1.2.2 → MrL (I1 10) (A1 29) (A1 30) (A1 31) (pasN (fo, pa, ze, ra, sr) (nI k) rl q i).1.1 → (pasN (fo, pa, ze, ra, sr) (nI k) rl q i).1.1.length ≤ 100 * i → (k = 1 → (pasN (fo, pa, ze, ra, sr) (nI k) rl q i).1.1.length ≤ i) → (pasN (fo, pa, ze, ra, sr) (nI k) rl q i).2 ≤ i → Mf o h h1 → X p l e { frames := 3, cells := 0, slots := 0, locals := 71 } s m args below meth c G bs (MQ below (x_Q G bs (fun r h' => (300 < (pas (fo, pa, ze, ra, sr) (nI k) rl q).1.length ∧ r = some (.int 0) ∧ (∃ (I2 : Nat → Int32) (A2 : Nat → Nat → Int32), MO G h' o I2 A2 ∧ Kr I I2 A A2) ∧ Mf o h h') ∨ ((pas (fo, pa, ze, ra, sr) (nI k) rl q).1.length ≤ 300 ∧ r = some (.int 1) ∧ (∃ (I2 : Nat → Int32) (A2 : Nat → Nat → Int32), MO G h' o I2 A2 ∧ Kr I I2 A A2 ∧ MrS (I2 9) (A2 26) (A2 27) (A2 28) (pas (fo, pa, ze, ra, sr) (nI k) rl q).1 300 ∧ A2 21 = upd (A 21) pp (pas (fo, pa, ze, ra, sr) (nI k) rl q).2.1 ∧ A2 22 = upd (A 22) pp (pas (fo, pa, ze, ra, sr) (nI k) rl q).2.2) ∧ Mf o h h'))) args s 0 0 (fun q => bs ≤ q)) 0 0 7 [some (.ref o), some (.int (nI pp)), some (.int (nI i)), x3] [] h1 := by
    intro hk6 hck n
    induction n with
    | zero => intro i h1 I1 A1 x3 hn; omega
    | succ n ih =>
      intro i h1 I1 A1 x3 hn hi hM hkp h21 h22 hL hlen hl1 hbe hf
      have hR1 := hkp.mr hm
      obtain ⟨-, -, hF1, hP1, hZ1, hRa1, hT1, hC1, -⟩ := hR1
      dsimp only at hF1 hP1 hZ1 hRa1 hT1 hC1
      have hQ1 : MrS (I1 9) (A1 26) (A1 27) (A1 28) q 300 := by
        rw [hkp.1 9 (by decide), hkp.2 26 (by decide) (by decide) (by decide), hkp.2 27 (by decide) (by decide) (by decide), hkp.2 28 (by decide) (by decide) (by decide)]
        exact hQ
      have hch1 : A1 17 pp = nI (k + 1) := (congrFun (hkp.2 17 (by decide) (by decide) (by decide)) pp).trans hck
      have h18 : A1 18 pp = rl := (congrFun (hkp.2 18 (by decide) (by decide) (by decide)) pp).trans hrl
      have h21p : A1 21 pp = (pasN (fo, pa, ze, ra, sr) (nI k) rl q i).1.2.1 := by rw [h21]; exact pk_us
      have h22p : A1 22 pp = (pasN (fo, pa, ze, ra, sr) (nI k) rl q i).1.2.2 := by rw [h22]; exact pk_us
      refine x_iload_n C dX9_goesThrough_7 (kk := ?_)
      refine x_aload_n C dX9_goesThrough_8 (kk := ?_)
      refine x_get C fl_X9_194 dX9_goesThrough_9 (hh := hM.1) (kk := ?_)
      refine x_top _ hQ1.1 ?_
      refine x_ncmp_ge C i q.length dX9_goesThrough_12 101 (fun hc12 => ?_) (fun hc12 => ?_)
      · have hiq : i = q.length := by omega
        subst hiq
        exact tail hk6 _ _ _ _ _ hM hkp h21 h22 hL (by show (pasN (fo, pa, ze, ra, sr) (nI k) rl q q.length).1.1.length < 2 ^ 29; omega) hf
      obtain ⟨⟨x1, x2, x3⟩, hx⟩ : ∃ x, q[i]? = some x := ⟨q[i], List.getElem?_eq_getElem hc12⟩
      have hpn : pasN (fo, pa, ze, ra, sr) (nI k) rl q (i + 1) = _ := pasN_at hx
      have hup : (pasN (fo, pa, ze, ra, sr) (nI k) rl q (i + 1)).1.1.length ≤ (pasN (fo, pa, ze, ra, sr) (nI k) rl q i).1.1.length + 100 := by rw [hpn]; exact stp_up hFo.2.2.2.1 (fun s hs => by obtain ⟨z, hz⟩ := List.getElem?_of_mem hs; exact (hSt.2.2.2 z s hz).1.2.1)
      have hup1 : k = 1 → (pasN (fo, pa, ze, ra, sr) (nI k) rl q (i + 1)).1.1.length ≤ i + 1 := fun z => by have z2 := hl1 z; subst z; rw [hpn, stp_1]; exact Nat.le_trans comp_up (by omega)
      have fin1 : ∀ h2 : xh, StP G o pp h1 I1 A1 (pasN (fo, pa, ze, ra, sr) (nI k) rl q (i + 1)).1 h2 → (pasN (fo, pa, ze, ra, sr) (nI k) rl q (i + 1)).2 ≤ i + 1 → X p l e { frames := 3, cells := 0, slots := 0, locals := 71 } s m args below meth c G bs (MQ below (x_Q G bs (fun r h' => (300 < (pas (fo, pa, ze, ra, sr) (nI k) rl q).1.length ∧ r = some (.int 0) ∧ (∃ (I2 : Nat → Int32) (A2 : Nat → Nat → Int32), MO G h' o I2 A2 ∧ Kr I I2 A A2) ∧ Mf o h h') ∨ ((pas (fo, pa, ze, ra, sr) (nI k) rl q).1.length ≤ 300 ∧ r = some (.int 1) ∧ (∃ (I2 : Nat → Int32) (A2 : Nat → Nat → Int32), MO G h' o I2 A2 ∧ Kr I I2 A A2 ∧ MrS (I2 9) (A2 26) (A2 27) (A2 28) (pas (fo, pa, ze, ra, sr) (nI k) rl q).1 300 ∧ A2 21 = upd (A 21) pp (pas (fo, pa, ze, ra, sr) (nI k) rl q).2.1 ∧ A2 22 = upd (A 22) pp (pas (fo, pa, ze, ra, sr) (nI k) rl q).2.2) ∧ Mf o h h'))) args s 0 0 (fun q => bs ≤ q)) 0 0 94 [some (.ref o), some (.int (nI pp)), some (.int (nI i)), some (.int 1)] [] h2 := by
        intro h2 hst hb2
        obtain ⟨⟨I2, A2, hM, hkp2, hL2, e21, e22⟩, hfl⟩ := hst
        have hf := hf.tr hfl
        refine x_iload_n C dX9_goesThrough_94 (kk := ?_)
        refine x_iload_n C dX9_goesThrough_95 (kk := ?_)
        refine x_iadd C dX9_goesThrough_96 ?_
        refine x_top _ (nI_add i 1) ?_
        refine x_istore_n C dX9_goesThrough_97 (kk := ?_)
        refine x_goto C dX9_goesThrough_98 7 ?_
        exact ih (i + 1) _ _ _ _ (by omega) (by omega) hM (hkp.tr hkp2) (by rw [e21, h21, upd_upd]) (by rw [e22, h22, upd_upd]) hL2 (by omega) hup1 hb2 hf
      refine x_iconst C dX9_goesThrough_15 (v := 1) (kk := ?_)
      refine x_istore_n C dX9_goesThrough_16 (kk := ?_)
      refine x_aload_n C dX9_goesThrough_17 (kk := ?_)
      refine x_get C fl_X9_61 dX9_goesThrough_18 (hh := hM.1) (kk := ?_)
      refine x_iload_n C dX9_goesThrough_21 (kk := ?_)
      refine x_mld C 17 pp hM dX9_goesThrough_22 rfl (n := 8) (by omega) (kk := ?_)
      refine x_top _ hch1 ?_
      refine x_iconst C dX9_goesThrough_23 (v := 1) (kk := ?_)
      refine x_isub C dX9_goesThrough_24 ?_
      refine x_top _ (nI_pred k) ?_
      have hk7 : k = 0 ∨ k = 1 ∨ k = 2 ∨ k = 3 ∨ k = 4 ∨ k = 5 ∨ k = 6 := by omega
      rcases hk7 with rfl | rfl | rfl | rfl | rfl | rfl | rfl
      · refine x_tabI C 0 dX9_goesThrough_25 60 (by decide) (by decide) rfl ?_
        refine x_aload_n C dX9_goesThrough_60 (kk := ?_)
        refine x_iload_n C dX9_goesThrough_61 (kk := ?_)
        refine x_iload_n C dX9_goesThrough_62 (kk := ?_)
        refine x_callV C ml_X9_folding lk_X9_210 (m_folding l G hF1 (by omega) hQ1 hx hpp hL hM) dX9_goesThrough_63 (fun r63 h63 hp63 => ?_) (hh := hM.1)
        obtain ⟨rfl, hst⟩ := hp63
        rw [h21p, h22p] at hst
        refine x_goto C dX9_goesThrough_66 94 ?_
        exact fin1 _ (by rw [hpn, stp_0]; exact hst) (by rw [hpn, stp_0]; exact Nat.le_succ_of_le hbe)
      · refine x_tabI C 1 dX9_goesThrough_25 69 (by decide) (by decide) rfl ?_
        refine x_aload_n C dX9_goesThrough_69 (kk := ?_)
        refine x_iload_n C dX9_goesThrough_70 (kk := ?_)
        refine x_iload_n C dX9_goesThrough_71 (kk := ?_)
        refine x_callV C ml_X9_composing lk_X9_214 (m_composing l G hP1 (by have := hl1 rfl; omega) hQ1 hx hpp hL hM) dX9_goesThrough_72 (fun r72 h72 hp72 => ?_) (hh := hM.1)
        obtain ⟨rfl, hst⟩ := hp72
        rw [h21p, h22p] at hst
        refine x_goto C dX9_goesThrough_75 94 ?_
        exact fin1 _ (by rw [hpn, stp_1]; exact hst) (by rw [hpn, stp_1]; exact Nat.le_succ_of_le hbe)
      · refine x_tabI C 2 dX9_goesThrough_25 88 (by decide) (by decide) rfl ?_
        refine x_aload_n C dX9_goesThrough_88 (kk := ?_)
        refine x_iload_n C dX9_goesThrough_89 (kk := ?_)
        refine x_iload_n C dX9_goesThrough_90 (kk := ?_)
        refine x_callV C ml_X9_changed lk_X9_220 (m_changed l G hZ1 hRa1 (by omega) hch1 (by omega) hQ1 hx hpp hL hM) dX9_goesThrough_91 (fun r91 h91 hp91 => ?_) (hh := hM.1)
        obtain ⟨rfl, hst⟩ := hp91
        rw [h21p, h22p, h18] at hst
        exact fin1 _ (by rw [hpn, stp_2]; exact hst) (by rw [hpn, stp_2]; exact Nat.le_succ_of_le hbe)
      · refine x_tabI C 3 dX9_goesThrough_25 88 (by decide) (by decide) rfl ?_
        refine x_aload_n C dX9_goesThrough_88 (kk := ?_)
        refine x_iload_n C dX9_goesThrough_89 (kk := ?_)
        refine x_iload_n C dX9_goesThrough_90 (kk := ?_)
        refine x_callV C ml_X9_changed lk_X9_220 (m_changed l G hZ1 hRa1 (by omega) hch1 (by omega) hQ1 hx hpp hL hM) dX9_goesThrough_91 (fun r91 h91 hp91 => ?_) (hh := hM.1)
        obtain ⟨rfl, hst⟩ := hp91
        rw [h21p, h22p, h18] at hst
        exact fin1 _ (by rw [hpn, stp_3]; exact hst) (by rw [hpn, stp_3]; exact Nat.le_succ_of_le hbe)
      · refine x_tabI C 4 dX9_goesThrough_25 78 (by decide) (by decide) rfl ?_
        refine x_aload_n C dX9_goesThrough_78 (kk := ?_)
        refine x_iload_n C dX9_goesThrough_79 (kk := ?_)
        refine x_iload_n C dX9_goesThrough_80 (kk := ?_)
        refine x_callV C ml_X9_replacing lk_X9_217 (m_replacing l G hT1 (by omega) hQ1 hx hpp hL hM) dX9_goesThrough_81 (fun r81 h81 hp81 => ?_) (hh := hM.1)
        rcases hp81 with ⟨hlo, rfl, hst⟩ | ⟨w, hlo, rfl, hst⟩
        · rw [h21p, h22p] at hst
          refine x_istore_n C dX9_goesThrough_84 (kk := ?_)
          refine x_goto C dX9_goesThrough_85 94 ?_
          exact fin1 _ (by rw [hpn, stp_4, if_neg (by omega), hlo]; exact hst) (by rw [hpn, stp_4, if_neg (by omega), hlo]; exact Nat.le_succ_of_le hbe)
        rw [h21p, h22p] at hst
        obtain ⟨z8, hz8⟩ := List.getElem?_of_mem ((longest_mem _ _ hlo).resolve_left (fun z => by cases z))
        obtain ⟨⟨w1, w2, w3⟩, -⟩ := hSt.2.2.2 z8 w hz8
        have hsl := st_len (longest_st hlo)
        rw [List.length_map] at hsl
        obtain ⟨⟨I2, A2, hM, hkp2, hL2, e21, e22⟩, hfl⟩ := hst
        have hf := hf.tr hfl
        rw [stp_4, if_neg (by omega), hlo] at hpn
        have hsk := pas_skip (ts := (fo, pa, ze, ra, sr)) (rl := rl) (q := q) (j := i + 1) (b := i + w.1.length) (by rw [hpn]) (w.1.length - 1) (by omega)
        rw [show i + 1 + (w.1.length - 1) = i + w.1.length by omega, hpn] at hsk
        refine x_istore_n C dX9_goesThrough_84 (kk := ?_)
        refine x_goto C dX9_goesThrough_85 94 ?_
        refine x_iload_n C dX9_goesThrough_94 (kk := ?_)
        refine x_iload_n C dX9_goesThrough_95 (kk := ?_)
        refine x_iadd C dX9_goesThrough_96 ?_
        refine x_top _ (nI_add i w.1.length) ?_
        refine x_istore_n C dX9_goesThrough_97 (kk := ?_)
        refine x_goto C dX9_goesThrough_98 7 ?_
        exact ih (i + w.1.length) _ _ _ _ (by omega) (by omega) hM (hkp.tr hkp2) (by rw [e21, h21, upd_upd, hsk]) (by rw [e22, h22, upd_upd, hsk]) (by rw [hsk]; exact hL2) (by rw [hsk]; simp; omega) (fun z => absurd z (by decide)) (by rw [hsk]; exact Nat.le_refl _) hf
      · refine x_tabO C dX9_goesThrough_25 88 (Or.inr (by decide)) ?_
        refine x_aload_n C dX9_goesThrough_88 (kk := ?_)
        refine x_iload_n C dX9_goesThrough_89 (kk := ?_)
        refine x_iload_n C dX9_goesThrough_90 (kk := ?_)
        refine x_callV C ml_X9_changed lk_X9_220 (m_changed l G hZ1 hRa1 (by omega) hch1 (by omega) hQ1 hx hpp hL hM) dX9_goesThrough_91 (fun r91 h91 hp91 => ?_) (hh := hM.1)
        obtain ⟨rfl, hst⟩ := hp91
        rw [h21p, h22p, h18] at hst
        exact fin1 _ (by rw [hpn, stp_5]; exact hst) (by rw [hpn, stp_5]; exact Nat.le_succ_of_le hbe)
      · refine x_tabO C dX9_goesThrough_25 88 (Or.inr (by decide)) ?_
        refine x_aload_n C dX9_goesThrough_88 (kk := ?_)
        refine x_iload_n C dX9_goesThrough_89 (kk := ?_)
        refine x_iload_n C dX9_goesThrough_90 (kk := ?_)
        refine x_callV C ml_X9_changed lk_X9_220 (m_changed l G hZ1 hRa1 (by omega) hch1 (by omega) hQ1 hx hpp hL hM) dX9_goesThrough_91 (fun r91 h91 hp91 => ?_) (hh := hM.1)
        obtain ⟨rfl, hst⟩ := hp91
        rw [h21p, h22p, h18] at hst
        exact fin1 _ (by rw [hpn, stp_6]; exact hst) (by rw [hpn, stp_6]; exact Nat.le_succ_of_le hbe)
  refine x_aload_n C dX9_goesThrough_0 (kk := ?_)
  refine x_iconst C dX9_goesThrough_1 (v := 0) (kk := ?_)
  refine x_mpi C 10 hM hf fp_X9_184 dX9_goesThrough_2 (kk := fun h hM hf => ?_)
  refine x_iconst C dX9_goesThrough_5 (v := 0) (kk := ?_)
  refine x_istore_n C dX9_goesThrough_6 (kk := ?_)
  have hk96 : k = k9 := (nI_eq (a := k) (b := k9) (by omega) (by omega)).mp hke
  subst hk96
  exact loop hk69 hck9 (q.length + 1) 0 _ _ _ _ (by omega) (by omega) hM ⟨fun k h1 => pk_un (by omega), fun _ _ _ _ => rfl⟩ (upd_id h21a).symm (upd_id h22a).symm ⟨rfl, fL_nil _, fL_nil _, fL_nil _⟩ (Nat.zero_le _) (fun _ => Nat.zero_le _) (Nat.zero_le _) hf
