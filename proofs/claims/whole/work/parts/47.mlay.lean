/-! THE REFERENCE, VII: what a filter lays -/
def MrL (n : Int32) (f g k : Nat → Int32) (q : List Sg) : Prop := n = nI q.length ∧ fL f ((q.take 300).map (·.1)) ∧ fL g ((q.take 300).map (·.2.1)) ∧ fL k ((q.take 300).map (·.2.2))
def Kp (I I2 : Nat → Int32) (A A2 : Nat → Nat → Int32) : Prop := (∀ k, k < 10 → I2 k = I k) ∧ ∀ k, k < 29 → k ≠ 21 → k ≠ 22 → A2 k = A k
theorem Kp.rf {I : Nat → Int32} {A : Nat → Nat → Int32} : Kp I I A A := ⟨fun _ _ => rfl, fun _ _ _ _ => rfl⟩
theorem Kp.tr {I I1 I2 : Nat → Int32} {A A1 A2 : Nat → Nat → Int32} (a : Kp I I1 A A1) (b : Kp I1 I2 A1 A2) : Kp I I2 A A2 := ⟨fun k h => (b.1 k h).trans (a.1 k h), fun k h1 h2 h3 => (b.2 k h1 h2 h3).trans (a.2 k h1 h2 h3)⟩
theorem Kp.mr {I I2 : Nat → Int32} {A A2 : Nat → Nat → Int32} {a : Ab} (k : Kp I I2 A A2) (h : Mr I A a) : Mr I2 A2 a := by
  obtain ⟨k1, k2⟩ := k
  unfold Mr at *
  simp only [k1 0 (by decide), k1 1 (by decide), k1 2 (by decide), k1 3 (by decide), k1 4 (by decide), k1 5 (by decide), k1 6 (by decide), k1 7 (by decide), k1 8 (by decide), k1 9 (by decide), k2 0 (by decide) (by decide) (by decide), k2 1 (by decide) (by decide) (by decide), k2 2 (by decide) (by decide) (by decide), k2 3 (by decide) (by decide) (by decide), k2 4 (by decide) (by decide) (by decide), k2 5 (by decide) (by decide) (by decide), k2 6 (by decide) (by decide) (by decide), k2 7 (by decide) (by decide) (by decide), k2 8 (by decide) (by decide) (by decide), k2 9 (by decide) (by decide) (by decide), k2 10 (by decide) (by decide) (by decide), k2 11 (by decide) (by decide) (by decide), k2 12 (by decide) (by decide) (by decide), k2 13 (by decide) (by decide) (by decide), k2 14 (by decide) (by decide) (by decide), k2 15 (by decide) (by decide) (by decide), k2 16 (by decide) (by decide) (by decide), k2 17 (by decide) (by decide) (by decide), k2 18 (by decide) (by decide) (by decide), k2 19 (by decide) (by decide) (by decide), k2 20 (by decide) (by decide) (by decide), k2 23 (by decide) (by decide) (by decide), k2 24 (by decide) (by decide) (by decide), k2 25 (by decide) (by decide) (by decide), k2 26 (by decide) (by decide) (by decide), k2 27 (by decide) (by decide) (by decide), k2 28 (by decide) (by decide) (by decide)]
  exact h
theorem upF_un {A : Nat → Nat → Int32} {k j : Nat} {f : Nat → Int32} (h : j ≠ k) : upF A k f j = A j := if_neg h
theorem upd_upd {f : Nat → Int32} {k : Nat} {x y : Int32} : upd (upd f k x) k y = upd f k y := by
  funext j
  by_cases h : j = k
  · simp only [upd, if_pos h]
  · simp only [upd, if_neg h]
theorem i_asc (a b c : Int32) : a - b + c = a + (c - b) := by
  rw [Int32.sub_eq_add_neg, Int32.sub_eq_add_neg]
  ac_rfl
set_option maxRecDepth 100000 in
set_option maxHeartbeats 4000000 in
theorem m_lay (l : Launch) (G : xG) {h : xh} {o : Nat} {I : Nat → Int32} {A : Nat → Nat → Int32} {q : List Sg} (v a b : Int32) (hL : MrL (I 10) (A 29) (A 30) (A 31) q) (hq : q.length < 2 ^ 30) (hM : MO G h o I A) : Ct l G yX9_lay cX9_lay 4 (Option.none : Option Jvm.ClassFile.FieldType) { frames := 0, cells := 0, slots := 0, locals := 0 } [.ref o, .int v, .int a, .int b] h (fun r h' => r = none ∧ (∃ (I2 : Nat → Int32) (A2 : Nat → Nat → Int32), MO G h' o I2 A2 ∧ Kp I I2 A A2 ∧ A2 21 = A 21 ∧ A2 22 = A 22 ∧ MrL (I2 10) (A2 29) (A2 30) (A2 31) (q ++ [(v, a, b)])) ∧ Mf o h h') := by
  have hf : Mf o h h := Fr.rf
  refine Ct.of [some (.ref o), some (.int v), some (.int a), some (.int b)] (by decide +kernel) (Nat.le_of_ble_eq_true rfl) (fun p e s m args below meth c bs C hini => ?_)
  refine x_aload_n C dX9_lay_0 (kk := ?_)
  refine x_get C fl_X9_184 dX9_lay_1 (hh := hM.1) (kk := ?_)
  refine x_top _ hL.1 ?_
  refine x_sipush C dX9_lay_4 (v := 300) (kk := ?_)
  refine x_ncmp_ge C q.length 300 dX9_lay_7 40 (fun hc7 => ?_) (fun hc7 => ?_)
  · refine x_aload_n C dX9_lay_40 (kk := ?_)
    refine x_dup C dX9_lay_41 (kk := ?_)
    refine x_get C fl_X9_184 dX9_lay_42 (hh := hM.1) (kk := ?_)
    refine x_top _ hL.1 ?_
    refine x_iconst C dX9_lay_45 (v := 1) (kk := ?_)
    refine x_iadd C dX9_lay_46 ?_
    refine x_top _ (nI_1 q.length) ?_
    refine x_mpi C 10 hM hf fp_X9_184 dX9_lay_47 (kk := fun h hM hf => ?_)
    refine x_vret C rfl dX9_lay_50 (hp := ?_)
    exact ⟨rfl, ⟨_, _, hM, ⟨fun k h1 => pk_un (by omega), fun k h1 h2 h3 => rfl⟩, rfl, rfl, ⟨by rw [List.length_append]; rfl, by rw [List.take_append_of_le_length hc7]; exact hL.2.1, by rw [List.take_append_of_le_length hc7]; exact hL.2.2.1, by rw [List.take_append_of_le_length hc7]; exact hL.2.2.2⟩⟩, hf⟩
  · refine x_aload_n C dX9_lay_10 (kk := ?_)
    refine x_get C fl_X9_97 dX9_lay_11 (hh := hM.1) (kk := ?_)
    refine x_aload_n C dX9_lay_14 (kk := ?_)
    refine x_get C fl_X9_184 dX9_lay_15 (hh := hM.1) (kk := ?_)
    refine x_top _ hL.1 ?_
    refine x_iload_n C dX9_lay_18 (kk := ?_)
    refine x_mst C 29 (q.length) hM hf dX9_lay_19 rfl (n := 300) (by omega) (kk := fun h hM hf => ?_)
    refine x_aload_n C dX9_lay_20 (kk := ?_)
    refine x_get C fl_X9_100 dX9_lay_21 (hh := hM.1) (kk := ?_)
    refine x_aload_n C dX9_lay_24 (kk := ?_)
    refine x_get C fl_X9_184 dX9_lay_25 (hh := hM.1) (kk := ?_)
    refine x_top _ hL.1 ?_
    refine x_iload_n C dX9_lay_28 (kk := ?_)
    refine x_mst C 30 (q.length) hM hf dX9_lay_29 rfl (n := 300) (by omega) (kk := fun h hM hf => ?_)
    refine x_aload_n C dX9_lay_30 (kk := ?_)
    refine x_get C fl_X9_103 dX9_lay_31 (hh := hM.1) (kk := ?_)
    refine x_aload_n C dX9_lay_34 (kk := ?_)
    refine x_get C fl_X9_184 dX9_lay_35 (hh := hM.1) (kk := ?_)
    refine x_top _ hL.1 ?_
    refine x_iload_n C dX9_lay_38 (kk := ?_)
    refine x_mst C 31 (q.length) hM hf dX9_lay_39 rfl (n := 300) (by omega) (kk := fun h hM hf => ?_)
    refine x_aload_n C dX9_lay_40 (kk := ?_)
    refine x_dup C dX9_lay_41 (kk := ?_)
    refine x_get C fl_X9_184 dX9_lay_42 (hh := hM.1) (kk := ?_)
    refine x_top _ hL.1 ?_
    refine x_iconst C dX9_lay_45 (v := 1) (kk := ?_)
    refine x_iadd C dX9_lay_46 ?_
    refine x_top _ (nI_1 q.length) ?_
    refine x_mpi C 10 hM hf fp_X9_184 dX9_lay_47 (kk := fun h hM hf => ?_)
    refine x_vret C rfl dX9_lay_50 (hp := ?_)
    have e1 : (q ++ [(v, a, b)]).take 300 = q ++ [(v, a, b)] := List.take_of_length_le (by simp; omega)
    have e2 : q.take 300 = q := List.take_of_length_le (by omega)
    obtain ⟨l0, l1, l2, l3⟩ := hL
    rw [e2] at l1 l2 l3
    exact ⟨rfl, ⟨_, _, hM, ⟨fun k h1 => pk_un (by omega), fun k h1 h2 h3 => (upF_un (by omega)).trans ((upF_un (by omega)).trans (upF_un (by omega)))⟩, rfl, rfl, ⟨by rw [List.length_append]; rfl, by rw [e1, List.map_append]; exact fL_app l1 (by simp), by rw [e1, List.map_append]; exact fL_app l2 (by simp), by rw [e1, List.map_append]; exact fL_app l3 (by simp)⟩⟩, hf⟩
def StP (G : xG) (o p : Nat) (h : xh) (I : Nat → Int32) (A : Nat → Nat → Int32) (z : List Sg × Int32 × Int32) (h' : xh) : Prop := (∃ (I2 : Nat → Int32) (A2 : Nat → Nat → Int32), MO G h' o I2 A2 ∧ Kp I I2 A A2 ∧ MrL (I2 10) (A2 29) (A2 30) (A2 31) z.1 ∧ A2 21 = upd (A 21) p z.2.1 ∧ A2 22 = upd (A 22) p z.2.2) ∧ Mf o h h'
set_option maxRecDepth 100000 in
set_option maxHeartbeats 4000000 in
theorem m_folding (l : Launch) (G : xG) {h : xh} {o : Nat} {I : Nat → Int32} {A : Nat → Nat → Int32} {fo : List Fo} {q out : List Sg} {pp i : Nat} {x1 x2 x3 : Int32} (hF : MrF (I 3) (A 4) (A 5) (A 6) fo) (hb : out.length < 2 ^ 29) (hQ : MrS (I 9) (A 26) (A 27) (A 28) q 300) (hx : q[i]? = some (x1, x2, x3)) (hp : pp < 8) (hL : MrL (I 10) (A 29) (A 30) (A 31) out) (hM : MO G h o I A) : Ct l G yX9_folding cX9_folding 5 (Option.none : Option Jvm.ClassFile.FieldType) { frames := 1, cells := 0, slots := 0, locals := 23 } [.ref o, .int (nI pp), .int (nI i)] h (fun r h' => r = none ∧ StP G o pp h I A (stFold fo (out, A 21 pp, A 22 pp) (x1, x2, x3)) h') := by
  have hf : Mf o h h := Fr.rf
  have hil : i < 300 := by have h1 := (List.getElem?_eq_some_iff.mp hx).1; have h2 := hQ.2.1; omega
  have hr0 : A 26 i = x1 := fL_at hQ.2.2.1 hx
  have hr1 : A 27 i = x2 := fL_at hQ.2.2.2.1 hx
  have hr2 : A 28 i = x3 := fL_at hQ.2.2.2.2 hx
  refine Ct.of [some (.ref o), some (.int (nI pp)), some (.int (nI i)), none, none] (by decide +kernel) (Nat.le_of_ble_eq_true rfl) (fun p e s m args below meth c bs C hini => ?_)
  have loop : ∀ (k : Nat) (en : Fo), fo[k]? = some en → en.1 = x1 → ∀ (n j : Nat) (h1 : xh) (I1 : Nat → Int32) (A1 : Nat → Nat → Int32), en.2.length - j < n → j ≤ en.2.length → MO G h1 o I1 A1 → Kp I I1 A A1 → A1 21 = upd (A 21) pp (A 21 pp + 1) → A1 22 = upd (A 22) pp (A 22 pp - uOf x1 + uSum (en.2.take j)) → MrL (I1 10) (A1 29) (A1 30) (A1 31) (out ++ (en.2.take j).map (fun w => (w, x2, x3))) → Mf o h h1 → X p l e { frames := 1, cells := 0, slots := 0, locals := 23 } s m args below meth c G bs (MQ below (x_Q G bs (fun r h' => r = none ∧ StP G o pp h I A (stFold fo (out, A 21 pp, A 22 pp) (x1, x2, x3)) h')) args s 0 0 (fun q => bs ≤ q)) 0 0 69 [some (.ref o), some (.int (nI pp)), some (.int (nI i)), some (.int (nI k)), some (.int (nI j))] [] h1 := by
    intro k en he hex n
    have hk40 : k < 40 := by have h1 := (List.getElem?_eq_some_iff.mp he).1; have h2 := hF.2.1; omega
    have hwf := hF.2.2.2.1 en (List.mem_of_getElem? he)
    have hw3 := hwf.1
    have hg := aget_at hF.2.2.1 he hex
    induction n with
    | zero => intro j h1 I1 A1 hn; omega
    | succ n ih =>
      intro j h1 I1 A1 hn hj hM hkp h21 h22 hL1 hf
      refine x_iload C dX9_folding_69 (kk := ?_)
      refine x_aload_n C dX9_folding_71 (kk := ?_)
      refine x_get C fl_X9_25 dX9_folding_72 (hh := hM.1) (kk := ?_)
      refine x_iload_n C dX9_folding_75 (kk := ?_)
      refine x_mld C 5 k hM dX9_folding_76 rfl (n := 40) (by omega) (kk := ?_)
      refine x_top _ ((congrFun (hkp.2 5 (by decide) (by decide) (by decide)) k).trans (fL_at hF.2.2.2.2.2.1 he)) ?_
      refine x_ncmp_ge C j en.2.length dX9_folding_77 136 (fun hc77 => ?_) (fun hc77 => ?_)
      · refine x_vret C rfl dX9_folding_136 (hp := ?_)
        rw [List.take_of_length_le hc77] at h22 hL1
        refine ⟨rfl, ⟨I1, A1, hM, hkp, ?_, ?_, ?_⟩, hf⟩
        · simp only [stFold, hg]; exact hL1
        · simp only [stFold, hg]; exact h21
        · simp only [stFold, hg]; rw [h22, i_asc]
      have hfd : A1 6 (3 * k + j) = en.2.getD j (-1) := (congrFun (hkp.2 6 (by decide) (by decide) (by decide)) _).trans (hF.2.2.2.2.2.2 k en he j (by omega))
      refine x_aload_n C dX9_folding_80 (kk := ?_)
      refine x_aload_n C dX9_folding_81 (kk := ?_)
      refine x_get C fl_X9_28 dX9_folding_82 (hh := hM.1) (kk := ?_)
      refine x_iconst C dX9_folding_85 (v := 3) (kk := ?_)
      refine x_iload_n C dX9_folding_86 (kk := ?_)
      refine x_imul C dX9_folding_87 ?_
      refine x_top _ (nI_mul 3 k) ?_
      refine x_iload C dX9_folding_88 (kk := ?_)
      refine x_iadd C dX9_folding_90 ?_
      refine x_top _ (nI_add (3 * k) j) ?_
      refine x_mld C 6 (3 * k + j) hM dX9_folding_91 rfl (n := 120) (by omega) (kk := ?_)
      refine x_top _ hfd ?_
      refine x_aload_n C dX9_folding_92 (kk := ?_)
      refine x_get C fl_X9_91 dX9_folding_93 (hh := hM.1) (kk := ?_)
      refine x_iload_n C dX9_folding_96 (kk := ?_)
      refine x_mld C 27 i hM dX9_folding_97 rfl (n := 300) (by omega) (kk := ?_)
      refine x_top _ ((congrFun (hkp.2 27 (by decide) (by decide) (by decide)) i).trans hr1) ?_
      refine x_aload_n C dX9_folding_98 (kk := ?_)
      refine x_get C fl_X9_94 dX9_folding_99 (hh := hM.1) (kk := ?_)
      refine x_iload_n C dX9_folding_102 (kk := ?_)
      refine x_mld C 28 i hM dX9_folding_103 rfl (n := 300) (by omega) (kk := ?_)
      refine x_top _ ((congrFun (hkp.2 28 (by decide) (by decide) (by decide)) i).trans hr2) ?_
      refine x_callV C ml_X9_lay lk_X9_187 (m_lay l G (en.2.getD j (-1)) x2 x3 hL1 (by simp; omega) hM) dX9_folding_104 (fun r104 h104 hp104 => ?_) (hh := hM.1)
      obtain ⟨rfl, ⟨I2, A2, hM, hkp2, e21, e22, hL2⟩, hfl⟩ := hp104
      have hf := hf.tr hfl
      refine x_aload_n C dX9_folding_107 (kk := ?_)
      refine x_get C fl_X9_76 dX9_folding_108 (hh := hM.1) (kk := ?_)
      refine x_iload_n C dX9_folding_111 (kk := ?_)
      refine x_dup2 C dX9_folding_112 (kk := ?_)
      refine x_mld C 22 pp hM dX9_folding_113 rfl (n := 8) (by omega) (kk := ?_)
      refine x_top _ ((congrFun (e22.trans h22) pp).trans pk_us) ?_
      refine x_aload_n C dX9_folding_114 (kk := ?_)
      refine x_get C fl_X9_28 dX9_folding_115 (hh := hM.1) (kk := ?_)
      refine x_iconst C dX9_folding_118 (v := 3) (kk := ?_)
      refine x_iload_n C dX9_folding_119 (kk := ?_)
      refine x_imul C dX9_folding_120 ?_
      refine x_top _ (nI_mul 3 k) ?_
      refine x_iload C dX9_folding_121 (kk := ?_)
      refine x_iadd C dX9_folding_123 ?_
      refine x_top _ (nI_add (3 * k) j) ?_
      refine x_mld C 6 (3 * k + j) hM dX9_folding_124 rfl (n := 120) (by omega) (kk := ?_)
      refine x_top _ ((congrFun (hkp2.2 6 (by decide) (by decide) (by decide)) _).trans hfd) ?_
      refine x_callS C ml_X9_unitsOf lk_X9_191 (m_unitsOf l G (en.2.getD j (-1))) dX9_folding_125 (fun r125 h125 hp125 => ?_)
      obtain ⟨rfl, rfl⟩ := hp125
      refine x_iadd C dX9_folding_128 ?_
      refine x_top _ (show _ = A 22 pp - uOf x1 + uSum (en.2.take (j + 1)) from by rw [uSum_take hc77, Int32.add_assoc]) ?_
      refine x_mst C 22 (pp) hM hf dX9_folding_129 rfl (n := 8) (by omega) (kk := fun h hM hf => ?_)
      refine x_iinc1 C dX9_folding_130 (kk := ?_)
      refine x_goto C dX9_folding_133 69 ?_
      exact ih (j + 1) _ _ _ (by omega) (by omega) hM ⟨fun k h1 => (hkp2.1 k h1).trans (hkp.1 k h1), fun k h1 h2 h3 => (upF_un h3).trans ((hkp2.2 k h1 h2 h3).trans (hkp.2 k h1 h2 h3))⟩ ((upF_un (by decide)).trans (e21.trans h21)) (by rw [upF_at, e22, h22, upd_upd]) (by rw [take_at (show en.2[j]? = some (en.2.getD j (-1)) by simp [hc77]), List.map_append, ← List.append_assoc]; exact hL2) hf
  refine x_aload_n C dX9_folding_0 (kk := ?_)
  refine x_aload_n C dX9_folding_1 (kk := ?_)
  refine x_get C fl_X9_88 dX9_folding_2 (hh := hM.1) (kk := ?_)
  refine x_iload_n C dX9_folding_5 (kk := ?_)
  refine x_mld C 26 i hM dX9_folding_6 rfl (n := 300) (by omega) (kk := ?_)
  refine x_top _ hr0 ?_
  refine x_callV C ml_X9_foldAt lk_X9_164 (m_foldAt l G x1 hM hF) dX9_folding_7 (fun r7 h7 hp7 => ?_) (hh := hM.1)
  obtain ⟨r, rfl, hsl, hz⟩ := hp7
  subst hz
  rcases hsl with ⟨rfl, hni⟩ | ⟨k, rfl, hk⟩
  · skip
    refine x_istore_n C dX9_folding_10 (kk := ?_)
    refine x_iload_n C dX9_folding_11 (kk := ?_)
    refine x_if_ge C dX9_folding_12 38 (fun z => absurd z (by decide)) (fun _ => ?_)
    refine x_aload_n C dX9_folding_15 (kk := ?_)
    refine x_aload_n C dX9_folding_16 (kk := ?_)
    refine x_get C fl_X9_88 dX9_folding_17 (hh := hM.1) (kk := ?_)
    refine x_iload_n C dX9_folding_20 (kk := ?_)
    refine x_mld C 26 i hM dX9_folding_21 rfl (n := 300) (by omega) (kk := ?_)
    refine x_top _ hr0 ?_
    refine x_aload_n C dX9_folding_22 (kk := ?_)
    refine x_get C fl_X9_91 dX9_folding_23 (hh := hM.1) (kk := ?_)
    refine x_iload_n C dX9_folding_26 (kk := ?_)
    refine x_mld C 27 i hM dX9_folding_27 rfl (n := 300) (by omega) (kk := ?_)
    refine x_top _ hr1 ?_
    refine x_aload_n C dX9_folding_28 (kk := ?_)
    refine x_get C fl_X9_94 dX9_folding_29 (hh := hM.1) (kk := ?_)
    refine x_iload_n C dX9_folding_32 (kk := ?_)
    refine x_mld C 28 i hM dX9_folding_33 rfl (n := 300) (by omega) (kk := ?_)
    refine x_top _ hr2 ?_
    refine x_callV C ml_X9_lay lk_X9_187 (m_lay l G x1 x2 x3 hL (by omega) hM) dX9_folding_34 (fun r34 h34 hp34 => ?_) (hh := hM.1)
    obtain ⟨rfl, ⟨I2, A2, hM, hkp, e21, e22, hL2⟩, hfl⟩ := hp34
    have hf := hf.tr hfl
    refine x_vret C rfl dX9_folding_37 (hp := ?_)
    have hg := aget_no hni
    refine ⟨rfl, ⟨I2, A2, hM, hkp, ?_, ?_, ?_⟩, hf⟩
    · simp only [stFold, hg]; exact hL2
    · simp only [stFold, hg]; exact e21.trans (upd_id rfl).symm
    · simp only [stFold, hg]; exact e22.trans (upd_id rfl).symm
  obtain ⟨en, he, hex⟩ : ∃ en, fo[k]? = some en ∧ en.1 = x1 := by simpa using hk
  have hk40 : k < 40 := by have h1 := (List.getElem?_eq_some_iff.mp he).1; have h2 := hF.2.1; omega
  refine x_istore_n C dX9_folding_10 (kk := ?_)
  refine x_iload_n C dX9_folding_11 (kk := ?_)
  refine x_if_ge C dX9_folding_12 38 (fun _ => ?_) (fun z => absurd (nI_pos' (by omega)) z)
  refine x_aload_n C dX9_folding_38 (kk := ?_)
  refine x_get C fl_X9_73 dX9_folding_39 (hh := hM.1) (kk := ?_)
  refine x_iload_n C dX9_folding_42 (kk := ?_)
  refine x_dup2 C dX9_folding_43 (kk := ?_)
  refine x_mld C 21 (pp) hM dX9_folding_44 rfl (n := 8) (by omega) (kk := ?_)
  refine x_iconst C dX9_folding_45 (v := 1) (kk := ?_)
  refine x_iadd C dX9_folding_46 ?_
  refine x_mst C 21 (pp) hM hf dX9_folding_47 rfl (n := 8) (by omega) (kk := fun h hM hf => ?_)
  refine x_aload_n C dX9_folding_48 (kk := ?_)
  refine x_get C fl_X9_76 dX9_folding_49 (hh := hM.1) (kk := ?_)
  refine x_iload_n C dX9_folding_52 (kk := ?_)
  refine x_dup2 C dX9_folding_53 (kk := ?_)
  refine x_mld C 22 (pp) hM dX9_folding_54 rfl (n := 8) (by omega) (kk := ?_)
  refine x_aload_n C dX9_folding_55 (kk := ?_)
  refine x_get C fl_X9_88 dX9_folding_56 (hh := hM.1) (kk := ?_)
  refine x_iload_n C dX9_folding_59 (kk := ?_)
  refine x_mld C 26 i hM dX9_folding_60 rfl (n := 300) (by omega) (kk := ?_)
  refine x_top _ hr0 ?_
  refine x_callS C ml_X9_unitsOf lk_X9_191 (m_unitsOf l G x1) dX9_folding_61 (fun r61 h61 hp61 => ?_)
  obtain ⟨rfl, rfl⟩ := hp61
  refine x_isub C dX9_folding_64 ?_
  refine x_mst C 22 (pp) hM hf dX9_folding_65 rfl (n := 8) (by omega) (kk := fun h hM hf => ?_)
  refine x_iconst C dX9_folding_66 (v := 0) (kk := ?_)
  refine x_istore C dX9_folding_67 (kk := ?_)
  exact loop k en he hex (en.2.length + 1) 0 _ _ _ (by omega) (by omega) hM ⟨fun _ _ => rfl, fun k h1 h2 h3 => (upF_un h3).trans (upF_un h2)⟩ rfl (by rw [upF_at]; show upd (A 22) pp (A 22 pp - uOf x1) = _; congr 1; show _ = A 22 pp - uOf x1 + 0; simp) (by rw [List.take_zero, List.map_nil, List.append_nil]; exact hL) hf
set_option maxRecDepth 100000 in
set_option maxHeartbeats 4000000 in
theorem m_composing (l : Launch) (G : xG) {h : xh} {o : Nat} {I : Nat → Int32} {A : Nat → Nat → Int32} {pa : List Pr} {q out : List Sg} {pp i : Nat} {x1 x2 x3 : Int32} (hP : MrP (I 4) (A 7) (A 8) (A 9) pa) (hb : out.length ≤ 300) (hQ : MrS (I 9) (A 26) (A 27) (A 28) q 300) (hx : q[i]? = some (x1, x2, x3)) (hp : pp < 8) (hL : MrL (I 10) (A 29) (A 30) (A 31) out) (hM : MO G h o I A) : Ct l G yX9_composing cX9_composing 4 (Option.none : Option Jvm.ClassFile.FieldType) { frames := 1, cells := 0, slots := 0, locals := 24 } [.ref o, .int (nI pp), .int (nI i)] h (fun r h' => r = none ∧ StP G o pp h I A (stComp pa (out, A 21 pp, A 22 pp) (x1, x2, x3)) h') := by
  have hf : Mf o h h := Fr.rf
  have hil : i < 300 := by have h1 := (List.getElem?_eq_some_iff.mp hx).1; have h2 := hQ.2.1; omega
  have hr0 : A 26 i = x1 := fL_at hQ.2.2.1 hx
  have hr1 : A 27 i = x2 := fL_at hQ.2.2.2.1 hx
  have hr2 : A 28 i = x3 := fL_at hQ.2.2.2.2 hx
  refine Ct.of [some (.ref o), some (.int (nI pp)), some (.int (nI i)), none] (by decide +kernel) (Nat.le_of_ble_eq_true rfl) (fun p e s m args below meth c bs C hini => ?_)
  refine x_aload_n C dX9_composing_0 (kk := ?_)
  refine x_get C fl_X9_184 dX9_composing_1 (hh := hM.1) (kk := ?_)
  refine x_top _ hL.1 ?_
  rcases List.eq_nil_or_concat out with hout | ⟨L9, ⟨y1, y2, y3⟩, hout⟩
  · subst hout
    refine x_if_ne C dX9_composing_4 11 (fun z => absurd rfl z) (fun _ => ?_)
    have hst : stComp pa ([], A 21 pp, A 22 pp) (x1, x2, x3) = ([] ++ [(x1, x2, x3)], A 21 pp, A 22 pp) := rfl
    refine x_iconst C dX9_composing_7 (v := -1) (kk := ?_)
    refine x_goto C dX9_composing_8 32 ?_
    refine x_istore_n C dX9_composing_32 (kk := ?_)
    refine x_iload_n C dX9_composing_33 (kk := ?_)
    refine x_if_ge C dX9_composing_34 60 (fun z => absurd z (by decide)) (fun _ => ?_)
    refine x_aload_n C dX9_composing_37 (kk := ?_)
    refine x_aload_n C dX9_composing_38 (kk := ?_)
    refine x_get C fl_X9_88 dX9_composing_39 (hh := hM.1) (kk := ?_)
    refine x_iload_n C dX9_composing_42 (kk := ?_)
    refine x_mld C 26 i hM dX9_composing_43 rfl (n := 300) (by omega) (kk := ?_)
    refine x_top _ hr0 ?_
    refine x_aload_n C dX9_composing_44 (kk := ?_)
    refine x_get C fl_X9_91 dX9_composing_45 (hh := hM.1) (kk := ?_)
    refine x_iload_n C dX9_composing_48 (kk := ?_)
    refine x_mld C 27 i hM dX9_composing_49 rfl (n := 300) (by omega) (kk := ?_)
    refine x_top _ hr1 ?_
    refine x_aload_n C dX9_composing_50 (kk := ?_)
    refine x_get C fl_X9_94 dX9_composing_51 (hh := hM.1) (kk := ?_)
    refine x_iload_n C dX9_composing_54 (kk := ?_)
    refine x_mld C 28 i hM dX9_composing_55 rfl (n := 300) (by omega) (kk := ?_)
    refine x_top _ hr2 ?_
    refine x_callV C ml_X9_lay lk_X9_187 (m_lay l G x1 x2 x3 hL (Nat.lt_of_le_of_lt hb (by decide)) hM) dX9_composing_56 (fun r56 h56 hp56 => ?_) (hh := hM.1)
    obtain ⟨rfl, ⟨I2, A2, hM, hkp, e21, e22, hL2⟩, hfl⟩ := hp56
    have hf := hf.tr hfl
    refine x_vret C rfl dX9_composing_59 (hp := ?_)
    rw [hst]
    exact ⟨rfl, ⟨I2, A2, hM, hkp, hL2, e21.trans (upd_id rfl).symm, e22.trans (upd_id rfl).symm⟩, hf⟩
  rw [List.concat_eq_append] at hout
  have hlen : out.length = L9.length + 1 := by rw [hout]; simp
  have hgl : out.getLast? = some (y1, y2, y3) := by rw [hout]; simp
  have hdl : out.dropLast = L9 := by rw [hout]; simp
  have htk : out.take 300 = out := List.take_of_length_le hb
  have hL0 := id hL
  obtain ⟨l0, l1, l2, l3⟩ := hL0
  rw [htk] at l1 l2 l3
  have hgi : out[L9.length]? = some (y1, y2, y3) := by rw [hout]; simp
  refine x_if_ne C dX9_composing_4 11 (fun _ => ?_) (fun z => absurd z (nI_ne0 (by omega) (by omega)))
  refine x_aload_n C dX9_composing_11 (kk := ?_)
  refine x_aload_n C dX9_composing_12 (kk := ?_)
  refine x_get C fl_X9_97 dX9_composing_13 (hh := hM.1) (kk := ?_)
  refine x_aload_n C dX9_composing_16 (kk := ?_)
  refine x_get C fl_X9_184 dX9_composing_17 (hh := hM.1) (kk := ?_)
  refine x_top _ (hL.1.trans (congrArg nI hlen)) ?_
  refine x_iconst C dX9_composing_20 (v := 1) (kk := ?_)
  refine x_isub C dX9_composing_21 ?_
  refine x_top _ (nI_pred L9.length) ?_
  refine x_mld C 29 L9.length hM dX9_composing_22 rfl (n := 300) (by omega) (kk := ?_)
  refine x_top _ (fL_at l1 hgi) ?_
  refine x_aload_n C dX9_composing_23 (kk := ?_)
  refine x_get C fl_X9_88 dX9_composing_24 (hh := hM.1) (kk := ?_)
  refine x_iload_n C dX9_composing_27 (kk := ?_)
  refine x_mld C 26 i hM dX9_composing_28 rfl (n := 300) (by omega) (kk := ?_)
  refine x_top _ hr0 ?_
  refine x_callV C ml_X9_pairAt lk_X9_171 (m_pairAt l G y1 x1 hM hP) dX9_composing_29 (fun r29 h29 hp29 => ?_) (hh := hM.1)
  obtain ⟨r, rfl, hsl, hz⟩ := hp29
  subst hz
  rcases hsl with ⟨rfl, hni⟩ | ⟨k, rfl, hk⟩
  · have hst : stComp pa (out, A 21 pp, A 22 pp) (x1, x2, x3) = (out ++ [(x1, x2, x3)], A 21 pp, A 22 pp) := by simp only [stComp, hgl, aget_no hni]
    refine x_istore_n C dX9_composing_32 (kk := ?_)
    refine x_iload_n C dX9_composing_33 (kk := ?_)
    refine x_if_ge C dX9_composing_34 60 (fun z => absurd z (by decide)) (fun _ => ?_)
    refine x_aload_n C dX9_composing_37 (kk := ?_)
    refine x_aload_n C dX9_composing_38 (kk := ?_)
    refine x_get C fl_X9_88 dX9_composing_39 (hh := hM.1) (kk := ?_)
    refine x_iload_n C dX9_composing_42 (kk := ?_)
    refine x_mld C 26 i hM dX9_composing_43 rfl (n := 300) (by omega) (kk := ?_)
    refine x_top _ hr0 ?_
    refine x_aload_n C dX9_composing_44 (kk := ?_)
    refine x_get C fl_X9_91 dX9_composing_45 (hh := hM.1) (kk := ?_)
    refine x_iload_n C dX9_composing_48 (kk := ?_)
    refine x_mld C 27 i hM dX9_composing_49 rfl (n := 300) (by omega) (kk := ?_)
    refine x_top _ hr1 ?_
    refine x_aload_n C dX9_composing_50 (kk := ?_)
    refine x_get C fl_X9_94 dX9_composing_51 (hh := hM.1) (kk := ?_)
    refine x_iload_n C dX9_composing_54 (kk := ?_)
    refine x_mld C 28 i hM dX9_composing_55 rfl (n := 300) (by omega) (kk := ?_)
    refine x_top _ hr2 ?_
    refine x_callV C ml_X9_lay lk_X9_187 (m_lay l G x1 x2 x3 hL (Nat.lt_of_le_of_lt hb (by decide)) hM) dX9_composing_56 (fun r56 h56 hp56 => ?_) (hh := hM.1)
    obtain ⟨rfl, ⟨I2, A2, hM, hkp, e21, e22, hL2⟩, hfl⟩ := hp56
    have hf := hf.tr hfl
    refine x_vret C rfl dX9_composing_59 (hp := ?_)
    rw [hst]
    exact ⟨rfl, ⟨I2, A2, hM, hkp, hL2, e21.trans (upd_id rfl).symm, e22.trans (upd_id rfl).symm⟩, hf⟩
  obtain ⟨⟨⟨k1, k2⟩, k3⟩, he, hex⟩ : ∃ en, pa[k]? = some en ∧ en.1 = (y1, x1) := by simpa using hk
  have hg := aget_at hP.2.2.1 he hex
  have hk20 : k < 20 := by have h1 := (List.getElem?_eq_some_iff.mp he).1; have h2 := hP.2.1; omega
  have hst : stComp pa (out, A 21 pp, A 22 pp) (x1, x2, x3) = (L9 ++ [(k3, y2, x3)], A 21 pp + 1, A 22 pp) := by simp only [stComp, hgl, hg, hdl]
  refine x_istore_n C dX9_composing_32 (kk := ?_)
  refine x_iload_n C dX9_composing_33 (kk := ?_)
  refine x_if_ge C dX9_composing_34 60 (fun _ => ?_) (fun z => absurd (nI_pos' (by omega)) z)
  refine x_aload_n C dX9_composing_60 (kk := ?_)
  refine x_get C fl_X9_73 dX9_composing_61 (hh := hM.1) (kk := ?_)
  refine x_iload_n C dX9_composing_64 (kk := ?_)
  refine x_dup2 C dX9_composing_65 (kk := ?_)
  refine x_mld C 21 (pp) hM dX9_composing_66 rfl (n := 8) (by omega) (kk := ?_)
  refine x_iconst C dX9_composing_67 (v := 1) (kk := ?_)
  refine x_iadd C dX9_composing_68 ?_
  refine x_mst C 21 (pp) hM hf dX9_composing_69 rfl (n := 8) (by omega) (kk := fun h hM hf => ?_)
  refine x_aload_n C dX9_composing_70 (kk := ?_)
  refine x_get C fl_X9_97 dX9_composing_71 (hh := hM.1) (kk := ?_)
  refine x_aload_n C dX9_composing_74 (kk := ?_)
  refine x_get C fl_X9_184 dX9_composing_75 (hh := hM.1) (kk := ?_)
  refine x_top _ (hL.1.trans (congrArg nI hlen)) ?_
  refine x_iconst C dX9_composing_78 (v := 1) (kk := ?_)
  refine x_isub C dX9_composing_79 ?_
  refine x_top _ (nI_pred L9.length) ?_
  refine x_aload_n C dX9_composing_80 (kk := ?_)
  refine x_get C fl_X9_37 dX9_composing_81 (hh := hM.1) (kk := ?_)
  refine x_iload_n C dX9_composing_84 (kk := ?_)
  refine x_mld C 9 k hM dX9_composing_85 rfl (n := 20) (by omega) (kk := ?_)
  refine x_top _ (fL_at hP.2.2.2.2.2 he) ?_
  refine x_mst C 29 (L9.length) hM hf dX9_composing_86 rfl (n := 300) (by omega) (kk := fun h hM hf => ?_)
  refine x_aload_n C dX9_composing_87 (kk := ?_)
  refine x_get C fl_X9_103 dX9_composing_88 (hh := hM.1) (kk := ?_)
  refine x_aload_n C dX9_composing_91 (kk := ?_)
  refine x_get C fl_X9_184 dX9_composing_92 (hh := hM.1) (kk := ?_)
  refine x_top _ (hL.1.trans (congrArg nI hlen)) ?_
  refine x_iconst C dX9_composing_95 (v := 1) (kk := ?_)
  refine x_isub C dX9_composing_96 ?_
  refine x_top _ (nI_pred L9.length) ?_
  refine x_aload_n C dX9_composing_97 (kk := ?_)
  refine x_get C fl_X9_94 dX9_composing_98 (hh := hM.1) (kk := ?_)
  refine x_iload_n C dX9_composing_101 (kk := ?_)
  refine x_mld C 28 i hM dX9_composing_102 rfl (n := 300) (by omega) (kk := ?_)
  refine x_top _ hr2 ?_
  refine x_mst C 31 (L9.length) hM hf dX9_composing_103 rfl (n := 300) (by omega) (kk := fun h hM hf => ?_)
  refine x_vret C rfl dX9_composing_104 (hp := ?_)
  rw [hst]
  have hle : (L9 ++ [(k3, y2, x3)]).length = out.length := by rw [hlen]; simp
  have htk2 : (L9 ++ [(k3, y2, x3)]).take 300 = L9 ++ [(k3, y2, x3)] := List.take_of_length_le (by omega)
  have hpt : ∀ j : Nat, (L9 ++ [(k3, y2, x3)])[j]? = if j = L9.length then some (k3, y2, x3) else out[j]? := fun j => by
    rw [hout]
    by_cases z : j = L9.length
    · rw [if_pos z, z]; simp
    · rw [if_neg z]
      by_cases z2 : j < L9.length
      · rw [List.getElem?_append_left z2, List.getElem?_append_left z2]
      · rw [List.getElem?_eq_none (by simp; omega), List.getElem?_eq_none (by simp; omega)]
  have l2b := fL_pt (π := fun w : Sg => w.2.1) hpt l2 rfl
  rw [upd_id (fL_at l2 hgi)] at l2b
  exact ⟨rfl, ⟨_, _, hM, ⟨fun _ _ => rfl, fun k h1 h2 h3 => (upF_un (by omega)).trans ((upF_un (by omega)).trans (upF_un h2))⟩, ⟨by rw [hle]; exact hL.1, by rw [htk2]; exact fL_pt (π := fun w : Sg => w.1) hpt l1 rfl, by rw [htk2]; exact l2b, by rw [htk2]; exact fL_pt (π := fun w : Sg => w.2.2) hpt l3 rfl⟩, rfl, (upd_id rfl).symm⟩, hf⟩
