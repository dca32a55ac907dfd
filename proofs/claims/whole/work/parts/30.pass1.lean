/-! THE FILTERS OF THE CLASS, ONE ROW TO ANOTHER -/
abbrev co (x : Nat) (dsz mk : Int32) (la s1 s2 : Nat) : List Value := [.ref (x + 1), .int dsz, .int mk, .ref (x + 2), .ref (x + 7), .ref (x + 11), .ref (x + 13), .ref (x + 16), .ref (x + 18), .ref (x + 19), .ref la, .ref s1, .ref s2]
def PA (ro fa : Nat) : Nat → Prop := fun b => At ro 4 b ∨ b = fa
theorem Fa.fr {h h' : xh} {a : Nat} {kd rl sm sg rm rg : Int32} {A : Nat → Prop} (k : Fa h a kd rl sm sg rm rg) (f : Fr A h h') (hd : ¬ A a) : Fa h' a kd rl sm sg rm rg := f.at hd k
theorem Rp.ne {G : xG} {h : xh} {q fa : Nat} {w : Sr} {kd rl sm sg rm rg : Int32} (k : Rp G h q w) (hF : Fa h fa kd rl sm sg rm rg) : ∀ b, At q 3 b → b ≠ fa := by
  intro b hb e
  subst e
  unfold Fa at hF
  obtain ⟨-, -, -, h3, f, g, h4, h5, -⟩ := k
  have : b = q ∨ b = q + 1 ∨ b = q + 2 := by unfold At at hb; omega
  rcases this with rfl | rfl | rfl
  · rw [hF] at h3; simp [eO] at h3
  · rw [hF] at h4; simp [eO, eI] at h4
  · rw [hF] at h5; simp [eO, eI] at h5
theorem Sx.pa {G : xG} {h h' : xh} {x dy ro fa : Nat} {ss : List Sr} {kd rl sm sg rm rg : Int32} (k : Sx G h (x + 16) dy ss) (hF : Fa h fa kd rl sm sg rm rg) (hdy : x + 35 ≤ dy) (hro : x + 19 ≤ ro ∧ ro + 4 ≤ x + 35) (hfa : x + 35 ≤ fa) (f : Fr (PA ro fa) h h') : Sx G h' (x + 16) dy ss :=
  k.same (Nat.le_of_eq f.1.symm) (fun b hb => f.2 b (by unfold PA At at *; omega)) (fun q h1 h2 w hw => hw.same (fun b hb => f.2 b (fun z => z.elim (fun z => by unfold At at hb z; omega) (fun z => hw.ne hF b hb z))))
def PPost (G : xG) (ts : TS) (K rl : Int32) (q : List Sg) (h : xh) (ro fa : Nat) (sm sg : Int32) (v : Option Value) (h' : xh) : Prop := Fr (PA ro fa) h h' ∧ ((v = some (.int 1) ∧ (pas ts K rl q).1.length ≤ 300 ∧ Rw G h' ro (pas ts K rl q).1 ∧ Fa h' fa K rl sm sg (pas ts K rl q).2.1 (pas ts K rl q).2.2) ∨ (v = some (.int 0) ∧ 300 < (pas ts K rl q).1.length ∧ (∃ w, Rw G h' ro w) ∧ ∃ rm rg, Fa h' fa K rl sm sg rm rg))
def PInv (G : xG) (ts : TS) (K rl : Int32) (q : List Sg) (h : xh) (ro fa : Nat) (sm sg : Int32) (i : Nat) (h1 : xh) : Prop := Fr (PA ro fa) h h1 ∧ Rw G h1 ro (pasN ts K rl q i).1.1 ∧ Fa h1 fa K rl sm sg (pasN ts K rl q i).1.2.1 (pasN ts K rl q i).1.2.2
def PBad (G : xG) (ts : TS) (K rl : Int32) (q : List Sg) (h : xh) (ro fa : Nat) (sm sg : Int32) (i : Nat) (h1 : xh) : Prop := Fr (PA ro fa) h h1 ∧ i ≤ q.length ∧ 300 < (pasN ts K rl q i).1.1.length ∧ (∃ w, Rw G h1 ro w) ∧ ∃ rm rg, Fa h1 fa K rl sm sg rm rg
theorem PInv.post {G : xG} {ts : TS} {K rl : Int32} {q : List Sg} {h h1 : xh} {ro fa : Nat} {sm sg : Int32} {i : Nat} (k : PInv G ts K rl q h ro fa sm sg i h1) (hi : i = q.length) : PPost G ts K rl q h ro fa sm sg (some (.int 1)) h1 := by
  subst hi
  exact ⟨k.1, Or.inl ⟨rfl, k.2.1.1, k.2.1, k.2.2⟩⟩
theorem PBad.post {G : xG} {ts : TS} {K rl : Int32} {q : List Sg} {h h1 : xh} {ro fa : Nat} {sm sg : Int32} {i : Nat} (k : PBad G ts K rl q h ro fa sm sg i h1) : PPost G ts K rl q h ro fa sm sg (some (.int 0)) h1 :=
  ⟨k.1, Or.inr ⟨rfl, Nat.lt_of_lt_of_le k.2.2.1 (pasN_le k.2.1), k.2.2.2⟩⟩
theorem stp0 (ts : TS) (rl : Int32) (q : List Sg) (i : Nat) (a : Ac) (x : Sg) : stp ts 0 rl q i a x = (stFold ts.1 a.1 x, a.2) := rfl
theorem stp1 (ts : TS) (rl : Int32) (q : List Sg) (i : Nat) (a : Ac) (x : Sg) : stp ts 1 rl q i a x = (stComp ts.2.1 a.1 x, a.2) := rfl
theorem stp2 (ts : TS) (rl : Int32) (q : List Sg) (i : Nat) (a : Ac) (x : Sg) : stp ts 2 rl q i a x = (stDig ts.2.2.1 a.1 x, a.2) := rfl
theorem stp3 (ts : TS) (rl : Int32) (q : List Sg) (i : Nat) (a : Ac) (x : Sg) : stp ts 3 rl q i a x = (stDrop ts.2.2.2.1 a.1 x, a.2) := rfl
theorem stp4 (ts : TS) (rl : Int32) (q : List Sg) (i : Nat) (a : Ac) (x : Sg) : stp ts 4 rl q i a x = (if i < a.2 then a else match longest ts.2.2.2.2 (q.map (·.1)) i with
    | none => ((a.1.1 ++ [x], a.1.2), a.2)
    | some s => ((a.1.1 ++ s.2.map (fun v => (v, x.2.1, ((q[i + s.1.length - 1]?).map (·.2.2)).getD 0)), a.1.2.1 + 1, a.1.2.2), i + s.1.length)) := rfl
theorem stp5 (ts : TS) (rl : Int32) (q : List Sg) (i : Nat) (a : Ac) (x : Sg) : stp ts 5 rl q i a x = (stHalf rl a.1 x, a.2) := rfl
theorem stp6 (ts : TS) (rl : Int32) (q : List Sg) (i : Nat) (a : Ac) (x : Sg) : stp ts 6 rl q i a x = (stWide a.1 x, a.2) := rfl
theorem PInv.add {G : xG} {ts : TS} {K rl : Int32} {q acc : List Sg} {h h8 h9 : xh} {ro fa : Nat} {sm sg met gr : Int32} {i : Nat} {y : Sg} {v : Option Value} (hi : i < q.length) (f8 : Fr (PA ro fa) h h8) (hr8 : Rw G h8 ro acc) (hF8 : Fa h8 fa K rl sm sg met gr) (hst : (pasN ts K rl q (i + 1)).1 = (acc ++ [y], met, gr)) (hfr : ¬ At ro 4 fa)
    (hp : (acc.length < 300 ∧ v = some (.int 1) ∧ Rw G h9 ro (acc ++ [y]) ∧ Fr (At ro 4) h8 h9) ∨ (acc.length = 300 ∧ v = some (.int 0) ∧ h9 = h8)) : (v = some (.int 1) ∧ PInv G ts K rl q h ro fa sm sg (i + 1) h9) ∨ (v = some (.int 0) ∧ PBad G ts K rl q h ro fa sm sg (i + 1) h9) := by
  rcases hp with ⟨-, h1, h2, h3⟩ | ⟨h1, h2, rfl⟩
  · exact Or.inl ⟨h1, f8.tr (h3.mono (fun b z => Or.inl z)), by rw [hst]; exact h2, by rw [hst]; exact hF8.fr h3 hfr⟩
  · exact Or.inr ⟨h2, f8, hi, by rw [hst]; simp [h1], ⟨_, hr8⟩, _, _, hF8⟩
theorem PInv.keep {G : xG} {ts : TS} {K rl : Int32} {q acc : List Sg} {h h8 : xh} {ro fa : Nat} {sm sg met gr : Int32} {i : Nat} (f8 : Fr (PA ro fa) h h8) (hr8 : Rw G h8 ro acc) (hF8 : Fa h8 fa K rl sm sg met gr) (hst : (pasN ts K rl q (i + 1)).1 = (acc, met, gr)) : PInv G ts K rl q h ro fa sm sg (i + 1) h8 :=
  ⟨f8, by rw [hst]; exact hr8, by rw [hst]; exact hF8⟩
theorem nI_sub1 {n : Nat} (h : 0 < n) : nI n - 1 = nI (n - 1) := by
  obtain ⟨k, rfl⟩ : ∃ k, n = k + 1 := ⟨n - 1, by omega⟩
  exact nI_pred k
theorem narD_no {v : Int32} (h : narD v = -1) : ¬ (65281 ≤ v ∧ v ≤ 65374) ∧ ¬ v = 12288 := by
  refine ⟨fun z => ?_, fun z => ?_⟩
  · unfold narD at h
    rw [if_pos z] at h
    have h0 : ¬ v < 0 := fun q => by
      have := z.1
      simp only [Int32.lt_iff_toInt_lt, Int32.le_iff_toInt_le, Int32.reduceToInt] at *
      omega
    obtain ⟨j, hj, rfl⟩ := nI_of2 (n := 65374) (M := 65374) (by decide) h0 z.2
    have hj2 : 65248 ≤ j := by
      have h1 : nI 65281 ≤ nI j := z.1
      have := (nI_leI (by omega) (by omega)).mp h1
      omega
    have e : nI j - 65248 = nI (j - 65248) := pk_sub (b := 65248) hj2
    rw [e] at h
    exact nI_m1 (by omega) h
  · subst z
    exact absurd h (by decide)
theorem wide_no {v : Sg} {a : List Sg × Int32 × Int32} (h : narD v.1 = -1) : stWide a v = (a.1 ++ [v], a.2) := by
  unfold stWide
  rw [if_neg (narD_no h).1, if_neg (narD_no h).2]
theorem wide_yes {v : Sg} {a : List Sg × Int32 × Int32} (h : ¬ narD v.1 = -1) : stWide a v = (a.1 ++ [(narD v.1, v.2)], a.2.1 + 1, a.2.2) := by
  unfold stWide
  unfold narD at h ⊢
  by_cases h1 : 65281 ≤ v.1 ∧ v.1 ≤ 65374
  · simp only [if_pos h1]
  · by_cases h2 : v.1 = 12288
    · simp only [if_neg h1, if_pos h2]
    · rw [if_neg h1, if_neg h2] at h
      exact absurd rfl h
set_option maxRecDepth 100000 in
set_option maxHeartbeats 4000000 in
theorem c_row_add3 (l : Launch) (G : xG) {h : xh} {r : Nat} {q : List Sg} (a b d : Int32) (hr : Rw G h r q) : Ct l G yX5_add cX5_add 4 (Option.some Jvm.ClassFile.FieldType.boolean) { frames := 0, cells := 0, slots := 0, locals := 0 } [.ref r, .int a, .int b, .int d] h (fun v h' => (q.length < 300 ∧ v = some (.int 1) ∧ Rw G h' r (q ++ [(a, b, d)]) ∧ Fr (At r 4) h h') ∨ (q.length = 300 ∧ v = some (.int 0) ∧ h' = h)) := by
  exact c_row_add l G (a, b, d) hr
theorem half_hi {v : Int32} (h : 55296 ≤ v ∧ v ≤ 56319) : 55296 ≤ v ∧ v ≤ 57343 := by
  simp only [Int32.le_iff_toInt_le, Int32.reduceToInt] at *
  omega
theorem half_lo {v : Int32} (h : 56320 ≤ v ∧ v ≤ 57343) : 55296 ≤ v ∧ v ≤ 57343 := by
  simp only [Int32.le_iff_toInt_le, Int32.reduceToInt] at *
  omega
theorem half_no {v : Int32} (h : ¬ (55296 ≤ v ∧ v ≤ 56319)) (h2 : ¬ (56320 ≤ v ∧ v ≤ 57343)) : ¬ (55296 ≤ v ∧ v ≤ 57343) := by
  simp only [Int32.le_iff_toInt_le, Int32.reduceToInt] at *
  omega
set_option maxRecDepth 100000 in
set_option maxHeartbeats 4000000 in
theorem c_x_digits (l : Launch) (G : xG) {h : xh} {x fa ri ro : Nat} {dsz mk sm sg rl : Int32} {la s1 s2 : Nat} {q : List Sg} (ts : TS) (hO : h.1 x = some (eO 8 (co x dsz mk la s1 s2))) (hri : x + 19 ≤ ri ∧ ri + 4 ≤ x + 35) (hro : x + 19 ≤ ro ∧ ro + 4 ≤ x + 35) (hd : ri + 4 ≤ ro ∨ ro + 4 ≤ ri) (hfa : x + 35 ≤ fa) (hin : Rw G h ri q) (hout : Rw G h ro []) (hF : Fa h fa 2 rl sm sg 0 0) (hz : Zt G h (x + 11) ts.2.2.1) : Ct l G yX8_passDigits cX8_passDigits 8 (Option.some Jvm.ClassFile.FieldType.boolean) { frames := 2, cells := 0, slots := 0, locals := 42 } [.ref x, .ref fa, .ref ri, .ref ro] h (fun v h' => PPost G ts 2 rl q h ro fa sm sg v h') := by
  have hnd : ∀ b, At ri 4 b → ¬ PA ro fa b := fun b z1 z2 => by unfold PA At at *; omega
  have hnx : ¬ PA ro fa x := fun z2 => by unfold PA At at *; omega
  have hql := hin.1
  refine Ct.of [some (.ref x), some (.ref fa), some (.ref ri), some (.ref ro), none, none, none, none] (by decide +kernel) (Nat.le_of_ble_eq_true rfl) (fun p e s m args below meth c bs C hini => ?_)
  have fail : ∀ (i : Nat) (h1 : xh), PBad G ts 2 rl q h ro fa sm sg i h1 → X p l e { frames := 2, cells := 0, slots := 0, locals := 42 } s m args below meth c G bs (MQ below (x_Q G bs (fun v h' => PPost G ts 2 rl q h ro fa sm sg v h')) args s 0 0 (fun q => bs ≤ q)) 0 0 6 [some (.ref x), some (.ref fa), some (.ref ri), some (.ref ro), some (.int 0), some (.int (nI i)), none, none] [] h1 := by
    intro i h1 hb
    have hil := hb.2.1
    have hin1 := hin.fr hb.1 hnd
    have hio1 := hin1.ob
    refine x_iload C dX8_passDigits_6 (kk := ?_)
    refine x_aload_n C dX8_passDigits_8 (kk := ?_)
    refine x_callV C ml_X5_size lk_X8_85 (c_row_size l G hin1) dX8_passDigits_9 (fun r9 h9 hp9 => ?_)
    obtain ⟨rfl, rfl⟩ := hp9
    refine x_ncmp_ge C i q.length dX8_passDigits_12 83 (fun hc12 => ?_) (fun hc12 => ?_)
    · refine x_iload C dX8_passDigits_83 (kk := ?_)
      refine x_zret C rfl dX8_passDigits_85 (by first | exact Or.inl rfl | exact Or.inr rfl | assumption | exact ite01 _) (hp := ?_)
      exact hb.post
    · refine x_iload C dX8_passDigits_15 (kk := ?_)
      refine x_if_eq C dX8_passDigits_17 83 (fun hc17 => ?_) (fun hc17 => ?_)
      · refine x_iload C dX8_passDigits_83 (kk := ?_)
        refine x_zret C rfl dX8_passDigits_85 (by first | exact Or.inl rfl | exact Or.inr rfl | assumption | exact ite01 _) (hp := ?_)
        exact hb.post
      · exact absurd rfl hc17
  have loop : ∀ (n i : Nat) (h1 : xh), q.length - i < n → i ≤ q.length → PInv G ts 2 rl q h ro fa sm sg i h1 → X p l e { frames := 2, cells := 0, slots := 0, locals := 42 } s m args below meth c G bs (MQ below (x_Q G bs (fun v h' => PPost G ts 2 rl q h ro fa sm sg v h')) args s 0 0 (fun q => bs ≤ q)) 0 0 6 [some (.ref x), some (.ref fa), some (.ref ri), some (.ref ro), some (.int 1), some (.int (nI i)), none, none] [] h1 := by
    intro n
    induction n with
    | zero => intro i h1 hn; omega
    | succ n ih =>
      intro i h1 hn hi hinv
      have hf := hinv.1
      have ho1 := hinv.2.1
      have hF1 := hinv.2.2
      have hfo1 : h1.1 fa = _ := hF1
      have hin1 := hin.fr hf hnd
      have hio1 := hin1.ob
      have hoo1 := ho1.ob
      have hO1 := hf.at hnx hO
      have zt1 := hz.fr hf (fun b z1 z2 => by unfold PA At at *; omega)
      have hzo1 := zt1.2.1

      refine x_iload C dX8_passDigits_6 (kk := ?_)
      refine x_aload_n C dX8_passDigits_8 (kk := ?_)
      refine x_callV C ml_X5_size lk_X8_85 (c_row_size l G hin1) dX8_passDigits_9 (fun r9 h9 hp9 => ?_)
      obtain ⟨rfl, rfl⟩ := hp9
      refine x_ncmp_ge C i q.length dX8_passDigits_12 83 (fun hcz => ?_) (fun hcz => ?_)
      · refine x_iload C dX8_passDigits_83 (kk := ?_)
        refine x_zret C rfl dX8_passDigits_85 (Or.inr rfl) (hp := ?_)
        exact hinv.post (by omega)
      obtain ⟨v, hv⟩ : ∃ v, q[i]? = some v := ⟨q[i], List.getElem?_eq_getElem hcz⟩
      have hst := (pasN_at (ts := ts) (kind := 2) (rule := rl) hv).trans (stp2 ts rl q i _ v)
      refine x_iload C dX8_passDigits_15 (kk := ?_)
      refine x_if_eq C dX8_passDigits_17 83 (fun hc17 => ?_) (fun hc17 => ?_)
      · exact absurd hc17 (by decide)
      · refine x_aload_n C dX8_passDigits_20 (kk := ?_)
        refine x_iload C dX8_passDigits_21 (kk := ?_)
        refine x_callV C ml_X5_signAt lk_X8_147 (c_row_signAt l G hv hin1) dX8_passDigits_23 (fun r23 h23 hp23 => ?_)
        obtain ⟨rfl, rfl⟩ := hp23
        refine x_istore C dX8_passDigits_26 (kk := ?_)
        refine x_aload_n C dX8_passDigits_28 (kk := ?_)
        refine x_get C fl_X8_37 dX8_passDigits_29 (kk := ?_)
        refine x_iload C dX8_passDigits_32 (kk := ?_)
        refine x_callV C ml_X7_digitOf lk_X8_173 (c_z_digitOf l G v.1 zt1) dX8_passDigits_34 (fun r34 h34 hp34 => ?_)
        obtain ⟨rfl, rfl⟩ := hp34
        refine x_istore C dX8_passDigits_37 (kk := ?_)
        refine x_iload C dX8_passDigits_39 (kk := ?_)
        refine x_bipush C dX8_passDigits_41 (v := -9) (kk := ?_)
        refine x_icmp_eq C dX8_passDigits_43 57 (fun hc43 => ?_) (fun hc43 => ?_)
        · have hst2 : (pasN ts 2 rl q (i + 1)).1 = ((pasN ts 2 rl q i).1.1 ++ [v], (pasN ts 2 rl q i).1.2.1, (pasN ts 2 rl q i).1.2.2) := by rw [hst]; show stDig _ _ _ = _; unfold stDig; rw [if_pos hc43]
          have hin8 := hin1
          have ho8 := ho1
          have hF8 := hF1
          have f8 := hf
          have hO8 := hO1
          have hoo8 := hoo1
          have hio8 := hio1
          have hy : v.1 = v.1 := rfl
          refine x_aload_n C dX8_passDigits_57 (kk := ?_)
          refine x_iload C dX8_passDigits_58 (kk := ?_)
          refine x_aload_n C dX8_passDigits_60 (kk := ?_)
          refine x_iload C dX8_passDigits_61 (kk := ?_)
          refine x_callV C ml_X5_beginAt lk_X8_154 (c_row_beginAt l G hv hin8) dX8_passDigits_63 (fun r63 h63 hp63 => ?_)
          obtain ⟨rfl, rfl⟩ := hp63
          refine x_aload_n C dX8_passDigits_66 (kk := ?_)
          refine x_iload C dX8_passDigits_67 (kk := ?_)
          refine x_callV C ml_X5_endAt lk_X8_151 (c_row_endAt l G hv hin8) dX8_passDigits_69 (fun r69 h69 hp69 => ?_)
          obtain ⟨rfl, rfl⟩ := hp69
          refine x_callV C ml_X5_add lk_X8_199 (c_row_add3 l G _ v.2.1 v.2.2 ho8) dX8_passDigits_72 (fun r72 h72 hp72 => ?_)
          rcases PInv.add hcz f8 ho8 hF8 hst2 (by unfold At; omega) hp72 with ⟨rfl, hinv2⟩ | ⟨rfl, hbad⟩
          rotate_left
          · skip
            refine x_istore C dX8_passDigits_75 (kk := ?_)
            refine x_iinc1 C dX8_passDigits_77 (kk := ?_)
            refine x_goto C dX8_passDigits_80 6 ?_
            refine x_fg 6 ?_
            refine x_fg 7 ?_
            first | exact ih (i + 1) _ (by omega) (by omega) hinv2 | exact fail (i + 1) _ hbad
          refine x_istore C dX8_passDigits_75 (kk := ?_)
          refine x_iinc1 C dX8_passDigits_77 (kk := ?_)
          refine x_goto C dX8_passDigits_80 6 ?_
          refine x_fg 6 ?_
          refine x_fg 7 ?_
          first | exact ih (i + 1) _ (by omega) (by omega) hinv2 | exact fail (i + 1) _ hbad
        have hst2 : (pasN ts 2 rl q (i + 1)).1 = ((pasN ts 2 rl q i).1.1 ++ [(48 + zdig ts.2.2.1 v.1, v.2)], (pasN ts 2 rl q i).1.2.1 + 1, (pasN ts 2 rl q i).1.2.2) := by rw [hst]; show stDig _ _ _ = _; unfold stDig; rw [if_neg hc43]
        refine x_aload_n C dX8_passDigits_46 (kk := ?_)
        refine x_callV C ml_X0_meetOne lk_X8_228 (c_f_meet l G hF1) dX8_passDigits_47 (fun r47 h47 hp47 => ?_)
        obtain ⟨rfl, hF8, hfr8⟩ := hp47
        have hin8 := hin1.fr hfr8 (fun b z1 z2 => by unfold At at *; omega)
        have ho8 := ho1.fr hfr8 (fun b z1 z2 => by unfold At at *; omega)
        have f8 := hf.tr (hfr8.mono (fun b z => Or.inr (by unfold At at z; omega)))
        have hoo8 := ho8.ob
        have hio8 := hin8.ob
        have hO8 := hfr8.at (by unfold At; omega) hO1
        refine x_bipush C dX8_passDigits_50 (v := 48) (kk := ?_)
        refine x_iload C dX8_passDigits_52 (kk := ?_)
        refine x_iadd C dX8_passDigits_54 ?_
        refine x_istore C dX8_passDigits_55 (kk := ?_)
        refine x_aload_n C dX8_passDigits_57 (kk := ?_)
        refine x_iload C dX8_passDigits_58 (kk := ?_)
        refine x_aload_n C dX8_passDigits_60 (kk := ?_)
        refine x_iload C dX8_passDigits_61 (kk := ?_)
        refine x_callV C ml_X5_beginAt lk_X8_154 (c_row_beginAt l G hv hin8) dX8_passDigits_63 (fun r63 h63 hp63 => ?_)
        obtain ⟨rfl, rfl⟩ := hp63
        refine x_aload_n C dX8_passDigits_66 (kk := ?_)
        refine x_iload C dX8_passDigits_67 (kk := ?_)
        refine x_callV C ml_X5_endAt lk_X8_151 (c_row_endAt l G hv hin8) dX8_passDigits_69 (fun r69 h69 hp69 => ?_)
        obtain ⟨rfl, rfl⟩ := hp69
        refine x_callV C ml_X5_add lk_X8_199 (c_row_add3 l G _ v.2.1 v.2.2 ho8) dX8_passDigits_72 (fun r72 h72 hp72 => ?_)
        rcases PInv.add hcz f8 ho8 hF8 hst2 (by unfold At; omega) hp72 with ⟨rfl, hinv2⟩ | ⟨rfl, hbad⟩
        rotate_left
        · skip
          refine x_istore C dX8_passDigits_75 (kk := ?_)
          refine x_iinc1 C dX8_passDigits_77 (kk := ?_)
          refine x_goto C dX8_passDigits_80 6 ?_
          refine x_fg 6 ?_
          refine x_fg 7 ?_
          first | exact ih (i + 1) _ (by omega) (by omega) hinv2 | exact fail (i + 1) _ hbad
        refine x_istore C dX8_passDigits_75 (kk := ?_)
        refine x_iinc1 C dX8_passDigits_77 (kk := ?_)
        refine x_goto C dX8_passDigits_80 6 ?_
        refine x_fg 6 ?_
        refine x_fg 7 ?_
        first | exact ih (i + 1) _ (by omega) (by omega) hinv2 | exact fail (i + 1) _ hbad
  refine x_iconst C dX8_passDigits_0 (v := 1) (kk := ?_)
  refine x_istore C dX8_passDigits_1 (kk := ?_)
  refine x_iconst C dX8_passDigits_3 (v := 0) (kk := ?_)
  refine x_istore C dX8_passDigits_4 (kk := ?_)
  exact loop (q.length + 1) 0 h (by omega) (by omega) ⟨Fr.rf, hout, hF⟩
set_option maxRecDepth 100000 in
set_option maxHeartbeats 4000000 in
theorem c_x_dropping (l : Launch) (G : xG) {h : xh} {x fa ri ro : Nat} {dsz mk sm sg rl : Int32} {la s1 s2 : Nat} {q : List Sg} (ts : TS) (hO : h.1 x = some (eO 8 (co x dsz mk la s1 s2))) (hri : x + 19 ≤ ri ∧ ri + 4 ≤ x + 35) (hro : x + 19 ≤ ro ∧ ro + 4 ≤ x + 35) (hd : ri + 4 ≤ ro ∨ ro + 4 ≤ ri) (hfa : x + 35 ≤ fa) (hin : Rw G h ri q) (hout : Rw G h ro []) (hF : Fa h fa 3 rl sm sg 0 0) (hz : Rt G h (x + 13) ts.2.2.2.1) : Ct l G yX8_passDropping cX8_passDropping 6 (Option.some Jvm.ClassFile.FieldType.boolean) { frames := 2, cells := 0, slots := 0, locals := 42 } [.ref x, .ref fa, .ref ri, .ref ro] h (fun v h' => PPost G ts 3 rl q h ro fa sm sg v h') := by
  have hnd : ∀ b, At ri 4 b → ¬ PA ro fa b := fun b z1 z2 => by unfold PA At at *; omega
  have hnx : ¬ PA ro fa x := fun z2 => by unfold PA At at *; omega
  have hql := hin.1
  refine Ct.of [some (.ref x), some (.ref fa), some (.ref ri), some (.ref ro), none, none] (by decide +kernel) (Nat.le_of_ble_eq_true rfl) (fun p e s m args below meth c bs C hini => ?_)
  have fail : ∀ (i : Nat) (h1 : xh), PBad G ts 3 rl q h ro fa sm sg i h1 → X p l e { frames := 2, cells := 0, slots := 0, locals := 42 } s m args below meth c G bs (MQ below (x_Q G bs (fun v h' => PPost G ts 3 rl q h ro fa sm sg v h')) args s 0 0 (fun q => bs ≤ q)) 0 0 6 [some (.ref x), some (.ref fa), some (.ref ri), some (.ref ro), some (.int 0), some (.int (nI i))] [] h1 := by
    intro i h1 hb
    have hil := hb.2.1
    have hin1 := hin.fr hb.1 hnd
    have hio1 := hin1.ob
    refine x_iload C dX8_passDropping_6 (kk := ?_)
    refine x_aload_n C dX8_passDropping_8 (kk := ?_)
    refine x_callV C ml_X5_size lk_X8_85 (c_row_size l G hin1) dX8_passDropping_9 (fun r9 h9 hp9 => ?_)
    obtain ⟨rfl, rfl⟩ := hp9
    refine x_ncmp_ge C i q.length dX8_passDropping_12 73 (fun hc12 => ?_) (fun hc12 => ?_)
    · refine x_iload C dX8_passDropping_73 (kk := ?_)
      refine x_zret C rfl dX8_passDropping_75 (by first | exact Or.inl rfl | exact Or.inr rfl | assumption | exact ite01 _) (hp := ?_)
      exact hb.post
    · refine x_iload C dX8_passDropping_15 (kk := ?_)
      refine x_if_eq C dX8_passDropping_17 73 (fun hc17 => ?_) (fun hc17 => ?_)
      · refine x_iload C dX8_passDropping_73 (kk := ?_)
        refine x_zret C rfl dX8_passDropping_75 (by first | exact Or.inl rfl | exact Or.inr rfl | assumption | exact ite01 _) (hp := ?_)
        exact hb.post
      · exact absurd rfl hc17
  have loop : ∀ (n i : Nat) (h1 : xh), q.length - i < n → i ≤ q.length → PInv G ts 3 rl q h ro fa sm sg i h1 → X p l e { frames := 2, cells := 0, slots := 0, locals := 42 } s m args below meth c G bs (MQ below (x_Q G bs (fun v h' => PPost G ts 3 rl q h ro fa sm sg v h')) args s 0 0 (fun q => bs ≤ q)) 0 0 6 [some (.ref x), some (.ref fa), some (.ref ri), some (.ref ro), some (.int 1), some (.int (nI i))] [] h1 := by
    intro n
    induction n with
    | zero => intro i h1 hn; omega
    | succ n ih =>
      intro i h1 hn hi hinv
      have hf := hinv.1
      have ho1 := hinv.2.1
      have hF1 := hinv.2.2
      have hfo1 : h1.1 fa = _ := hF1
      have hin1 := hin.fr hf hnd
      have hio1 := hin1.ob
      have hoo1 := ho1.ob
      have hO1 := hf.at hnx hO
      have rt1 := hz.fr hf (fun b z1 z2 => by unfold PA At at *; omega)
      have hzo1 := rt1.2.1

      refine x_iload C dX8_passDropping_6 (kk := ?_)
      refine x_aload_n C dX8_passDropping_8 (kk := ?_)
      refine x_callV C ml_X5_size lk_X8_85 (c_row_size l G hin1) dX8_passDropping_9 (fun r9 h9 hp9 => ?_)
      obtain ⟨rfl, rfl⟩ := hp9
      refine x_ncmp_ge C i q.length dX8_passDropping_12 73 (fun hcz => ?_) (fun hcz => ?_)
      · refine x_iload C dX8_passDropping_73 (kk := ?_)
        refine x_zret C rfl dX8_passDropping_75 (Or.inr rfl) (hp := ?_)
        exact hinv.post (by omega)
      obtain ⟨v, hv⟩ : ∃ v, q[i]? = some v := ⟨q[i], List.getElem?_eq_getElem hcz⟩
      have hst := (pasN_at (ts := ts) (kind := 3) (rule := rl) hv).trans (stp3 ts rl q i _ v)
      refine x_iload C dX8_passDropping_15 (kk := ?_)
      refine x_if_eq C dX8_passDropping_17 73 (fun hc17 => ?_) (fun hc17 => ?_)
      · exact absurd hc17 (by decide)
      · refine x_aload_n C dX8_passDropping_20 (kk := ?_)
        refine x_get C fl_X8_44 dX8_passDropping_21 (kk := ?_)
        refine x_aload_n C dX8_passDropping_24 (kk := ?_)
        refine x_iload C dX8_passDropping_25 (kk := ?_)
        refine x_callV C ml_X5_signAt lk_X8_147 (c_row_signAt l G hv hin1) dX8_passDropping_27 (fun r27 h27 hp27 => ?_)
        obtain ⟨rfl, rfl⟩ := hp27
        refine x_callV C ml_X3_holds lk_X8_250 (c_r_holds l G v.1 rt1) dX8_passDropping_30 (fun r30 h30 hp30 => ?_)
        obtain ⟨rfl, rfl⟩ := hp30
        refine x_ifB_eq C dX8_passDropping_33 43 (fun hc33 => ?_) (fun hc33 => ?_)
        · have hst2 : (pasN ts 3 rl q (i + 1)).1 = ((pasN ts 3 rl q i).1.1 ++ [v], (pasN ts 3 rl q i).1.2.1, (pasN ts 3 rl q i).1.2.2) := by rw [hst]; show stDrop _ _ _ = _; unfold stDrop; rw [if_neg hc33]
          have hin8 := hin1
          have ho8 := ho1
          have hF8 := hF1
          have f8 := hf
          have hO8 := hO1
          have hoo8 := hoo1
          have hio8 := hio1
          refine x_aload_n C dX8_passDropping_43 (kk := ?_)
          refine x_aload_n C dX8_passDropping_44 (kk := ?_)
          refine x_iload C dX8_passDropping_45 (kk := ?_)
          refine x_callV C ml_X5_signAt lk_X8_147 (c_row_signAt l G hv hin8) dX8_passDropping_47 (fun r47 h47 hp47 => ?_)
          obtain ⟨rfl, rfl⟩ := hp47
          refine x_aload_n C dX8_passDropping_50 (kk := ?_)
          refine x_iload C dX8_passDropping_51 (kk := ?_)
          refine x_callV C ml_X5_beginAt lk_X8_154 (c_row_beginAt l G hv hin8) dX8_passDropping_53 (fun r53 h53 hp53 => ?_)
          obtain ⟨rfl, rfl⟩ := hp53
          refine x_aload_n C dX8_passDropping_56 (kk := ?_)
          refine x_iload C dX8_passDropping_57 (kk := ?_)
          refine x_callV C ml_X5_endAt lk_X8_151 (c_row_endAt l G hv hin8) dX8_passDropping_59 (fun r59 h59 hp59 => ?_)
          obtain ⟨rfl, rfl⟩ := hp59
          refine x_callV C ml_X5_add lk_X8_199 (c_row_add l G v ho8) dX8_passDropping_62 (fun r62 h62 hp62 => ?_)
          rcases PInv.add hcz f8 ho8 hF8 hst2 (by unfold At; omega) hp62 with ⟨rfl, hinv2⟩ | ⟨rfl, hbad⟩
          rotate_left
          · skip
            refine x_istore C dX8_passDropping_65 (kk := ?_)
            refine x_iinc1 C dX8_passDropping_67 (kk := ?_)
            refine x_goto C dX8_passDropping_70 6 ?_
            first | exact ih (i + 1) _ (by omega) (by omega) hinv2 | exact fail (i + 1) _ hbad
          refine x_istore C dX8_passDropping_65 (kk := ?_)
          refine x_iinc1 C dX8_passDropping_67 (kk := ?_)
          refine x_goto C dX8_passDropping_70 6 ?_
          first | exact ih (i + 1) _ (by omega) (by omega) hinv2 | exact fail (i + 1) _ hbad
        have hst2 : (pasN ts 3 rl q (i + 1)).1 = ((pasN ts 3 rl q i).1.1, (pasN ts 3 rl q i).1.2.1 + 1, (pasN ts 3 rl q i).1.2.2) := by rw [hst]; show stDrop _ _ _ = _; unfold stDrop; rw [if_pos hc33]
        refine x_aload_n C dX8_passDropping_36 (kk := ?_)
        refine x_callV C ml_X0_meetOne lk_X8_228 (c_f_meet l G hF1) dX8_passDropping_37 (fun r37 h37 hp37 => ?_)
        obtain ⟨rfl, hF8, hfr8⟩ := hp37
        have hin8 := hin1.fr hfr8 (fun b z1 z2 => by unfold At at *; omega)
        have ho8 := ho1.fr hfr8 (fun b z1 z2 => by unfold At at *; omega)
        have f8 := hf.tr (hfr8.mono (fun b z => Or.inr (by unfold At at z; omega)))
        have hoo8 := ho8.ob
        have hio8 := hin8.ob
        have hO8 := hfr8.at (by unfold At; omega) hO1
        have hinv2 := PInv.keep f8 ho8 hF8 hst2
        refine x_goto C dX8_passDropping_40 67 ?_
        refine x_iinc1 C dX8_passDropping_67 (kk := ?_)
        refine x_goto C dX8_passDropping_70 6 ?_
        first | exact ih (i + 1) _ (by omega) (by omega) hinv2 | exact fail (i + 1) _ hbad
  refine x_iconst C dX8_passDropping_0 (v := 1) (kk := ?_)
  refine x_istore C dX8_passDropping_1 (kk := ?_)
  refine x_iconst C dX8_passDropping_3 (v := 0) (kk := ?_)
  refine x_istore C dX8_passDropping_4 (kk := ?_)
  exact loop (q.length + 1) 0 h (by omega) (by omega) ⟨Fr.rf, hout, hF⟩
set_option maxRecDepth 100000 in
set_option maxHeartbeats 4000000 in
theorem c_x_widths (l : Launch) (G : xG) {h : xh} {x fa ri ro : Nat} {dsz mk sm sg rl : Int32} {la s1 s2 : Nat} {q : List Sg} (ts : TS) (hO : h.1 x = some (eO 8 (co x dsz mk la s1 s2))) (hri : x + 19 ≤ ri ∧ ri + 4 ≤ x + 35) (hro : x + 19 ≤ ro ∧ ro + 4 ≤ x + 35) (hd : ri + 4 ≤ ro ∨ ro + 4 ≤ ri) (hfa : x + 35 ≤ fa) (hin : Rw G h ri q) (hout : Rw G h ro []) (hF : Fa h fa 6 rl sm sg 0 0)  : Ct l G yX8_passWidths cX8_passWidths 8 (Option.some Jvm.ClassFile.FieldType.boolean) { frames := 2, cells := 0, slots := 0, locals := 42 } [.ref x, .ref fa, .ref ri, .ref ro] h (fun v h' => PPost G ts 6 rl q h ro fa sm sg v h') := by
  have hnd : ∀ b, At ri 4 b → ¬ PA ro fa b := fun b z1 z2 => by unfold PA At at *; omega
  have hnx : ¬ PA ro fa x := fun z2 => by unfold PA At at *; omega
  have hql := hin.1
  refine Ct.of [some (.ref x), some (.ref fa), some (.ref ri), some (.ref ro), none, none, none, none] (by decide +kernel) (Nat.le_of_ble_eq_true rfl) (fun p e s m args below meth c bs C hini => ?_)
  have fail : ∀ (i : Nat) (h1 : xh), PBad G ts 6 rl q h ro fa sm sg i h1 → X p l e { frames := 2, cells := 0, slots := 0, locals := 42 } s m args below meth c G bs (MQ below (x_Q G bs (fun v h' => PPost G ts 6 rl q h ro fa sm sg v h')) args s 0 0 (fun q => bs ≤ q)) 0 0 6 [some (.ref x), some (.ref fa), some (.ref ri), some (.ref ro), some (.int 0), some (.int (nI i)), none, none] [] h1 := by
    intro i h1 hb
    have hil := hb.2.1
    have hin1 := hin.fr hb.1 hnd
    have hio1 := hin1.ob
    refine x_iload C dX8_passWidths_6 (kk := ?_)
    refine x_aload_n C dX8_passWidths_8 (kk := ?_)
    refine x_callV C ml_X5_size lk_X8_85 (c_row_size l G hin1) dX8_passWidths_9 (fun r9 h9 hp9 => ?_)
    obtain ⟨rfl, rfl⟩ := hp9
    refine x_ncmp_ge C i q.length dX8_passWidths_12 75 (fun hc12 => ?_) (fun hc12 => ?_)
    · refine x_iload C dX8_passWidths_75 (kk := ?_)
      refine x_zret C rfl dX8_passWidths_77 (by first | exact Or.inl rfl | exact Or.inr rfl | assumption | exact ite01 _) (hp := ?_)
      exact hb.post
    · refine x_iload C dX8_passWidths_15 (kk := ?_)
      refine x_if_eq C dX8_passWidths_17 75 (fun hc17 => ?_) (fun hc17 => ?_)
      · refine x_iload C dX8_passWidths_75 (kk := ?_)
        refine x_zret C rfl dX8_passWidths_77 (by first | exact Or.inl rfl | exact Or.inr rfl | assumption | exact ite01 _) (hp := ?_)
        exact hb.post
      · exact absurd rfl hc17
  have loop : ∀ (n i : Nat) (h1 : xh), q.length - i < n → i ≤ q.length → PInv G ts 6 rl q h ro fa sm sg i h1 → X p l e { frames := 2, cells := 0, slots := 0, locals := 42 } s m args below meth c G bs (MQ below (x_Q G bs (fun v h' => PPost G ts 6 rl q h ro fa sm sg v h')) args s 0 0 (fun q => bs ≤ q)) 0 0 6 [some (.ref x), some (.ref fa), some (.ref ri), some (.ref ro), some (.int 1), some (.int (nI i)), none, none] [] h1 := by
    intro n
    induction n with
    | zero => intro i h1 hn; omega
    | succ n ih =>
      intro i h1 hn hi hinv
      have hf := hinv.1
      have ho1 := hinv.2.1
      have hF1 := hinv.2.2
      have hfo1 : h1.1 fa = _ := hF1
      have hin1 := hin.fr hf hnd
      have hio1 := hin1.ob
      have hoo1 := ho1.ob
      have hO1 := hf.at hnx hO
      have hzz : True := trivial

      refine x_iload C dX8_passWidths_6 (kk := ?_)
      refine x_aload_n C dX8_passWidths_8 (kk := ?_)
      refine x_callV C ml_X5_size lk_X8_85 (c_row_size l G hin1) dX8_passWidths_9 (fun r9 h9 hp9 => ?_)
      obtain ⟨rfl, rfl⟩ := hp9
      refine x_ncmp_ge C i q.length dX8_passWidths_12 75 (fun hcz => ?_) (fun hcz => ?_)
      · refine x_iload C dX8_passWidths_75 (kk := ?_)
        refine x_zret C rfl dX8_passWidths_77 (Or.inr rfl) (hp := ?_)
        exact hinv.post (by omega)
      obtain ⟨v, hv⟩ : ∃ v, q[i]? = some v := ⟨q[i], List.getElem?_eq_getElem hcz⟩
      have hst := (pasN_at (ts := ts) (kind := 6) (rule := rl) hv).trans (stp6 ts rl q i _ v)
      refine x_iload C dX8_passWidths_15 (kk := ?_)
      refine x_if_eq C dX8_passWidths_17 75 (fun hc17 => ?_) (fun hc17 => ?_)
      · exact absurd hc17 (by decide)
      · refine x_aload_n C dX8_passWidths_20 (kk := ?_)
        refine x_iload C dX8_passWidths_21 (kk := ?_)
        refine x_callV C ml_X5_signAt lk_X8_147 (c_row_signAt l G hv hin1) dX8_passWidths_23 (fun r23 h23 hp23 => ?_)
        obtain ⟨rfl, rfl⟩ := hp23
        refine x_istore C dX8_passWidths_26 (kk := ?_)
        refine x_iload C dX8_passWidths_28 (kk := ?_)
        refine x_callS C ml_X8_narrowed lk_X8_267 (c_narrowed l G v.1) dX8_passWidths_30 (fun r30 h30 hp30 => ?_)
        obtain ⟨rfl, rfl⟩ := hp30
        refine x_istore C dX8_passWidths_33 (kk := ?_)
        refine x_iload C dX8_passWidths_35 (kk := ?_)
        refine x_iconst C dX8_passWidths_37 (v := -1) (kk := ?_)
        refine x_icmp_eq C dX8_passWidths_38 49 (fun hc38 => ?_) (fun hc38 => ?_)
        · have hst2 : (pasN ts 6 rl q (i + 1)).1 = ((pasN ts 6 rl q i).1.1 ++ [v], (pasN ts 6 rl q i).1.2.1, (pasN ts 6 rl q i).1.2.2) := by rw [hst]; show stWide _ _ = _; exact wide_no hc38
          have hin8 := hin1
          have ho8 := ho1
          have hF8 := hF1
          have f8 := hf
          have hO8 := hO1
          have hoo8 := hoo1
          have hio8 := hio1
          refine x_aload_n C dX8_passWidths_49 (kk := ?_)
          refine x_iload C dX8_passWidths_50 (kk := ?_)
          refine x_aload_n C dX8_passWidths_52 (kk := ?_)
          refine x_iload C dX8_passWidths_53 (kk := ?_)
          refine x_callV C ml_X5_beginAt lk_X8_154 (c_row_beginAt l G hv hin8) dX8_passWidths_55 (fun r55 h55 hp55 => ?_)
          obtain ⟨rfl, rfl⟩ := hp55
          refine x_aload_n C dX8_passWidths_58 (kk := ?_)
          refine x_iload C dX8_passWidths_59 (kk := ?_)
          refine x_callV C ml_X5_endAt lk_X8_151 (c_row_endAt l G hv hin8) dX8_passWidths_61 (fun r61 h61 hp61 => ?_)
          obtain ⟨rfl, rfl⟩ := hp61
          refine x_callV C ml_X5_add lk_X8_199 (c_row_add3 l G _ v.2.1 v.2.2 ho8) dX8_passWidths_64 (fun r64 h64 hp64 => ?_)
          rcases PInv.add hcz f8 ho8 hF8 hst2 (by unfold At; omega) hp64 with ⟨rfl, hinv2⟩ | ⟨rfl, hbad⟩
          rotate_left
          · skip
            refine x_istore C dX8_passWidths_67 (kk := ?_)
            refine x_iinc1 C dX8_passWidths_69 (kk := ?_)
            refine x_goto C dX8_passWidths_72 6 ?_
            refine x_fg 6 ?_
            refine x_fg 7 ?_
            first | exact ih (i + 1) _ (by omega) (by omega) hinv2 | exact fail (i + 1) _ hbad
          refine x_istore C dX8_passWidths_67 (kk := ?_)
          refine x_iinc1 C dX8_passWidths_69 (kk := ?_)
          refine x_goto C dX8_passWidths_72 6 ?_
          refine x_fg 6 ?_
          refine x_fg 7 ?_
          first | exact ih (i + 1) _ (by omega) (by omega) hinv2 | exact fail (i + 1) _ hbad
        have hst2 : (pasN ts 6 rl q (i + 1)).1 = ((pasN ts 6 rl q i).1.1 ++ [(narD v.1, v.2)], (pasN ts 6 rl q i).1.2.1 + 1, (pasN ts 6 rl q i).1.2.2) := by rw [hst]; show stWide _ _ = _; exact wide_yes hc38
        refine x_aload_n C dX8_passWidths_41 (kk := ?_)
        refine x_callV C ml_X0_meetOne lk_X8_228 (c_f_meet l G hF1) dX8_passWidths_42 (fun r42 h42 hp42 => ?_)
        obtain ⟨rfl, hF8, hfr8⟩ := hp42
        have hin8 := hin1.fr hfr8 (fun b z1 z2 => by unfold At at *; omega)
        have ho8 := ho1.fr hfr8 (fun b z1 z2 => by unfold At at *; omega)
        have f8 := hf.tr (hfr8.mono (fun b z => Or.inr (by unfold At at z; omega)))
        have hoo8 := ho8.ob
        have hio8 := hin8.ob
        have hO8 := hfr8.at (by unfold At; omega) hO1
        refine x_iload C dX8_passWidths_45 (kk := ?_)
        refine x_istore C dX8_passWidths_47 (kk := ?_)
        refine x_aload_n C dX8_passWidths_49 (kk := ?_)
        refine x_iload C dX8_passWidths_50 (kk := ?_)
        refine x_aload_n C dX8_passWidths_52 (kk := ?_)
        refine x_iload C dX8_passWidths_53 (kk := ?_)
        refine x_callV C ml_X5_beginAt lk_X8_154 (c_row_beginAt l G hv hin8) dX8_passWidths_55 (fun r55 h55 hp55 => ?_)
        obtain ⟨rfl, rfl⟩ := hp55
        refine x_aload_n C dX8_passWidths_58 (kk := ?_)
        refine x_iload C dX8_passWidths_59 (kk := ?_)
        refine x_callV C ml_X5_endAt lk_X8_151 (c_row_endAt l G hv hin8) dX8_passWidths_61 (fun r61 h61 hp61 => ?_)
        obtain ⟨rfl, rfl⟩ := hp61
        refine x_callV C ml_X5_add lk_X8_199 (c_row_add3 l G _ v.2.1 v.2.2 ho8) dX8_passWidths_64 (fun r64 h64 hp64 => ?_)
        rcases PInv.add hcz f8 ho8 hF8 hst2 (by unfold At; omega) hp64 with ⟨rfl, hinv2⟩ | ⟨rfl, hbad⟩
        rotate_left
        · skip
          refine x_istore C dX8_passWidths_67 (kk := ?_)
          refine x_iinc1 C dX8_passWidths_69 (kk := ?_)
          refine x_goto C dX8_passWidths_72 6 ?_
          refine x_fg 6 ?_
          refine x_fg 7 ?_
          first | exact ih (i + 1) _ (by omega) (by omega) hinv2 | exact fail (i + 1) _ hbad
        refine x_istore C dX8_passWidths_67 (kk := ?_)
        refine x_iinc1 C dX8_passWidths_69 (kk := ?_)
        refine x_goto C dX8_passWidths_72 6 ?_
        refine x_fg 6 ?_
        refine x_fg 7 ?_
        first | exact ih (i + 1) _ (by omega) (by omega) hinv2 | exact fail (i + 1) _ hbad
  refine x_iconst C dX8_passWidths_0 (v := 1) (kk := ?_)
  refine x_istore C dX8_passWidths_1 (kk := ?_)
  refine x_iconst C dX8_passWidths_3 (v := 0) (kk := ?_)
  refine x_istore C dX8_passWidths_4 (kk := ?_)
  exact loop (q.length + 1) 0 h (by omega) (by omega) ⟨Fr.rf, hout, hF⟩
