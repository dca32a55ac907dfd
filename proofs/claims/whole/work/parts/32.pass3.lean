/-! THE FILTERS OF THE CLASS, III: strings replaced -/
theorem longest_in {w : List Int32} {i : Nat} {s : Sr} : ∀ (ss : List Sr) (best : Option Sr), (∀ b, best = some b → stands b.1 w i = true) → ss.foldl (lstep w i) best = some s → stands s.1 w i = true := by
  intro ss
  induction ss with
  | nil => intro best hb h; exact hb s h
  | cons a t ih =>
    intro best hb h
    refine ih _ (fun b hbe => ?_) h
    by_cases hs : stands a.1 w i = true
    · cases best with
      | none => rw [lstep_new hs] at hbe; cases hbe; exact hs
      | some z =>
        by_cases hl : z.1.length < a.1.length
        · rw [lstep_gt hs hl] at hbe; cases hbe; exact hs
        · rw [lstep_le (by omega)] at hbe; exact hb b hbe
    · rw [lstep_no hs] at hbe
      exact hb b hbe
theorem longest_st {ss : List Sr} {w : List Int32} {i : Nat} {s : Sr} (h : longest ss w i = some s) : stands s.1 w i = true := longest_in ss none (fun b h => by cases h) h
/-- a row of signs and a string's row are apart -/
theorem rp_row {G : xG} {h : xh} {q r : Nat} {w : Sr} {y : List Sg} (k : Rp G h q w) (hr : Rw G h r y) : q + 3 ≤ r ∨ r + 4 ≤ q := by
  obtain ⟨k0, k1, k2, h3, f, g, h4, h5, -⟩ := k
  obtain ⟨-, f0, f1, f2, ⟨g0, g1, g2, g3⟩, -⟩ := hr
  have e1 : q ≠ r := by intro z; subst z; rw [h3] at g0; simp [eO] at g0
  have e2 : q + 1 ≠ r := by intro z; rw [← z, h4] at g0; simp [eO, eI] at g0
  have e3 : q + 2 ≠ r := by intro z; rw [← z, h5] at g0; simp [eO, eI] at g0
  have e4 : q ≠ r + 1 := by intro z; rw [← z, h3] at g1; simp [eO, eI] at g1
  have e5 : q ≠ r + 2 := by intro z; rw [← z, h3] at g2; simp [eO, eI] at g2
  have e6 : q ≠ r + 3 := by intro z; rw [← z, h3] at g3; simp [eO, eI] at g3
  omega
set_option maxRecDepth 100000 in
set_option maxHeartbeats 4000000 in
theorem c_x_replacing (l : Launch) (G : xG) {h : xh} {x fa ri ro dy : Nat} {dsz mk sm sg rl : Int32} {la s1 s2 : Nat} {q : List Sg} (ts : TS) (hO : h.1 x = some (eO 8 (co x dsz mk la s1 s2))) (hri : x + 19 ≤ ri ∧ ri + 4 ≤ x + 35) (hro : x + 19 ≤ ro ∧ ro + 4 ≤ x + 35) (hd : ri + 4 ≤ ro ∨ ro + 4 ≤ ri) (hfa : x + 35 ≤ fa) (hdy : x + 35 ≤ dy) (hin : Rw G h ri q) (hout : Rw G h ro []) (hF : Fa h fa 4 rl sm sg 0 0) (hz : Sx G h (x + 16) dy ts.2.2.2.2) : Ct l G yX8_passReplacing cX8_passReplacing 8 (Option.some Jvm.ClassFile.FieldType.boolean) { frames := 4, cells := 0, slots := 0, locals := 90 } [.ref x, .ref fa, .ref ri, .ref ro] h (fun v h' => PPost G ts 4 rl q h ro fa sm sg v h') := by
  have hnd : ∀ b, At ri 4 b → ¬ PA ro fa b := fun b z1 z2 => by unfold PA At at *; omega
  have hnx : ¬ PA ro fa x := fun z2 => by unfold PA At at *; omega
  have hql := hin.1
  refine Ct.of [some (.ref x), some (.ref fa), some (.ref ri), some (.ref ro), none, none, none, none] (by decide +kernel) (Nat.le_of_ble_eq_true rfl) (fun p e s m args below meth c bs C hini => ?_)
  have fail : ∀ (i : Nat) (h1 : xh) (bb : Int32), PBad G ts 4 rl q h ro fa sm sg i h1 → X p l e { frames := 4, cells := 0, slots := 0, locals := 90 } s m args below meth c G bs (MQ below (x_Q G bs (fun v h' => PPost G ts 4 rl q h ro fa sm sg v h')) args s 0 0 (fun q => bs ≤ q)) 0 0 9 [some (.ref x), some (.ref fa), some (.ref ri), some (.ref ro), some (.int 0), some (.int bb), some (.int (nI i)), none] [] h1 := by
    intro i h1 bb hb
    have hil := hb.2.1
    have hin1 := hin.fr hb.1 hnd
    have hio1 := hin1.ob
    refine x_iload C dX8_passReplacing_9 (kk := ?_)
    refine x_aload_n C dX8_passReplacing_11 (kk := ?_)
    refine x_callV C ml_X5_size lk_X8_85 (c_row_size l G hin1) dX8_passReplacing_12 (fun r12 h12 hp12 => ?_)
    obtain ⟨rfl, rfl⟩ := hp12
    refine x_ncmp_ge C i q.length dX8_passReplacing_15 116 (fun hc15 => ?_) (fun hc15 => ?_)
    · refine x_iload C dX8_passReplacing_116 (kk := ?_)
      refine x_zret C rfl dX8_passReplacing_118 (by first | exact Or.inl rfl | exact Or.inr rfl | assumption | exact ite01 _) (hp := ?_)
      exact hb.post
    · refine x_iload C dX8_passReplacing_18 (kk := ?_)
      refine x_if_eq C dX8_passReplacing_20 116 (fun hc20 => ?_) (fun hc20 => ?_)
      · refine x_iload C dX8_passReplacing_116 (kk := ?_)
        refine x_zret C rfl dX8_passReplacing_118 (by first | exact Or.inl rfl | exact Or.inr rfl | assumption | exact ite01 _) (hp := ?_)
        exact hb.post
      · exact absurd rfl hc20
  have loop : ∀ (n i : Nat) (h1 : xh), q.length - i < n → i ≤ q.length → (pasN ts 4 rl q i).2 ≤ q.length → PInv G ts 4 rl q h ro fa sm sg i h1 → X p l e { frames := 4, cells := 0, slots := 0, locals := 90 } s m args below meth c G bs (MQ below (x_Q G bs (fun v h' => PPost G ts 4 rl q h ro fa sm sg v h')) args s 0 0 (fun q => bs ≤ q)) 0 0 9 [some (.ref x), some (.ref fa), some (.ref ri), some (.ref ro), some (.int 1), some (.int (nI (pasN ts 4 rl q i).2)), some (.int (nI i)), none] [] h1 := by
    intro n
    induction n with
    | zero => intro i h1 hn; omega
    | succ n ih =>
      intro i h1 hn hi hbq hinv
      have hf := hinv.1
      have ho1 := hinv.2.1
      have hF1 := hinv.2.2
      have hfo1 : h1.1 fa = _ := hF1
      have hin1 := hin.fr hf hnd
      have hio1 := hin1.ob
      have hoo1 := ho1.ob
      have hO1 := hf.at hnx hO
      have sx1 := hz.pa hF hdy hro hfa hf
      have hzo1 := sx1.2.2.1
      refine x_iload C dX8_passReplacing_9 (kk := ?_)
      refine x_aload_n C dX8_passReplacing_11 (kk := ?_)
      refine x_callV C ml_X5_size lk_X8_85 (c_row_size l G hin1) dX8_passReplacing_12 (fun r12 h12 hp12 => ?_)
      obtain ⟨rfl, rfl⟩ := hp12
      refine x_ncmp_ge C i q.length dX8_passReplacing_15 116 (fun hcz => ?_) (fun hcz => ?_)
      · refine x_iload C dX8_passReplacing_116 (kk := ?_)
        refine x_zret C rfl dX8_passReplacing_118 (Or.inr rfl) (hp := ?_)
        exact hinv.post (by omega)
      obtain ⟨v, hv⟩ : ∃ v, q[i]? = some v := ⟨q[i], List.getElem?_eq_getElem hcz⟩
      have hst := (pasN_at (ts := ts) (kind := 4) (rule := rl) hv).trans (stp4 ts rl q i _ v)
      refine x_iload C dX8_passReplacing_18 (kk := ?_)
      refine x_if_eq C dX8_passReplacing_20 116 (fun hc20 => ?_) (fun hc20 => ?_)
      · exact absurd hc20 (by decide)
      · refine x_iload C dX8_passReplacing_23 (kk := ?_)
        refine x_iload C dX8_passReplacing_25 (kk := ?_)
        refine x_ncmp_lt C i (pasN ts 4 rl q i).2 dX8_passReplacing_27 110 (fun hc27 => ?_) (fun hc27 => ?_)
        · rw [if_pos hc27] at hst
          have hinv2 := PInv.keep (ts := ts) (rl := rl) (q := q) (i := i) hf ho1 hF1 (by rw [hst])
          have hb2 : (pasN ts 4 rl q i).2 = (pasN ts 4 rl q (i + 1)).2 := by rw [hst]
          rw [hb2] at hbq
          rw [hb2]
          refine x_iinc1 C dX8_passReplacing_110 (kk := ?_)
          refine x_goto C dX8_passReplacing_113 9 ?_
          refine x_fg 7 ?_
          first | exact ih (i + 1) _ (by omega) (by omega) (by omega) hinv2 | exact fail (i + 1) _ _ hbad
        rw [if_neg (by omega)] at hst
        refine x_aload_n C dX8_passReplacing_30 (kk := ?_)
        refine x_get C fl_X8_51 dX8_passReplacing_31 (kk := ?_)
        refine x_aload_n C dX8_passReplacing_34 (kk := ?_)
        refine x_iload C dX8_passReplacing_35 (kk := ?_)
        refine x_callV C ml_X6_longestAt lk_X8_253 (c_s_longestAt l G hi sx1 hin1) dX8_passReplacing_37 (fun r37 h37 hp37 => ?_)
        obtain ⟨xv, rfl, hbst, rfl⟩ := hp37
        rcases hbst with ⟨hln, rfl⟩ | ⟨w5, q5, hln, rfl, hrp⟩
        · rw [hln] at hst
          have hst2 : (pasN ts 4 rl q (i + 1)).1 = ((pasN ts 4 rl q i).1.1 ++ [v], (pasN ts 4 rl q i).1.2.1, (pasN ts 4 rl q i).1.2.2) := by rw [hst]
          have hb2 : (pasN ts 4 rl q i).2 = (pasN ts 4 rl q (i + 1)).2 := by rw [hst]
          rw [hb2] at hbq
          rw [hb2]
          refine x_astoreN C dX8_passReplacing_40 (kk := ?_)
          refine x_aloadN C dX8_passReplacing_42 (kk := ?_)
          refine x_ifnonnullN C dX8_passReplacing_44 ?_
          refine x_aload_n C dX8_passReplacing_47 (kk := ?_)
          refine x_aload_n C dX8_passReplacing_48 (kk := ?_)
          refine x_iload C dX8_passReplacing_49 (kk := ?_)
          refine x_callV C ml_X5_signAt lk_X8_147 (c_row_signAt l G hv hin1) dX8_passReplacing_51 (fun r51 h51 hp51 => ?_)
          obtain ⟨rfl, rfl⟩ := hp51
          refine x_aload_n C dX8_passReplacing_54 (kk := ?_)
          refine x_iload C dX8_passReplacing_55 (kk := ?_)
          refine x_callV C ml_X5_beginAt lk_X8_154 (c_row_beginAt l G hv hin1) dX8_passReplacing_57 (fun r57 h57 hp57 => ?_)
          obtain ⟨rfl, rfl⟩ := hp57
          refine x_aload_n C dX8_passReplacing_60 (kk := ?_)
          refine x_iload C dX8_passReplacing_61 (kk := ?_)
          refine x_callV C ml_X5_endAt lk_X8_151 (c_row_endAt l G hv hin1) dX8_passReplacing_63 (fun r63 h63 hp63 => ?_)
          obtain ⟨rfl, rfl⟩ := hp63
          refine x_callV C ml_X5_add lk_X8_199 (c_row_add l G v ho1) dX8_passReplacing_66 (fun r66 h66 hp66 => ?_)
          rcases PInv.add hcz hf ho1 hF1 hst2 (by unfold At; omega) hp66 with ⟨rfl, hinv2⟩ | ⟨rfl, hbad⟩
          rotate_left
          · skip
            refine x_istore C dX8_passReplacing_69 (kk := ?_)
            refine x_goto C dX8_passReplacing_71 110 ?_
            refine x_iinc1 C dX8_passReplacing_110 (kk := ?_)
            refine x_goto C dX8_passReplacing_113 9 ?_
            refine x_fg 7 ?_
            first | exact ih (i + 1) _ (by omega) (by omega) (by omega) hinv2 | exact fail (i + 1) _ _ hbad
          refine x_istore C dX8_passReplacing_69 (kk := ?_)
          refine x_goto C dX8_passReplacing_71 110 ?_
          refine x_iinc1 C dX8_passReplacing_110 (kk := ?_)
          refine x_goto C dX8_passReplacing_113 9 ?_
          refine x_fg 7 ?_
          first | exact ih (i + 1) _ (by omega) (by omega) (by omega) hinv2 | exact fail (i + 1) _ _ hbad
        rw [hln] at hst
        have hstl := st_len (longest_st hln)
        rw [List.length_map] at hstl
        have hw1 := hrp.2.2.1
        obtain ⟨u, hu⟩ : ∃ u, q[i + w5.1.length - 1]? = some u := ⟨q[i + w5.1.length - 1]'(by omega), List.getElem?_eq_getElem (by omega)⟩
        have hst2 : (pasN ts 4 rl q (i + 1)).1 = ((pasN ts 4 rl q i).1.1 ++ w5.2.map (fun z => (z, v.2.1, u.2.2)), (pasN ts 4 rl q i).1.2.1 + 1, (pasN ts 4 rl q i).1.2.2) := by rw [hst]; simp only [hu, Option.map_some, Option.getD_some]
        have hb2 : (pasN ts 4 rl q (i + 1)).2 = i + w5.1.length := by rw [hst]
        refine x_astore C dX8_passReplacing_40 (kk := ?_)
        refine x_aload C dX8_passReplacing_42 (kk := ?_)
        refine x_ifnonnull C dX8_passReplacing_44 74 ?_
        refine x_aload_n C dX8_passReplacing_74 (kk := ?_)
        refine x_callV C ml_X0_meetOne lk_X8_228 (c_f_meet l G hF1) dX8_passReplacing_75 (fun r75 h75 hp75 => ?_)
        obtain ⟨rfl, hF8, hfr8⟩ := hp75
        have hin8 := hin1.fr hfr8 (fun b z1 z2 => by unfold At at *; omega)
        have ho8 := ho1.fr hfr8 (fun b z1 z2 => by unfold At at *; omega)
        have f8 := hf.tr (hfr8.mono (fun b z => Or.inr (by unfold At at z; omega)))
        have hoo8 := ho8.ob
        have hio8 := hin8.ob
        have hrp8 : Rp G h75 q5 w5 := hrp.same (fun b hb => hfr8.2 b (fun z => hrp.ne hF1 b hb (by unfold At at z; omega)))
        have hrpo := hrp8.2.2.2.1
        have hdis : q5 + 3 ≤ ro ∨ ro + 4 ≤ q5 := rp_row hrp8 ho8
        refine x_iload C dX8_passReplacing_78 (kk := ?_)
        refine x_aload C dX8_passReplacing_80 (kk := ?_)
        refine x_callV C ml_X4_length lk_X8_257 (c_rp_length l G hrp8) dX8_passReplacing_82 (fun r82 h82 hp82 => ?_)
        obtain ⟨rfl, rfl⟩ := hp82
        refine x_iadd C dX8_passReplacing_85 ?_
        refine x_top _ (nI_add i w5.1.length) ?_
        refine x_istore C dX8_passReplacing_86 (kk := ?_)
        refine x_aload C dX8_passReplacing_88 (kk := ?_)
        refine x_aload_n C dX8_passReplacing_90 (kk := ?_)
        refine x_aload_n C dX8_passReplacing_91 (kk := ?_)
        refine x_iload C dX8_passReplacing_92 (kk := ?_)
        refine x_callV C ml_X5_beginAt lk_X8_154 (c_row_beginAt l G hv hin8) dX8_passReplacing_94 (fun r94 h94 hp94 => ?_)
        obtain ⟨rfl, rfl⟩ := hp94
        refine x_aload_n C dX8_passReplacing_97 (kk := ?_)
        refine x_iload C dX8_passReplacing_98 (kk := ?_)
        refine x_iconst C dX8_passReplacing_100 (v := 1) (kk := ?_)
        refine x_isub C dX8_passReplacing_101 ?_
        refine x_top _ (nI_sub1 (by omega)) ?_
        refine x_callV C ml_X5_endAt lk_X8_151 (c_row_endAt l G hu hin8) dX8_passReplacing_102 (fun r102 h102 hp102 => ?_)
        obtain ⟨rfl, rfl⟩ := hp102
        refine x_callV C ml_X4_writeTo lk_X8_262 (c_rp_writeTo l G v.2.1 u.2.2 hdis hrp8 ho8) dX8_passReplacing_105 (fun r105 h105 hp105 => ?_)
        obtain ⟨hwr, hf9⟩ := hp105
        have f9 := f8.tr (hf9.mono (fun b z => Or.inl z))
        have hF9 := hF8.fr hf9 (by unfold At; omega)
        rw [← hb2]
        rcases hwr with ⟨rfl, hr9⟩ | ⟨rfl, hl9, hr9⟩
        rotate_left
        · have hbad : PBad G ts 4 rl q h ro fa sm sg (i + 1) h105 := ⟨f9, hcz, by rw [hst2]; exact hl9, hr9, _, _, hF9⟩
          refine x_istore C dX8_passReplacing_108 (kk := ?_)
          refine x_iinc1 C dX8_passReplacing_110 (kk := ?_)
          refine x_goto C dX8_passReplacing_113 9 ?_
          refine x_fg 7 ?_
          first | exact ih (i + 1) _ (by omega) (by omega) (by omega) hinv2 | exact fail (i + 1) _ _ hbad
        have hinv2 : PInv G ts 4 rl q h ro fa sm sg (i + 1) h105 := ⟨f9, by rw [hst2]; exact hr9, by rw [hst2]; exact hF9⟩
        refine x_istore C dX8_passReplacing_108 (kk := ?_)
        refine x_iinc1 C dX8_passReplacing_110 (kk := ?_)
        refine x_goto C dX8_passReplacing_113 9 ?_
        refine x_fg 7 ?_
        first | exact ih (i + 1) _ (by omega) (by omega) (by omega) hinv2 | exact fail (i + 1) _ _ hbad
  refine x_iconst C dX8_passReplacing_0 (v := 1) (kk := ?_)
  refine x_istore C dX8_passReplacing_1 (kk := ?_)
  refine x_iconst C dX8_passReplacing_3 (v := 0) (kk := ?_)
  refine x_istore C dX8_passReplacing_4 (kk := ?_)
  refine x_iconst C dX8_passReplacing_6 (v := 0) (kk := ?_)
  refine x_istore C dX8_passReplacing_7 (kk := ?_)
  exact loop (q.length + 1) 0 h (by omega) (by omega) (Nat.zero_le _) ⟨Fr.rf, hout, hF⟩
