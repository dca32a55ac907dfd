/-! THE FILTERS OF THE CLASS, II -/
set_option maxRecDepth 100000 in
set_option maxHeartbeats 4000000 in
theorem c_x_halves (l : Launch) (G : xG) {h : xh} {x fa ri ro : Nat} {dsz mk sm sg rl : Int32} {la s1 s2 : Nat} {q : List Sg} (ts : TS) (hO : h.1 x = some (eO 8 (co x dsz mk la s1 s2))) (hri : x + 19 ≤ ri ∧ ri + 4 ≤ x + 35) (hro : x + 19 ≤ ro ∧ ro + 4 ≤ x + 35) (hd : ri + 4 ≤ ro ∨ ro + 4 ≤ ri) (hfa : x + 35 ≤ fa) (hin : Rw G h ri q) (hout : Rw G h ro []) (hF : Fa h fa 5 rl sm sg 0 0)  : Ct l G yX8_passHalves cX8_passHalves 8 (Option.some Jvm.ClassFile.FieldType.boolean) { frames := 2, cells := 0, slots := 0, locals := 42 } [.ref x, .ref fa, .ref ri, .ref ro] h (fun v h' => PPost G ts 5 rl q h ro fa sm sg v h') := by
  have hnd : ∀ b, At ri 4 b → ¬ PA ro fa b := fun b z1 z2 => by unfold PA At at *; omega
  have hnx : ¬ PA ro fa x := fun z2 => by unfold PA At at *; omega
  have hql := hin.1
  refine Ct.of [some (.ref x), some (.ref fa), some (.ref ri), some (.ref ro), none, none, none, none] (by decide +kernel) (Nat.le_of_ble_eq_true rfl) (fun p e s m args below meth c bs C hini => ?_)
  have fail : ∀ (i : Nat) (h1 : xh), PBad G ts 5 rl q h ro fa sm sg i h1 → X p l e { frames := 2, cells := 0, slots := 0, locals := 42 } s m args below meth c G bs (MQ below (x_Q G bs (fun v h' => PPost G ts 5 rl q h ro fa sm sg v h')) args s 0 0 (fun q => bs ≤ q)) 0 0 6 [some (.ref x), some (.ref fa), some (.ref ri), some (.ref ro), some (.int 0), some (.int (nI i)), none, none] [] h1 := by
    intro i h1 hb
    have hil := hb.2.1
    have hin1 := hin.fr hb.1 hnd
    have hio1 := hin1.ob
    refine x_iload C dX8_passHalves_6 (kk := ?_)
    refine x_aload_n C dX8_passHalves_8 (kk := ?_)
    refine x_callV C ml_X5_size lk_X8_85 (c_row_size l G hin1) dX8_passHalves_9 (fun r9 h9 hp9 => ?_)
    obtain ⟨rfl, rfl⟩ := hp9
    refine x_ncmp_ge C i q.length dX8_passHalves_12 115 (fun hc12 => ?_) (fun hc12 => ?_)
    · refine x_iload C dX8_passHalves_115 (kk := ?_)
      refine x_zret C rfl dX8_passHalves_117 (by first | exact Or.inl rfl | exact Or.inr rfl | assumption | exact ite01 _) (hp := ?_)
      exact hb.post
    · refine x_iload C dX8_passHalves_15 (kk := ?_)
      refine x_if_eq C dX8_passHalves_17 115 (fun hc17 => ?_) (fun hc17 => ?_)
      · refine x_iload C dX8_passHalves_115 (kk := ?_)
        refine x_zret C rfl dX8_passHalves_117 (by first | exact Or.inl rfl | exact Or.inr rfl | assumption | exact ite01 _) (hp := ?_)
        exact hb.post
      · exact absurd rfl hc17
  have loop : ∀ (n i : Nat) (h1 : xh), q.length - i < n → i ≤ q.length → PInv G ts 5 rl q h ro fa sm sg i h1 → X p l e { frames := 2, cells := 0, slots := 0, locals := 42 } s m args below meth c G bs (MQ below (x_Q G bs (fun v h' => PPost G ts 5 rl q h ro fa sm sg v h')) args s 0 0 (fun q => bs ≤ q)) 0 0 6 [some (.ref x), some (.ref fa), some (.ref ri), some (.ref ro), some (.int 1), some (.int (nI i)), none, none] [] h1 := by
    intro n
    induction n with
    | zero => intro i h1 hn; omega
    | succ n ih =>
      intro i h1 hn hi hinv
      have hf := hinv.1
      have ho1 := hinv.2.1
      have hF1 := hinv.2.2
      have hfo1 : h1.1 fa = _ := hF1
      have hin1 := hin.fr hf hnd
      have hio1 := hin1.ob
      have hoo1 := ho1.ob
      have hO1 := hf.at hnx hO
      have hfo2 : h1.1 fa = some (eO 0 [.int 5, .int rl, .int sm, .int sg, .int (pasN ts 5 rl q i).1.2.1, .int (pasN ts 5 rl q i).1.2.2]) := hF1

      refine x_iload C dX8_passHalves_6 (kk := ?_)
      refine x_aload_n C dX8_passHalves_8 (kk := ?_)
      refine x_callV C ml_X5_size lk_X8_85 (c_row_size l G hin1) dX8_passHalves_9 (fun r9 h9 hp9 => ?_)
      obtain ⟨rfl, rfl⟩ := hp9
      refine x_ncmp_ge C i q.length dX8_passHalves_12 115 (fun hcz => ?_) (fun hcz => ?_)
      · refine x_iload C dX8_passHalves_115 (kk := ?_)
        refine x_zret C rfl dX8_passHalves_117 (Or.inr rfl) (hp := ?_)
        exact hinv.post (by omega)
      obtain ⟨v, hv⟩ : ∃ v, q[i]? = some v := ⟨q[i], List.getElem?_eq_getElem hcz⟩
      have hst := (pasN_at (ts := ts) (kind := 5) (rule := rl) hv).trans (stp5 ts rl q i _ v)
      refine x_iload C dX8_passHalves_15 (kk := ?_)
      refine x_if_eq C dX8_passHalves_17 115 (fun hc17 => ?_) (fun hc17 => ?_)
      · exact absurd hc17 (by decide)
      · refine x_aload_n C dX8_passHalves_20 (kk := ?_)
        refine x_iload C dX8_passHalves_21 (kk := ?_)
        refine x_callV C ml_X5_signAt lk_X8_147 (c_row_signAt l G hv hin1) dX8_passHalves_23 (fun r23 h23 hp23 => ?_)
        obtain ⟨rfl, rfl⟩ := hp23
        refine x_istore C dX8_passHalves_26 (kk := ?_)
        refine x_iconst C dX8_passHalves_28 (v := 0) (kk := ?_)
        refine x_istore C dX8_passHalves_29 (kk := ?_)
        refine x_iload C dX8_passHalves_31 (kk := ?_)
        refine x_callS C ml_X8_isHigh lk_X8_193 (c_isHigh l G v.1) dX8_passHalves_33 (fun r33 h33 hp33 => ?_)
        obtain ⟨rfl, rfl⟩ := hp33
        refine x_ifB_ne C dX8_passHalves_36 47 (fun hc36 => ?_) (fun hc36 => ?_)
        · refine x_aload_n C dX8_passHalves_47 (kk := ?_)
          refine x_callV C ml_X0_meetOne lk_X8_228 (c_f_meet l G hF1) dX8_passHalves_48 (fun r48 h48 hp48 => ?_)
          obtain ⟨rfl, hF8, hfr8⟩ := hp48
          have hin8 := hin1.fr hfr8 (fun b z1 z2 => by unfold At at *; omega)
          have ho8 := ho1.fr hfr8 (fun b z1 z2 => by unfold At at *; omega)
          have f8 := hf.tr (hfr8.mono (fun b z => Or.inr (by unfold At at z; omega)))
          have hoo8 := ho8.ob
          have hio8 := hin8.ob
          have hO8 := hfr8.at (by unfold At; omega) hO1
          have hfo8 : h48.1 fa = some (eO 0 [.int 5, .int rl, .int sm, .int sg, .int ((pasN ts 5 rl q i).1.2.1 + 1), .int (pasN ts 5 rl q i).1.2.2]) := hF8
          have hh : 55296 ≤ v.1 ∧ v.1 ≤ 57343 := by first | exact half_hi hc36 | exact half_lo hc44
          refine x_aload_n C dX8_passHalves_51 (kk := ?_)
          refine x_get C fl_X8_127 dX8_passHalves_52 (kk := ?_)
          refine x_iconst C dX8_passHalves_55 (v := 2) (kk := ?_)
          refine x_icmp_ne C dX8_passHalves_56 63 (fun hc56 => ?_) (fun hc56 => ?_)
          · refine x_iconst C dX8_passHalves_63 (v := 0) (kk := ?_)
            refine x_istore C dX8_passHalves_64 (kk := ?_)
            refine x_aload_n C dX8_passHalves_66 (kk := ?_)
            refine x_get C fl_X8_127 dX8_passHalves_67 (kk := ?_)
            refine x_iconst C dX8_passHalves_70 (v := 1) (kk := ?_)
            refine x_icmp_ne C dX8_passHalves_71 80 (fun hc71 => ?_) (fun hc71 => ?_)
            · refine x_iload C dX8_passHalves_80 (kk := ?_)
              refine x_istore C dX8_passHalves_82 (kk := ?_)
              refine x_iload C dX8_passHalves_84 (kk := ?_)
              refine x_if_ne C dX8_passHalves_86 109 (fun hc86 => absurd rfl hc86) (fun hc86 => ?_)
              have hst2 : (pasN ts 5 rl q (i + 1)).1 = ((pasN ts 5 rl q i).1.1 ++ [(v.1, v.2)], (pasN ts 5 rl q i).1.2.1 + 1, (pasN ts 5 rl q i).1.2.2) := by rw [hst]; show stHalf rl _ _ = _; unfold stHalf; rw [if_pos hh, if_neg hc56, if_neg hc71]
              refine x_aload_n C dX8_passHalves_89 (kk := ?_)
              refine x_iload C dX8_passHalves_90 (kk := ?_)
              refine x_aload_n C dX8_passHalves_92 (kk := ?_)
              refine x_iload C dX8_passHalves_93 (kk := ?_)
              refine x_callV C ml_X5_beginAt lk_X8_154 (c_row_beginAt l G hv hin8) dX8_passHalves_95 (fun r95 h95 hp95 => ?_)
              obtain ⟨rfl, rfl⟩ := hp95
              refine x_aload_n C dX8_passHalves_98 (kk := ?_)
              refine x_iload C dX8_passHalves_99 (kk := ?_)
              refine x_callV C ml_X5_endAt lk_X8_151 (c_row_endAt l G hv hin8) dX8_passHalves_101 (fun r101 h101 hp101 => ?_)
              obtain ⟨rfl, rfl⟩ := hp101
              refine x_callV C ml_X5_add lk_X8_199 (c_row_add3 l G _ v.2.1 v.2.2 ho8) dX8_passHalves_104 (fun r104 h104 hp104 => ?_)
              rcases PInv.add hcz f8 ho8 hF8 hst2 (by unfold At; omega) hp104 with ⟨rfl, hinv2⟩ | ⟨rfl, hbad⟩
              rotate_left
              · skip
                refine x_istore C dX8_passHalves_107 (kk := ?_)
                refine x_iinc1 C dX8_passHalves_109 (kk := ?_)
                refine x_goto C dX8_passHalves_112 6 ?_
                refine x_fg 6 ?_
                refine x_fg 7 ?_
                first | exact ih (i + 1) _ (by omega) (by omega) hinv2 | exact fail (i + 1) _ hbad
              refine x_istore C dX8_passHalves_107 (kk := ?_)
              refine x_iinc1 C dX8_passHalves_109 (kk := ?_)
              refine x_goto C dX8_passHalves_112 6 ?_
              refine x_fg 6 ?_
              refine x_fg 7 ?_
              first | exact ih (i + 1) _ (by omega) (by omega) hinv2 | exact fail (i + 1) _ hbad
            · refine x_ldcw C tw_425 dX8_passHalves_74 ?_
              refine x_goto C dX8_passHalves_77 82 ?_
              refine x_istore C dX8_passHalves_82 (kk := ?_)
              refine x_iload C dX8_passHalves_84 (kk := ?_)
              refine x_if_ne C dX8_passHalves_86 109 (fun hc86 => absurd rfl hc86) (fun hc86 => ?_)
              have hst2 : (pasN ts 5 rl q (i + 1)).1 = ((pasN ts 5 rl q i).1.1 ++ [(65533, v.2)], (pasN ts 5 rl q i).1.2.1 + 1, (pasN ts 5 rl q i).1.2.2) := by rw [hst]; show stHalf rl _ _ = _; unfold stHalf; rw [if_pos hh, if_neg hc56, if_pos hc71]
              refine x_aload_n C dX8_passHalves_89 (kk := ?_)
              refine x_iload C dX8_passHalves_90 (kk := ?_)
              refine x_aload_n C dX8_passHalves_92 (kk := ?_)
              refine x_iload C dX8_passHalves_93 (kk := ?_)
              refine x_callV C ml_X5_beginAt lk_X8_154 (c_row_beginAt l G hv hin8) dX8_passHalves_95 (fun r95 h95 hp95 => ?_)
              obtain ⟨rfl, rfl⟩ := hp95
              refine x_aload_n C dX8_passHalves_98 (kk := ?_)
              refine x_iload C dX8_passHalves_99 (kk := ?_)
              refine x_callV C ml_X5_endAt lk_X8_151 (c_row_endAt l G hv hin8) dX8_passHalves_101 (fun r101 h101 hp101 => ?_)
              obtain ⟨rfl, rfl⟩ := hp101
              refine x_callV C ml_X5_add lk_X8_199 (c_row_add3 l G _ v.2.1 v.2.2 ho8) dX8_passHalves_104 (fun r104 h104 hp104 => ?_)
              rcases PInv.add hcz f8 ho8 hF8 hst2 (by unfold At; omega) hp104 with ⟨rfl, hinv2⟩ | ⟨rfl, hbad⟩
              rotate_left
              · skip
                refine x_istore C dX8_passHalves_107 (kk := ?_)
                refine x_iinc1 C dX8_passHalves_109 (kk := ?_)
                refine x_goto C dX8_passHalves_112 6 ?_
                refine x_fg 6 ?_
                refine x_fg 7 ?_
                first | exact ih (i + 1) _ (by omega) (by omega) hinv2 | exact fail (i + 1) _ hbad
              refine x_istore C dX8_passHalves_107 (kk := ?_)
              refine x_iinc1 C dX8_passHalves_109 (kk := ?_)
              refine x_goto C dX8_passHalves_112 6 ?_
              refine x_fg 6 ?_
              refine x_fg 7 ?_
              first | exact ih (i + 1) _ (by omega) (by omega) hinv2 | exact fail (i + 1) _ hbad
          · refine x_iconst C dX8_passHalves_59 (v := 1) (kk := ?_)
            refine x_goto C dX8_passHalves_60 64 ?_
            refine x_istore C dX8_passHalves_64 (kk := ?_)
            refine x_aload_n C dX8_passHalves_66 (kk := ?_)
            refine x_get C fl_X8_127 dX8_passHalves_67 (kk := ?_)
            refine x_iconst C dX8_passHalves_70 (v := 1) (kk := ?_)
            refine x_icmp_ne C dX8_passHalves_71 80 (fun hc71 => ?_) (fun hc71 => ?_)
            · refine x_iload C dX8_passHalves_80 (kk := ?_)
              refine x_istore C dX8_passHalves_82 (kk := ?_)
              refine x_iload C dX8_passHalves_84 (kk := ?_)
              refine x_if_ne C dX8_passHalves_86 109 (fun hc86 => ?_) (fun hc86 => absurd hc86 (by decide))
              have hst2 : (pasN ts 5 rl q (i + 1)).1 = ((pasN ts 5 rl q i).1.1, (pasN ts 5 rl q i).1.2.1 + 1, (pasN ts 5 rl q i).1.2.2) := by rw [hst]; show stHalf rl _ _ = _; unfold stHalf; rw [if_pos hh, if_pos hc56]
              have hinv2 := PInv.keep f8 ho8 hF8 hst2
              refine x_iinc1 C dX8_passHalves_109 (kk := ?_)
              refine x_goto C dX8_passHalves_112 6 ?_
              refine x_fg 6 ?_
              refine x_fg 7 ?_
              first | exact ih (i + 1) _ (by omega) (by omega) hinv2 | exact fail (i + 1) _ hbad
            · refine x_ldcw C tw_425 dX8_passHalves_74 ?_
              refine x_goto C dX8_passHalves_77 82 ?_
              refine x_istore C dX8_passHalves_82 (kk := ?_)
              refine x_iload C dX8_passHalves_84 (kk := ?_)
              refine x_if_ne C dX8_passHalves_86 109 (fun hc86 => ?_) (fun hc86 => absurd hc86 (by decide))
              have hst2 : (pasN ts 5 rl q (i + 1)).1 = ((pasN ts 5 rl q i).1.1, (pasN ts 5 rl q i).1.2.1 + 1, (pasN ts 5 rl q i).1.2.2) := by rw [hst]; show stHalf rl _ _ = _; unfold stHalf; rw [if_pos hh, if_pos hc56]
              have hinv2 := PInv.keep f8 ho8 hF8 hst2
              refine x_iinc1 C dX8_passHalves_109 (kk := ?_)
              refine x_goto C dX8_passHalves_112 6 ?_
              refine x_fg 6 ?_
              refine x_fg 7 ?_
              first | exact ih (i + 1) _ (by omega) (by omega) hinv2 | exact fail (i + 1) _ hbad
        · refine x_iload C dX8_passHalves_39 (kk := ?_)
          refine x_callS C ml_X8_isLow lk_X8_196 (c_isLow l G v.1) dX8_passHalves_41 (fun r41 h41 hp41 => ?_)
          obtain ⟨rfl, rfl⟩ := hp41
          refine x_ifB_eq C dX8_passHalves_44 84 (fun hc44 => ?_) (fun hc44 => ?_)
          · have hst2 : (pasN ts 5 rl q (i + 1)).1 = ((pasN ts 5 rl q i).1.1 ++ [v], (pasN ts 5 rl q i).1.2.1, (pasN ts 5 rl q i).1.2.2) := by rw [hst]; show stHalf rl _ _ = _; unfold stHalf; rw [if_neg (half_no hc36 hc44)]
            have hin8 := hin1
            have ho8 := ho1
            have hF8 := hF1
            have f8 := hf
            have hO8 := hO1
            have hoo8 := hoo1
            have hio8 := hio1
            refine x_iload C dX8_passHalves_84 (kk := ?_)
            refine x_if_ne C dX8_passHalves_86 109 (fun hc86 => absurd rfl hc86) (fun hc86 => ?_)
            refine x_aload_n C dX8_passHalves_89 (kk := ?_)
            refine x_iload C dX8_passHalves_90 (kk := ?_)
            refine x_aload_n C dX8_passHalves_92 (kk := ?_)
            refine x_iload C dX8_passHalves_93 (kk := ?_)
            refine x_callV C ml_X5_beginAt lk_X8_154 (c_row_beginAt l G hv hin8) dX8_passHalves_95 (fun r95 h95 hp95 => ?_)
            obtain ⟨rfl, rfl⟩ := hp95
            refine x_aload_n C dX8_passHalves_98 (kk := ?_)
            refine x_iload C dX8_passHalves_99 (kk := ?_)
            refine x_callV C ml_X5_endAt lk_X8_151 (c_row_endAt l G hv hin8) dX8_passHalves_101 (fun r101 h101 hp101 => ?_)
            obtain ⟨rfl, rfl⟩ := hp101
            refine x_callV C ml_X5_add lk_X8_199 (c_row_add3 l G _ v.2.1 v.2.2 ho8) dX8_passHalves_104 (fun r104 h104 hp104 => ?_)
            rcases PInv.add hcz f8 ho8 hF8 hst2 (by unfold At; omega) hp104 with ⟨rfl, hinv2⟩ | ⟨rfl, hbad⟩
            rotate_left
            · skip
              refine x_istore C dX8_passHalves_107 (kk := ?_)
              refine x_iinc1 C dX8_passHalves_109 (kk := ?_)
              refine x_goto C dX8_passHalves_112 6 ?_
              refine x_fg 6 ?_
              refine x_fg 7 ?_
              first | exact ih (i + 1) _ (by omega) (by omega) hinv2 | exact fail (i + 1) _ hbad
            refine x_istore C dX8_passHalves_107 (kk := ?_)
            refine x_iinc1 C dX8_passHalves_109 (kk := ?_)
            refine x_goto C dX8_passHalves_112 6 ?_
            refine x_fg 6 ?_
            refine x_fg 7 ?_
            first | exact ih (i + 1) _ (by omega) (by omega) hinv2 | exact fail (i + 1) _ hbad
          refine x_aload_n C dX8_passHalves_47 (kk := ?_)
          refine x_callV C ml_X0_meetOne lk_X8_228 (c_f_meet l G hF1) dX8_passHalves_48 (fun r48 h48 hp48 => ?_)
          obtain ⟨rfl, hF8, hfr8⟩ := hp48
          have hin8 := hin1.fr hfr8 (fun b z1 z2 => by unfold At at *; omega)
          have ho8 := ho1.fr hfr8 (fun b z1 z2 => by unfold At at *; omega)
          have f8 := hf.tr (hfr8.mono (fun b z => Or.inr (by unfold At at z; omega)))
          have hoo8 := ho8.ob
          have hio8 := hin8.ob
          have hO8 := hfr8.at (by unfold At; omega) hO1
          have hfo8 : h48.1 fa = some (eO 0 [.int 5, .int rl, .int sm, .int sg, .int ((pasN ts 5 rl q i).1.2.1 + 1), .int (pasN ts 5 rl q i).1.2.2]) := hF8
          have hh : 55296 ≤ v.1 ∧ v.1 ≤ 57343 := by first | exact half_hi hc36 | exact half_lo hc44
          refine x_aload_n C dX8_passHalves_51 (kk := ?_)
          refine x_get C fl_X8_127 dX8_passHalves_52 (kk := ?_)
          refine x_iconst C dX8_passHalves_55 (v := 2) (kk := ?_)
          refine x_icmp_ne C dX8_passHalves_56 63 (fun hc56 => ?_) (fun hc56 => ?_)
          · refine x_iconst C dX8_passHalves_63 (v := 0) (kk := ?_)
            refine x_istore C dX8_passHalves_64 (kk := ?_)
            refine x_aload_n C dX8_passHalves_66 (kk := ?_)
            refine x_get C fl_X8_127 dX8_passHalves_67 (kk := ?_)
            refine x_iconst C dX8_passHalves_70 (v := 1) (kk := ?_)
            refine x_icmp_ne C dX8_passHalves_71 80 (fun hc71 => ?_) (fun hc71 => ?_)
            · refine x_iload C dX8_passHalves_80 (kk := ?_)
              refine x_istore C dX8_passHalves_82 (kk := ?_)
              refine x_iload C dX8_passHalves_84 (kk := ?_)
              refine x_if_ne C dX8_passHalves_86 109 (fun hc86 => absurd rfl hc86) (fun hc86 => ?_)
              have hst2 : (pasN ts 5 rl q (i + 1)).1 = ((pasN ts 5 rl q i).1.1 ++ [(v.1, v.2)], (pasN ts 5 rl q i).1.2.1 + 1, (pasN ts 5 rl q i).1.2.2) := by rw [hst]; show stHalf rl _ _ = _; unfold stHalf; rw [if_pos hh, if_neg hc56, if_neg hc71]
              refine x_aload_n C dX8_passHalves_89 (kk := ?_)
              refine x_iload C dX8_passHalves_90 (kk := ?_)
              refine x_aload_n C dX8_passHalves_92 (kk := ?_)
              refine x_iload C dX8_passHalves_93 (kk := ?_)
              refine x_callV C ml_X5_beginAt lk_X8_154 (c_row_beginAt l G hv hin8) dX8_passHalves_95 (fun r95 h95 hp95 => ?_)
              obtain ⟨rfl, rfl⟩ := hp95
              refine x_aload_n C dX8_passHalves_98 (kk := ?_)
              refine x_iload C dX8_passHalves_99 (kk := ?_)
              refine x_callV C ml_X5_endAt lk_X8_151 (c_row_endAt l G hv hin8) dX8_passHalves_101 (fun r101 h101 hp101 => ?_)
              obtain ⟨rfl, rfl⟩ := hp101
              refine x_callV C ml_X5_add lk_X8_199 (c_row_add3 l G _ v.2.1 v.2.2 ho8) dX8_passHalves_104 (fun r104 h104 hp104 => ?_)
              rcases PInv.add hcz f8 ho8 hF8 hst2 (by unfold At; omega) hp104 with ⟨rfl, hinv2⟩ | ⟨rfl, hbad⟩
              rotate_left
              · skip
                refine x_istore C dX8_passHalves_107 (kk := ?_)
                refine x_iinc1 C dX8_passHalves_109 (kk := ?_)
                refine x_goto C dX8_passHalves_112 6 ?_
                refine x_fg 6 ?_
                refine x_fg 7 ?_
                first | exact ih (i + 1) _ (by omega) (by omega) hinv2 | exact fail (i + 1) _ hbad
              refine x_istore C dX8_passHalves_107 (kk := ?_)
              refine x_iinc1 C dX8_passHalves_109 (kk := ?_)
              refine x_goto C dX8_passHalves_112 6 ?_
              refine x_fg 6 ?_
              refine x_fg 7 ?_
              first | exact ih (i + 1) _ (by omega) (by omega) hinv2 | exact fail (i + 1) _ hbad
            · refine x_ldcw C tw_425 dX8_passHalves_74 ?_
              refine x_goto C dX8_passHalves_77 82 ?_
              refine x_istore C dX8_passHalves_82 (kk := ?_)
              refine x_iload C dX8_passHalves_84 (kk := ?_)
              refine x_if_ne C dX8_passHalves_86 109 (fun hc86 => absurd rfl hc86) (fun hc86 => ?_)
              have hst2 : (pasN ts 5 rl q (i + 1)).1 = ((pasN ts 5 rl q i).1.1 ++ [(65533, v.2)], (pasN ts 5 rl q i).1.2.1 + 1, (pasN ts 5 rl q i).1.2.2) := by rw [hst]; show stHalf rl _ _ = _; unfold stHalf; rw [if_pos hh, if_neg hc56, if_pos hc71]
              refine x_aload_n C dX8_passHalves_89 (kk := ?_)
              refine x_iload C dX8_passHalves_90 (kk := ?_)
              refine x_aload_n C dX8_passHalves_92 (kk := ?_)
              refine x_iload C dX8_passHalves_93 (kk := ?_)
              refine x_callV C ml_X5_beginAt lk_X8_154 (c_row_beginAt l G hv hin8) dX8_passHalves_95 (fun r95 h95 hp95 => ?_)
              obtain ⟨rfl, rfl⟩ := hp95
              refine x_aload_n C dX8_passHalves_98 (kk := ?_)
              refine x_iload C dX8_passHalves_99 (kk := ?_)
              refine x_callV C ml_X5_endAt lk_X8_151 (c_row_endAt l G hv hin8) dX8_passHalves_101 (fun r101 h101 hp101 => ?_)
              obtain ⟨rfl, rfl⟩ := hp101
              refine x_callV C ml_X5_add lk_X8_199 (c_row_add3 l G _ v.2.1 v.2.2 ho8) dX8_passHalves_104 (fun r104 h104 hp104 => ?_)
              rcases PInv.add hcz f8 ho8 hF8 hst2 (by unfold At; omega) hp104 with ⟨rfl, hinv2⟩ | ⟨rfl, hbad⟩
              rotate_left
              · skip
                refine x_istore C dX8_passHalves_107 (kk := ?_)
                refine x_iinc1 C dX8_passHalves_109 (kk := ?_)
                refine x_goto C dX8_passHalves_112 6 ?_
                refine x_fg 6 ?_
                refine x_fg 7 ?_
                first | exact ih (i + 1) _ (by omega) (by omega) hinv2 | exact fail (i + 1) _ hbad
              refine x_istore C dX8_passHalves_107 (kk := ?_)
              refine x_iinc1 C dX8_passHalves_109 (kk := ?_)
              refine x_goto C dX8_passHalves_112 6 ?_
              refine x_fg 6 ?_
              refine x_fg 7 ?_
              first | exact ih (i + 1) _ (by omega) (by omega) hinv2 | exact fail (i + 1) _ hbad
          · refine x_iconst C dX8_passHalves_59 (v := 1) (kk := ?_)
            refine x_goto C dX8_passHalves_60 64 ?_
            refine x_istore C dX8_passHalves_64 (kk := ?_)
            refine x_aload_n C dX8_passHalves_66 (kk := ?_)
            refine x_get C fl_X8_127 dX8_passHalves_67 (kk := ?_)
            refine x_iconst C dX8_passHalves_70 (v := 1) (kk := ?_)
            refine x_icmp_ne C dX8_passHalves_71 80 (fun hc71 => ?_) (fun hc71 => ?_)
            · refine x_iload C dX8_passHalves_80 (kk := ?_)
              refine x_istore C dX8_passHalves_82 (kk := ?_)
              refine x_iload C dX8_passHalves_84 (kk := ?_)
              refine x_if_ne C dX8_passHalves_86 109 (fun hc86 => ?_) (fun hc86 => absurd hc86 (by decide))
              have hst2 : (pasN ts 5 rl q (i + 1)).1 = ((pasN ts 5 rl q i).1.1, (pasN ts 5 rl q i).1.2.1 + 1, (pasN ts 5 rl q i).1.2.2) := by rw [hst]; show stHalf rl _ _ = _; unfold stHalf; rw [if_pos hh, if_pos hc56]
              have hinv2 := PInv.keep f8 ho8 hF8 hst2
              refine x_iinc1 C dX8_passHalves_109 (kk := ?_)
              refine x_goto C dX8_passHalves_112 6 ?_
              refine x_fg 6 ?_
              refine x_fg 7 ?_
              first | exact ih (i + 1) _ (by omega) (by omega) hinv2 | exact fail (i + 1) _ hbad
            · refine x_ldcw C tw_425 dX8_passHalves_74 ?_
              refine x_goto C dX8_passHalves_77 82 ?_
              refine x_istore C dX8_passHalves_82 (kk := ?_)
              refine x_iload C dX8_passHalves_84 (kk := ?_)
              refine x_if_ne C dX8_passHalves_86 109 (fun hc86 => ?_) (fun hc86 => absurd hc86 (by decide))
              have hst2 : (pasN ts 5 rl q (i + 1)).1 = ((pasN ts 5 rl q i).1.1, (pasN ts 5 rl q i).1.2.1 + 1, (pasN ts 5 rl q i).1.2.2) := by rw [hst]; show stHalf rl _ _ = _; unfold stHalf; rw [if_pos hh, if_pos hc56]
              have hinv2 := PInv.keep f8 ho8 hF8 hst2
              refine x_iinc1 C dX8_passHalves_109 (kk := ?_)
              refine x_goto C dX8_passHalves_112 6 ?_
              refine x_fg 6 ?_
              refine x_fg 7 ?_
              first | exact ih (i + 1) _ (by omega) (by omega) hinv2 | exact fail (i + 1) _ hbad
  refine x_iconst C dX8_passHalves_0 (v := 1) (kk := ?_)
  refine x_istore C dX8_passHalves_1 (kk := ?_)
  refine x_iconst C dX8_passHalves_3 (v := 0) (kk := ?_)
  refine x_istore C dX8_passHalves_4 (kk := ?_)
  exact loop (q.length + 1) 0 h (by omega) (by omega) ⟨Fr.rf, hout, hF⟩
set_option maxRecDepth 100000 in
set_option maxHeartbeats 4000000 in
theorem c_x_composing (l : Launch) (G : xG) {h : xh} {x fa ri ro : Nat} {dsz mk sm sg rl : Int32} {la s1 s2 : Nat} {q : List Sg} (ts : TS) (hO : h.1 x = some (eO 8 (co x dsz mk la s1 s2))) (hri : x + 19 ≤ ri ∧ ri + 4 ≤ x + 35) (hro : x + 19 ≤ ro ∧ ro + 4 ≤ x + 35) (hd : ri + 4 ≤ ro ∨ ro + 4 ≤ ri) (hfa : x + 35 ≤ fa) (hin : Rw G h ri q) (hout : Rw G h ro []) (hF : Fa h fa 1 rl sm sg 0 0) (hz : Pt G h (x + 7) ts.2.1) : Ct l G yX8_passComposing cX8_passComposing 7 (Option.some Jvm.ClassFile.FieldType.boolean) { frames := 2, cells := 0, slots := 0, locals := 42 } [.ref x, .ref fa, .ref ri, .ref ro] h (fun v h' => PPost G ts 1 rl q h ro fa sm sg v h') := by
  have hnd : ∀ b, At ri 4 b → ¬ PA ro fa b := fun b z1 z2 => by unfold PA At at *; omega
  have hnx : ¬ PA ro fa x := fun z2 => by unfold PA At at *; omega
  have hql := hin.1
  refine Ct.of [some (.ref x), some (.ref fa), some (.ref ri), some (.ref ro), none, none, none] (by decide +kernel) (Nat.le_of_ble_eq_true rfl) (fun p e s m args below meth c bs C hini => ?_)
  have fail : ∀ (i : Nat) (h1 : xh), PBad G ts 1 rl q h ro fa sm sg i h1 → X p l e { frames := 2, cells := 0, slots := 0, locals := 42 } s m args below meth c G bs (MQ below (x_Q G bs (fun v h' => PPost G ts 1 rl q h ro fa sm sg v h')) args s 0 0 (fun q => bs ≤ q)) 0 0 6 [some (.ref x), some (.ref fa), some (.ref ri), some (.ref ro), some (.int 0), some (.int (nI i)), none] [] h1 := by
    intro i h1 hb
    have hil := hb.2.1
    have hin1 := hin.fr hb.1 hnd
    have hio1 := hin1.ob
    refine x_iload C dX8_passComposing_6 (kk := ?_)
    refine x_aload_n C dX8_passComposing_8 (kk := ?_)
    refine x_callV C ml_X5_size lk_X8_85 (c_row_size l G hin1) dX8_passComposing_9 (fun r9 h9 hp9 => ?_)
    obtain ⟨rfl, rfl⟩ := hp9
    refine x_ncmp_ge C i q.length dX8_passComposing_12 117 (fun hc12 => ?_) (fun hc12 => ?_)
    · refine x_iload C dX8_passComposing_117 (kk := ?_)
      refine x_zret C rfl dX8_passComposing_119 (by first | exact Or.inl rfl | exact Or.inr rfl | assumption | exact ite01 _) (hp := ?_)
      exact hb.post
    · refine x_iload C dX8_passComposing_15 (kk := ?_)
      refine x_if_eq C dX8_passComposing_17 117 (fun hc17 => ?_) (fun hc17 => ?_)
      · refine x_iload C dX8_passComposing_117 (kk := ?_)
        refine x_zret C rfl dX8_passComposing_119 (by first | exact Or.inl rfl | exact Or.inr rfl | assumption | exact ite01 _) (hp := ?_)
        exact hb.post
      · exact absurd rfl hc17
  have loop : ∀ (n i : Nat) (h1 : xh), q.length - i < n → i ≤ q.length → PInv G ts 1 rl q h ro fa sm sg i h1 → X p l e { frames := 2, cells := 0, slots := 0, locals := 42 } s m args below meth c G bs (MQ below (x_Q G bs (fun v h' => PPost G ts 1 rl q h ro fa sm sg v h')) args s 0 0 (fun q => bs ≤ q)) 0 0 6 [some (.ref x), some (.ref fa), some (.ref ri), some (.ref ro), some (.int 1), some (.int (nI i)), none] [] h1 := by
    intro n
    induction n with
    | zero => intro i h1 hn; omega
    | succ n ih =>
      intro i h1 hn hi hinv
      have hf := hinv.1
      have ho1 := hinv.2.1
      have hF1 := hinv.2.2
      have hfo1 : h1.1 fa = _ := hF1
      have hin1 := hin.fr hf hnd
      have hio1 := hin1.ob
      have hoo1 := ho1.ob
      have hO1 := hf.at hnx hO
      have pt1 := hz.fr hf (fun b z1 z2 => by unfold PA At at *; omega)
      have hzo1 := pt1.2.2.1
      have hal := ho1.1
      have hpl := pt1.1

      refine x_iload C dX8_passComposing_6 (kk := ?_)
      refine x_aload_n C dX8_passComposing_8 (kk := ?_)
      refine x_callV C ml_X5_size lk_X8_85 (c_row_size l G hin1) dX8_passComposing_9 (fun r9 h9 hp9 => ?_)
      obtain ⟨rfl, rfl⟩ := hp9
      refine x_ncmp_ge C i q.length dX8_passComposing_12 117 (fun hcz => ?_) (fun hcz => ?_)
      · refine x_iload C dX8_passComposing_117 (kk := ?_)
        refine x_zret C rfl dX8_passComposing_119 (Or.inr rfl) (hp := ?_)
        exact hinv.post (by omega)
      obtain ⟨v, hv⟩ : ∃ v, q[i]? = some v := ⟨q[i], List.getElem?_eq_getElem hcz⟩
      have hst := (pasN_at (ts := ts) (kind := 1) (rule := rl) hv).trans (stp1 ts rl q i _ v)
      refine x_iload C dX8_passComposing_15 (kk := ?_)
      refine x_if_eq C dX8_passComposing_17 117 (fun hc17 => ?_) (fun hc17 => ?_)
      · exact absurd hc17 (by decide)
      · refine x_iconst C dX8_passComposing_20 (v := -1) (kk := ?_)
        refine x_istore C dX8_passComposing_21 (kk := ?_)
        refine x_aload_n C dX8_passComposing_23 (kk := ?_)
        refine x_callV C ml_X5_size lk_X8_85 (c_row_size l G ho1) dX8_passComposing_24 (fun r24 h24 hp24 => ?_)
        obtain ⟨rfl, rfl⟩ := hp24
        refine x_nif_le C (pasN ts 1 rl q i).1.1.length dX8_passComposing_27 55 (fun hc27 => ?_) (fun hc27 => ?_)
        · have hnil : (pasN ts 1 rl q i).1.1 = [] := List.length_eq_zero_iff.mp hc27
          have hst2 : (pasN ts 1 rl q (i + 1)).1 = ((pasN ts 1 rl q i).1.1 ++ [v], (pasN ts 1 rl q i).1.2.1, (pasN ts 1 rl q i).1.2.2) := by rw [hst]; show stComp _ _ _ = _; simp [stComp, hnil]
          have hin8 := hin1
          have ho8 := ho1
          have hF8 := hF1
          have f8 := hf
          have hO8 := hO1
          have hoo8 := hoo1
          have hio8 := hio1
          refine x_iload C dX8_passComposing_55 (kk := ?_)
          refine x_iconst C dX8_passComposing_57 (v := -1) (kk := ?_)
          refine x_icmp_ne C dX8_passComposing_58 88 (fun z => absurd rfl z) (fun hc58 => ?_)
          refine x_aload_n C dX8_passComposing_61 (kk := ?_)
          refine x_aload_n C dX8_passComposing_62 (kk := ?_)
          refine x_iload C dX8_passComposing_63 (kk := ?_)
          refine x_callV C ml_X5_signAt lk_X8_147 (c_row_signAt l G hv hin8) dX8_passComposing_65 (fun r65 h65 hp65 => ?_)
          obtain ⟨rfl, rfl⟩ := hp65
          refine x_aload_n C dX8_passComposing_68 (kk := ?_)
          refine x_iload C dX8_passComposing_69 (kk := ?_)
          refine x_callV C ml_X5_beginAt lk_X8_154 (c_row_beginAt l G hv hin8) dX8_passComposing_71 (fun r71 h71 hp71 => ?_)
          obtain ⟨rfl, rfl⟩ := hp71
          refine x_aload_n C dX8_passComposing_74 (kk := ?_)
          refine x_iload C dX8_passComposing_75 (kk := ?_)
          refine x_callV C ml_X5_endAt lk_X8_151 (c_row_endAt l G hv hin8) dX8_passComposing_77 (fun r77 h77 hp77 => ?_)
          obtain ⟨rfl, rfl⟩ := hp77
          refine x_callV C ml_X5_add lk_X8_199 (c_row_add l G v ho8) dX8_passComposing_80 (fun r80 h80 hp80 => ?_)
          rcases PInv.add hcz f8 ho8 hF8 hst2 (by unfold At; omega) hp80 with ⟨rfl, hinv2⟩ | ⟨rfl, hbad⟩
          rotate_left
          · skip
            refine x_istore C dX8_passComposing_83 (kk := ?_)
            refine x_goto C dX8_passComposing_85 111 ?_
            refine x_iinc1 C dX8_passComposing_111 (kk := ?_)
            refine x_goto C dX8_passComposing_114 6 ?_
            refine x_fg 6 ?_
            first | exact ih (i + 1) _ (by omega) (by omega) hinv2 | exact fail (i + 1) _ hbad
          refine x_istore C dX8_passComposing_83 (kk := ?_)
          refine x_goto C dX8_passComposing_85 111 ?_
          refine x_iinc1 C dX8_passComposing_111 (kk := ?_)
          refine x_goto C dX8_passComposing_114 6 ?_
          refine x_fg 6 ?_
          first | exact ih (i + 1) _ (by omega) (by omega) hinv2 | exact fail (i + 1) _ hbad
        obtain ⟨y, hy⟩ : ∃ y, (pasN ts 1 rl q i).1.1.getLast? = some y := ⟨_, List.getLast?_eq_some_getLast (by intro z; rw [z] at hc27; simp at hc27)⟩
        have hyi : (pasN ts 1 rl q i).1.1[(pasN ts 1 rl q i).1.1.length - 1]? = some y := by rw [← List.getLast?_eq_getElem?]; exact hy
        refine x_aload_n C dX8_passComposing_30 (kk := ?_)
        refine x_get C fl_X8_30 dX8_passComposing_31 (kk := ?_)
        refine x_aload_n C dX8_passComposing_34 (kk := ?_)
        refine x_aload_n C dX8_passComposing_35 (kk := ?_)
        refine x_callV C ml_X5_size lk_X8_85 (c_row_size l G ho1) dX8_passComposing_36 (fun r36 h36 hp36 => ?_)
        obtain ⟨rfl, rfl⟩ := hp36
        refine x_iconst C dX8_passComposing_39 (v := 1) (kk := ?_)
        refine x_isub C dX8_passComposing_40 ?_
        refine x_top _ (nI_sub1 hc27) ?_
        refine x_callV C ml_X5_signAt lk_X8_147 (c_row_signAt l G hyi ho1) dX8_passComposing_41 (fun r41 h41 hp41 => ?_)
        obtain ⟨rfl, rfl⟩ := hp41
        refine x_aload_n C dX8_passComposing_44 (kk := ?_)
        refine x_iload C dX8_passComposing_45 (kk := ?_)
        refine x_callV C ml_X5_signAt lk_X8_147 (c_row_signAt l G hv hin1) dX8_passComposing_47 (fun r47 h47 hp47 => ?_)
        obtain ⟨rfl, rfl⟩ := hp47
        refine x_callV C ml_X2_slotOf lk_X8_243 (c_p_slotOf l G y.1 v.1 pt1) dX8_passComposing_50 (fun r50 h50 hp50 => ?_)
        obtain ⟨r5, rfl, hs5, rfl⟩ := hp50
        refine x_istore C dX8_passComposing_53 (kk := ?_)
        refine x_iload C dX8_passComposing_55 (kk := ?_)
        refine x_iconst C dX8_passComposing_57 (v := -1) (kk := ?_)
        rcases hs5 with ⟨rfl, hno⟩ | ⟨k5, rfl, hk5⟩
        rotate_left
        · obtain ⟨e5, he, hek⟩ : ∃ e5, ts.2.1[k5]? = some e5 ∧ e5.1 = (y.1, v.1) := by
            rw [List.getElem?_map] at hk5
            cases hq5 : ts.2.1[k5]? with
            | none => rw [hq5] at hk5; simp at hk5
            | some e5 => rw [hq5] at hk5; exact ⟨e5, rfl, by simpa using hk5⟩
          have hkl : k5 < ts.2.1.length := (List.getElem?_eq_some_iff.mp he).1
          have hst2 : (pasN ts 1 rl q (i + 1)).1 = ((pasN ts 1 rl q i).1.1.dropLast ++ [(e5.2, y.2.1, v.2.2)], (pasN ts 1 rl q i).1.2.1 + 1, (pasN ts 1 rl q i).1.2.2) := by rw [hst]; show stComp _ _ _ = _; unfold stComp; rw [hy]; simp only [aget_at pt1.2.1 he hek]
          refine x_icmp_ne C dX8_passComposing_58 88 (fun hc58 => ?_) (fun z => absurd z (nI_m1 (by omega)))
          refine x_aload_n C dX8_passComposing_88 (kk := ?_)
          refine x_callV C ml_X0_meetOne lk_X8_228 (c_f_meet l G hF1) dX8_passComposing_89 (fun r89 h89 hp89 => ?_)
          obtain ⟨rfl, hF8, hfr8⟩ := hp89
          have hin8 := hin1.fr hfr8 (fun b z1 z2 => by unfold At at *; omega)
          have ho8 := ho1.fr hfr8 (fun b z1 z2 => by unfold At at *; omega)
          have f8 := hf.tr (hfr8.mono (fun b z => Or.inr (by unfold At at z; omega)))
          have hoo8 := ho8.ob
          have hio8 := hin8.ob
          have hO8 := hfr8.at (by unfold At; omega) hO1
          have pt8 := pt1.fr hfr8 (fun b z1 z2 => by unfold At at *; omega)
          have hzo8 := pt8.2.2.1
          refine x_aload_n C dX8_passComposing_92 (kk := ?_)
          refine x_aload_n C dX8_passComposing_93 (kk := ?_)
          refine x_get C fl_X8_30 dX8_passComposing_94 (kk := ?_)
          refine x_iload C dX8_passComposing_97 (kk := ?_)
          refine x_callV C ml_X2_signAt lk_X8_245 (c_p_signAt l G he pt8) dX8_passComposing_99 (fun r99 h99 hp99 => ?_)
          obtain ⟨rfl, rfl⟩ := hp99
          refine x_aload_n C dX8_passComposing_102 (kk := ?_)
          refine x_iload C dX8_passComposing_103 (kk := ?_)
          refine x_callV C ml_X5_endAt lk_X8_151 (c_row_endAt l G hv hin8) dX8_passComposing_105 (fun r105 h105 hp105 => ?_)
          obtain ⟨rfl, rfl⟩ := hp105
          refine x_callV C ml_X5_changeLast lk_X8_246 (c_row_changeLast l G e5.2 v.2.2 hy ho8) dX8_passComposing_108 (fun r108 h108 hp108 => ?_)
          obtain ⟨rfl, hr9, hf9⟩ := hp108
          have hinv2 : PInv G ts 1 rl q h ro fa sm sg (i + 1) h108 := ⟨f8.tr (hf9.mono (fun b z => Or.inl z)), by rw [hst2]; exact hr9, by rw [hst2]; exact hF8.fr hf9 (by unfold At; omega)⟩
          refine x_iinc1 C dX8_passComposing_111 (kk := ?_)
          refine x_goto C dX8_passComposing_114 6 ?_
          refine x_fg 6 ?_
          first | exact ih (i + 1) _ (by omega) (by omega) hinv2 | exact fail (i + 1) _ hbad
        have hst2 : (pasN ts 1 rl q (i + 1)).1 = ((pasN ts 1 rl q i).1.1 ++ [v], (pasN ts 1 rl q i).1.2.1, (pasN ts 1 rl q i).1.2.2) := by rw [hst]; show stComp _ _ _ = _; unfold stComp; rw [hy]; simp only [aget_no hno]
        have hin8 := hin1
        have ho8 := ho1
        have hF8 := hF1
        have f8 := hf
        have hO8 := hO1
        have hoo8 := hoo1
        have hio8 := hio1
        refine x_icmp_ne C dX8_passComposing_58 88 (fun z => absurd rfl z) (fun hc58 => ?_)
        refine x_aload_n C dX8_passComposing_61 (kk := ?_)
        refine x_aload_n C dX8_passComposing_62 (kk := ?_)
        refine x_iload C dX8_passComposing_63 (kk := ?_)
        refine x_callV C ml_X5_signAt lk_X8_147 (c_row_signAt l G hv hin8) dX8_passComposing_65 (fun r65 h65 hp65 => ?_)
        obtain ⟨rfl, rfl⟩ := hp65
        refine x_aload_n C dX8_passComposing_68 (kk := ?_)
        refine x_iload C dX8_passComposing_69 (kk := ?_)
        refine x_callV C ml_X5_beginAt lk_X8_154 (c_row_beginAt l G hv hin8) dX8_passComposing_71 (fun r71 h71 hp71 => ?_)
        obtain ⟨rfl, rfl⟩ := hp71
        refine x_aload_n C dX8_passComposing_74 (kk := ?_)
        refine x_iload C dX8_passComposing_75 (kk := ?_)
        refine x_callV C ml_X5_endAt lk_X8_151 (c_row_endAt l G hv hin8) dX8_passComposing_77 (fun r77 h77 hp77 => ?_)
        obtain ⟨rfl, rfl⟩ := hp77
        refine x_callV C ml_X5_add lk_X8_199 (c_row_add l G v ho8) dX8_passComposing_80 (fun r80 h80 hp80 => ?_)
        rcases PInv.add hcz f8 ho8 hF8 hst2 (by unfold At; omega) hp80 with ⟨rfl, hinv2⟩ | ⟨rfl, hbad⟩
        rotate_left
        · skip
          refine x_istore C dX8_passComposing_83 (kk := ?_)
          refine x_goto C dX8_passComposing_85 111 ?_
          refine x_iinc1 C dX8_passComposing_111 (kk := ?_)
          refine x_goto C dX8_passComposing_114 6 ?_
          refine x_fg 6 ?_
          first | exact ih (i + 1) _ (by omega) (by omega) hinv2 | exact fail (i + 1) _ hbad
        refine x_istore C dX8_passComposing_83 (kk := ?_)
        refine x_goto C dX8_passComposing_85 111 ?_
        refine x_iinc1 C dX8_passComposing_111 (kk := ?_)
        refine x_goto C dX8_passComposing_114 6 ?_
        refine x_fg 6 ?_
        first | exact ih (i + 1) _ (by omega) (by omega) hinv2 | exact fail (i + 1) _ hbad
  refine x_iconst C dX8_passComposing_0 (v := 1) (kk := ?_)
  refine x_istore C dX8_passComposing_1 (kk := ?_)
  refine x_iconst C dX8_passComposing_3 (v := 0) (kk := ?_)
  refine x_istore C dX8_passComposing_4 (kk := ?_)
  exact loop (q.length + 1) 0 h (by omega) (by omega) ⟨Fr.rf, hout, hF⟩
set_option maxRecDepth 100000 in
set_option maxHeartbeats 4000000 in
theorem c_x_folding (l : Launch) (G : xG) {h : xh} {x fa ri ro : Nat} {dsz mk sm sg rl : Int32} {la s1 s2 : Nat} {q : List Sg} (ts : TS) (hO : h.1 x = some (eO 8 (co x dsz mk la s1 s2))) (hri : x + 19 ≤ ri ∧ ri + 4 ≤ x + 35) (hro : x + 19 ≤ ro ∧ ro + 4 ≤ x + 35) (hd : ri + 4 ≤ ro ∨ ro + 4 ≤ ri) (hfa : x + 35 ≤ fa) (hin : Rw G h ri q) (hout : Rw G h ro []) (hF : Fa h fa 0 rl sm sg 0 0) (hz : Ft G h (x + 2) ts.1) : Ct l G yX8_passFolding cX8_passFolding 9 (Option.some Jvm.ClassFile.FieldType.boolean) { frames := 3, cells := 0, slots := 0, locals := 67 } [.ref x, .ref fa, .ref ri, .ref ro] h (fun v h' => PPost G ts 0 rl q h ro fa sm sg v h') := by
  have hnd : ∀ b, At ri 4 b → ¬ PA ro fa b := fun b z1 z2 => by unfold PA At at *; omega
  have hnx : ¬ PA ro fa x := fun z2 => by unfold PA At at *; omega
  have hql := hin.1
  refine Ct.of [some (.ref x), some (.ref fa), some (.ref ri), some (.ref ro), none, none, none, none, none] (by decide +kernel) (Nat.le_of_ble_eq_true rfl) (fun p e s m args below meth c bs C hini => ?_)
  have fail : ∀ (i : Nat) (h1 : xh), PBad G ts 0 rl q h ro fa sm sg i h1 → X p l e { frames := 3, cells := 0, slots := 0, locals := 67 } s m args below meth c G bs (MQ below (x_Q G bs (fun v h' => PPost G ts 0 rl q h ro fa sm sg v h')) args s 0 0 (fun q => bs ≤ q)) 0 0 6 [some (.ref x), some (.ref fa), some (.ref ri), some (.ref ro), some (.int 0), some (.int (nI i)), none, none, none] [] h1 := by
    intro i h1 hb
    have hil := hb.2.1
    have hin1 := hin.fr hb.1 hnd
    have hio1 := hin1.ob
    refine x_iload C dX8_passFolding_6 (kk := ?_)
    refine x_aload_n C dX8_passFolding_8 (kk := ?_)
    refine x_callV C ml_X5_size lk_X8_85 (c_row_size l G hin1) dX8_passFolding_9 (fun r9 h9 hp9 => ?_)
    obtain ⟨rfl, rfl⟩ := hp9
    refine x_ncmp_ge C i q.length dX8_passFolding_12 154 (fun hc12 => ?_) (fun hc12 => ?_)
    · refine x_iload C dX8_passFolding_154 (kk := ?_)
      refine x_zret C rfl dX8_passFolding_156 (by first | exact Or.inl rfl | exact Or.inr rfl | assumption | exact ite01 _) (hp := ?_)
      exact hb.post
    · refine x_iload C dX8_passFolding_15 (kk := ?_)
      refine x_if_eq C dX8_passFolding_17 154 (fun hc17 => ?_) (fun hc17 => ?_)
      · refine x_iload C dX8_passFolding_154 (kk := ?_)
        refine x_zret C rfl dX8_passFolding_156 (by first | exact Or.inl rfl | exact Or.inr rfl | assumption | exact ite01 _) (hp := ?_)
        exact hb.post
      · exact absurd rfl hc17
  have loop : ∀ (n i : Nat) (h1 : xh), q.length - i < n → i ≤ q.length → PInv G ts 0 rl q h ro fa sm sg i h1 → X p l e { frames := 3, cells := 0, slots := 0, locals := 67 } s m args below meth c G bs (MQ below (x_Q G bs (fun v h' => PPost G ts 0 rl q h ro fa sm sg v h')) args s 0 0 (fun q => bs ≤ q)) 0 0 6 [some (.ref x), some (.ref fa), some (.ref ri), some (.ref ro), some (.int 1), some (.int (nI i)), none, none, none] [] h1 := by
    intro n
    induction n with
    | zero => intro i h1 hn; omega
    | succ n ih =>
      intro i h1 hn hi hinv
      have hf := hinv.1
      have ho1 := hinv.2.1
      have hF1 := hinv.2.2
      have hfo1 : h1.1 fa = _ := hF1
      have hin1 := hin.fr hf hnd
      have hio1 := hin1.ob
      have hoo1 := ho1.ob
      have hO1 := hf.at hnx hO
      have ft1 := hz.fr hf (fun b z1 z2 => by unfold PA At at *; omega)
      have hzo1 := ft1.2.2.2.1
      have hfl := ft1.1

      refine x_iload C dX8_passFolding_6 (kk := ?_)
      refine x_aload_n C dX8_passFolding_8 (kk := ?_)
      refine x_callV C ml_X5_size lk_X8_85 (c_row_size l G hin1) dX8_passFolding_9 (fun r9 h9 hp9 => ?_)
      obtain ⟨rfl, rfl⟩ := hp9
      refine x_ncmp_ge C i q.length dX8_passFolding_12 154 (fun hcz => ?_) (fun hcz => ?_)
      · refine x_iload C dX8_passFolding_154 (kk := ?_)
        refine x_zret C rfl dX8_passFolding_156 (Or.inr rfl) (hp := ?_)
        exact hinv.post (by omega)
      obtain ⟨v, hv⟩ : ∃ v, q[i]? = some v := ⟨q[i], List.getElem?_eq_getElem hcz⟩
      have hst := (pasN_at (ts := ts) (kind := 0) (rule := rl) hv).trans (stp0 ts rl q i _ v)
      refine x_iload C dX8_passFolding_15 (kk := ?_)
      refine x_if_eq C dX8_passFolding_17 154 (fun hc17 => ?_) (fun hc17 => ?_)
      · exact absurd hc17 (by decide)
      · refine x_aload_n C dX8_passFolding_20 (kk := ?_)
        refine x_iload C dX8_passFolding_21 (kk := ?_)
        refine x_callV C ml_X5_signAt lk_X8_147 (c_row_signAt l G hv hin1) dX8_passFolding_23 (fun r23 h23 hp23 => ?_)
        obtain ⟨rfl, rfl⟩ := hp23
        refine x_istore C dX8_passFolding_26 (kk := ?_)
        refine x_aload_n C dX8_passFolding_28 (kk := ?_)
        refine x_get C fl_X8_23 dX8_passFolding_29 (kk := ?_)
        refine x_iload C dX8_passFolding_32 (kk := ?_)
        refine x_callV C ml_X1_slotOf lk_X8_225 (c_o_slotOf l G v.1 ft1) dX8_passFolding_34 (fun r34 h34 hp34 => ?_)
        obtain ⟨r5, rfl, hs5, rfl⟩ := hp34
        refine x_istore C dX8_passFolding_37 (kk := ?_)
        refine x_iload C dX8_passFolding_39 (kk := ?_)
        refine x_iconst C dX8_passFolding_41 (v := -1) (kk := ?_)
        rcases hs5 with ⟨rfl, hno⟩ | ⟨k5, rfl, hk5⟩
        rotate_left
        · obtain ⟨e5, he, hek⟩ : ∃ e5, ts.1[k5]? = some e5 ∧ e5.1 = v.1 := by
            rw [List.getElem?_map] at hk5
            cases hq5 : ts.1[k5]? with
            | none => rw [hq5] at hk5; simp at hk5
            | some e5 => rw [hq5] at hk5; exact ⟨e5, rfl, by simpa using hk5⟩
          have hkl : k5 < ts.1.length := (List.getElem?_eq_some_iff.mp he).1
          have hwf := ft1.2.2.1 e5 (List.mem_of_getElem? he)
          have hwl := hwf.1
          have hst2 : (pasN ts 0 rl q (i + 1)).1 = ((pasN ts 0 rl q i).1.1 ++ e5.2.map (fun w => (w, v.2)), (pasN ts 0 rl q i).1.2.1 + 1, (pasN ts 0 rl q i).1.2.2 + (uSum e5.2 - uOf v.1)) := by rw [hst]; show stFold _ _ _ = _; unfold stFold; simp only [aget_at ft1.2.1 he hek]
          have inner : ∀ (n2 k : Nat) (h2 : xh), e5.2.length - k < n2 → k ≤ e5.2.length → Fr (PA ro fa) h h2 → Rw G h2 ro ((pasN ts 0 rl q i).1.1 ++ (e5.2.take k).map (fun w => (w, v.2))) → Fa h2 fa 0 rl sm sg ((pasN ts 0 rl q i).1.2.1 + 1) ((pasN ts 0 rl q i).1.2.2 + (uSum e5.2 - uOf v.1)) → X p l e { frames := 3, cells := 0, slots := 0, locals := 67 } s m args below meth c G bs (MQ below (x_Q G bs (fun v h' => PPost G ts 0 rl q h ro fa sm sg v h')) args s 0 0 (fun q => bs ≤ q)) 0 0 94 [some (.ref x), some (.ref fa), some (.ref ri), some (.ref ro), some (.int 1), some (.int (nI i)), some (.int v.1), some (.int (nI k5)), some (.int (nI k))] [] h2 := by
            intro n2
            induction n2 with
            | zero => intro k h2 hn2; omega
            | succ n2 ih2 =>
              intro k h2 hn2 hk2 f8 ho8 hF8
              have hin8 := hin.fr f8 hnd
              have hO8 := f8.at hnx hO
              have hio8 := hin8.ob
              have hoo8 := ho8.ob
              have ft8 := hz.fr f8 (fun b z1 z2 => by unfold PA At at *; omega)
              have hzo8 := ft8.2.2.2.1
              refine x_iload C dX8_passFolding_94 (kk := ?_)
              refine x_aload_n C dX8_passFolding_96 (kk := ?_)
              refine x_get C fl_X8_23 dX8_passFolding_97 (kk := ?_)
              refine x_iload C dX8_passFolding_100 (kk := ?_)
              refine x_callV C ml_X1_lengthAt lk_X8_237 (c_o_lengthAt l G he ft8) dX8_passFolding_102 (fun r102 h102 hp102 => ?_)
              obtain ⟨rfl, rfl⟩ := hp102
              refine x_ncmp_ge C k e5.2.length dX8_passFolding_105 148 (fun hcq => ?_) (fun hcq => ?_)
              · have hinv2 := PInv.keep f8 (acc := (pasN ts 0 rl q i).1.1 ++ e5.2.map (fun w => (w, v.2))) (by rw [List.take_of_length_le hcq] at ho8; exact ho8) hF8 hst2
                refine x_iinc1 C dX8_passFolding_148 (kk := ?_)
                refine x_goto C dX8_passFolding_151 6 ?_
                refine x_fg 8 ?_
                refine x_fg 7 ?_
                refine x_fg 6 ?_
                first | exact ih (i + 1) _ (by omega) (by omega) hinv2 | exact fail (i + 1) _ hbad
              refine x_iload C dX8_passFolding_108 (kk := ?_)
              refine x_if_eq C dX8_passFolding_110 148 (fun hc110 => ?_) (fun hc110 => ?_)
              · exact absurd hc110 (by decide)
              · refine x_aload_n C dX8_passFolding_113 (kk := ?_)
                refine x_aload_n C dX8_passFolding_114 (kk := ?_)
                refine x_get C fl_X8_23 dX8_passFolding_115 (kk := ?_)
                refine x_iload C dX8_passFolding_118 (kk := ?_)
                refine x_iload C dX8_passFolding_120 (kk := ?_)
                refine x_callV C ml_X1_partAt lk_X8_240 (c_o_partAt l G (j := k) he (by omega) ft8) dX8_passFolding_122 (fun r122 h122 hp122 => ?_)
                obtain ⟨rfl, rfl⟩ := hp122
                refine x_aload_n C dX8_passFolding_125 (kk := ?_)
                refine x_iload C dX8_passFolding_126 (kk := ?_)
                refine x_callV C ml_X5_beginAt lk_X8_154 (c_row_beginAt l G hv hin8) dX8_passFolding_128 (fun r128 h128 hp128 => ?_)
                obtain ⟨rfl, rfl⟩ := hp128
                refine x_aload_n C dX8_passFolding_131 (kk := ?_)
                refine x_iload C dX8_passFolding_132 (kk := ?_)
                refine x_callV C ml_X5_endAt lk_X8_151 (c_row_endAt l G hv hin8) dX8_passFolding_134 (fun r134 h134 hp134 => ?_)
                obtain ⟨rfl, rfl⟩ := hp134
                refine x_callV C ml_X5_add lk_X8_199 (c_row_add3 l G _ v.2.1 v.2.2 ho8) dX8_passFolding_137 (fun r137 h137 hp137 => ?_)
                rcases hp137 with ⟨hl9, rfl, hr9, hf9⟩ | ⟨hl9, rfl, rfl⟩
                rotate_left
                · have hbad : PBad G ts 0 rl q h ro fa sm sg (i + 1) h137 := ⟨f8, hcz, by rw [hst2]; simp at hl9 ⊢; omega, ⟨_, ho8⟩, _, _, hF8⟩
                  refine x_istore C dX8_passFolding_140 (kk := ?_)
                  refine x_iinc1 C dX8_passFolding_142 (kk := ?_)
                  refine x_goto C dX8_passFolding_145 94 ?_
                  refine x_iload C dX8_passFolding_94 (kk := ?_)
                  refine x_aload_n C dX8_passFolding_96 (kk := ?_)
                  refine x_get C fl_X8_23 dX8_passFolding_97 (kk := ?_)
                  refine x_iload C dX8_passFolding_100 (kk := ?_)
                  refine x_callV C ml_X1_lengthAt lk_X8_237 (c_o_lengthAt l G he ft8) dX8_passFolding_102 (fun r102 h102 hp102 => ?_)
                  obtain ⟨rfl, rfl⟩ := hp102
                  refine x_ncmp_ge C (k + 1) e5.2.length dX8_passFolding_105 148 (fun hcx => ?_) (fun hcx => ?_)
                  · skip
                    refine x_iinc1 C dX8_passFolding_148 (kk := ?_)
                    refine x_goto C dX8_passFolding_151 6 ?_
                    refine x_fg 8 ?_
                    refine x_fg 7 ?_
                    refine x_fg 6 ?_
                    first | exact ih (i + 1) _ (by omega) (by omega) hinv2 | exact fail (i + 1) _ hbad
                  · refine x_iload C dX8_passFolding_108 (kk := ?_)
                    refine x_if_eq C dX8_passFolding_110 148 (fun hcy => ?_) (fun hcy => absurd rfl hcy)
                    refine x_iinc1 C dX8_passFolding_148 (kk := ?_)
                    refine x_goto C dX8_passFolding_151 6 ?_
                    refine x_fg 8 ?_
                    refine x_fg 7 ?_
                    refine x_fg 6 ?_
                    first | exact ih (i + 1) _ (by omega) (by omega) hinv2 | exact fail (i + 1) _ hbad
                refine x_istore C dX8_passFolding_140 (kk := ?_)
                refine x_iinc1 C dX8_passFolding_142 (kk := ?_)
                refine x_goto C dX8_passFolding_145 94 ?_
                first | exact inner (e5.2.length + 1) 0 _ (by omega) (by omega) f9 (by simpa using ho9) hF9 | exact ih2 (k + 1) _ (by omega) (by omega) (f8.tr (hf9.mono (fun b z => Or.inl z))) (by rw [take_at (v := e5.2.getD k (-1)) (by simp [hcq]), List.map_append, ← List.append_assoc]; exact hr9) (hF8.fr hf9 (by unfold At; omega))
          refine x_icmp_ne C dX8_passFolding_42 68 (fun hc42 => ?_) (fun z => absurd z (nI_m1 (by omega)))
          refine x_aload_n C dX8_passFolding_68 (kk := ?_)
          refine x_callV C ml_X0_meetOne lk_X8_228 (c_f_meet l G hF1) dX8_passFolding_69 (fun r69 h69 hp69 => ?_)
          obtain ⟨rfl, hF8, hfr8⟩ := hp69
          have hin8 := hin1.fr hfr8 (fun b z1 z2 => by unfold At at *; omega)
          have ho8 := ho1.fr hfr8 (fun b z1 z2 => by unfold At at *; omega)
          have f8 := hf.tr (hfr8.mono (fun b z => Or.inr (by unfold At at z; omega)))
          have hoo8 := ho8.ob
          have hio8 := hin8.ob
          have hO8 := hfr8.at (by unfold At; omega) hO1
          have ft8 := ft1.fr hfr8 (fun b z1 z2 => by unfold At at *; omega)
          have hzo8 := ft8.2.2.2.1
          have hfo8 : h69.1 fa = _ := hF8
          refine x_aload_n C dX8_passFolding_72 (kk := ?_)
          refine x_aload_n C dX8_passFolding_73 (kk := ?_)
          refine x_get C fl_X8_23 dX8_passFolding_74 (kk := ?_)
          refine x_iload C dX8_passFolding_77 (kk := ?_)
          refine x_callV C ml_X1_unitsAt lk_X8_231 (c_o_unitsAt l G he ft8) dX8_passFolding_79 (fun r79 h79 hp79 => ?_)
          obtain ⟨rfl, rfl⟩ := hp79
          refine x_iload C dX8_passFolding_82 (kk := ?_)
          refine x_callS C ml_X8_unitsOf lk_X8_157 (c_unitsOf l G v.1) dX8_passFolding_84 (fun r84 h84 hp84 => ?_)
          obtain ⟨rfl, rfl⟩ := hp84
          refine x_isub C dX8_passFolding_87 ?_
          refine x_callV C ml_X0_growBy lk_X8_234 (c_f_grow l G _ hF8) dX8_passFolding_88 (fun r88 h88 hp88 => ?_)
          obtain ⟨rfl, hF9, hfr9⟩ := hp88
          have ho9 := ho8.fr hfr9 (fun b z1 z2 => by unfold At at *; omega)
          have f9 := f8.tr (hfr9.mono (fun b z => Or.inr (by unfold At at z; omega)))
          refine x_iconst C dX8_passFolding_91 (v := 0) (kk := ?_)
          refine x_istore C dX8_passFolding_92 (kk := ?_)
          first | exact inner (e5.2.length + 1) 0 _ (by omega) (by omega) f9 (by simpa using ho9) hF9 | exact ih2 (k + 1) _ (by omega) (by omega) (f8.tr (hf9.mono (fun b z => Or.inl z))) (by rw [take_at (v := e5.2.getD k (-1)) (by simp [hcq]), List.map_append, ← List.append_assoc]; exact hr9) (hF8.fr hf9 (by unfold At; omega))
        have hst2 : (pasN ts 0 rl q (i + 1)).1 = ((pasN ts 0 rl q i).1.1 ++ [v], (pasN ts 0 rl q i).1.2.1, (pasN ts 0 rl q i).1.2.2) := by rw [hst]; show stFold _ _ _ = _; unfold stFold; simp only [aget_no hno]
        have hin8 := hin1
        have ho8 := ho1
        have hF8 := hF1
        have f8 := hf
        have hO8 := hO1
        have hoo8 := hoo1
        have hio8 := hio1
        refine x_icmp_ne C dX8_passFolding_42 68 (fun z => absurd rfl z) (fun hc42 => ?_)
        refine x_aload_n C dX8_passFolding_45 (kk := ?_)
        refine x_iload C dX8_passFolding_46 (kk := ?_)
        refine x_aload_n C dX8_passFolding_48 (kk := ?_)
        refine x_iload C dX8_passFolding_49 (kk := ?_)
        refine x_callV C ml_X5_beginAt lk_X8_154 (c_row_beginAt l G hv hin8) dX8_passFolding_51 (fun r51 h51 hp51 => ?_)
        obtain ⟨rfl, rfl⟩ := hp51
        refine x_aload_n C dX8_passFolding_54 (kk := ?_)
        refine x_iload C dX8_passFolding_55 (kk := ?_)
        refine x_callV C ml_X5_endAt lk_X8_151 (c_row_endAt l G hv hin8) dX8_passFolding_57 (fun r57 h57 hp57 => ?_)
        obtain ⟨rfl, rfl⟩ := hp57
        refine x_callV C ml_X5_add lk_X8_199 (c_row_add l G v ho8) dX8_passFolding_60 (fun r60 h60 hp60 => ?_)
        rcases PInv.add hcz f8 ho8 hF8 hst2 (by unfold At; omega) hp60 with ⟨rfl, hinv2⟩ | ⟨rfl, hbad⟩
        rotate_left
        · skip
          refine x_istore C dX8_passFolding_63 (kk := ?_)
          refine x_goto C dX8_passFolding_65 148 ?_
          refine x_iinc1 C dX8_passFolding_148 (kk := ?_)
          refine x_goto C dX8_passFolding_151 6 ?_
          refine x_fg 8 ?_
          refine x_fg 7 ?_
          refine x_fg 6 ?_
          first | exact ih (i + 1) _ (by omega) (by omega) hinv2 | exact fail (i + 1) _ hbad
        refine x_istore C dX8_passFolding_63 (kk := ?_)
        refine x_goto C dX8_passFolding_65 148 ?_
        refine x_iinc1 C dX8_passFolding_148 (kk := ?_)
        refine x_goto C dX8_passFolding_151 6 ?_
        refine x_fg 8 ?_
        refine x_fg 7 ?_
        refine x_fg 6 ?_
        first | exact ih (i + 1) _ (by omega) (by omega) hinv2 | exact fail (i + 1) _ hbad
  refine x_iconst C dX8_passFolding_0 (v := 1) (kk := ?_)
  refine x_istore C dX8_passFolding_1 (kk := ?_)
  refine x_iconst C dX8_passFolding_3 (v := 0) (kk := ?_)
  refine x_istore C dX8_passFolding_4 (kk := ?_)
  exact loop (q.length + 1) 0 h (by omega) (by omega) ⟨Fr.rf, hout, hF⟩
