/-! WHAT EACH CALL DOES, III -/
theorem x_st {p : Program} {l : Launch} {e : Env} {R : Room} {s : State} {m : MethodId} {args : Array Value} {below : List Frame} {meth : Method} {c : Code} {G : xG} {bs : Nat} {Q : State → Prop} {cells slots pc : Nat} {L : List (Option Value)} {st : List Value} {h : xh} (st' : List Value) (hst : st = st') (kk : X p l e R s m args below meth c G bs Q cells slots pc L st' h) : X p l e R s m args below meth c G bs Q cells slots pc L st h := hst ▸ kk
theorem plc {p : Int32} (h : 0 ≤ p ∧ p ≤ 7) : ∃ j : Nat, j < 8 ∧ p = nI j := by
  obtain ⟨j, hj, e⟩ := nI_of2 (n := 7) (M := 7) (by decide) (Int32.not_lt.mpr h.1) h.2
  exact ⟨j, by omega, e⟩
theorem knd {p : Int32} (h : 0 ≤ p ∧ p ≤ 6) : ∃ j : Nat, j ≤ 6 ∧ p = nI j := nI_of2 (n := 6) (M := 6) (by decide) (Int32.not_lt.mpr h.1) h.2
/-- one place of the chain changes -/
theorem Cn.put {G : xG} {h h' : xh} {c dy j : Nat} {ch : List (Option Fi)} {g : Nat → Option Nat} {o : Option Fi} {oa : Option Nat} (g0 : ch.length = 8) (g2 : ∀ p : Nat, ch[p]? = some none → g p = none) (g3 : ∀ (p : Nat) (fi : Fi), ch[p]? = some (some fi) → (∃ k : Nat, k ≤ 6 ∧ fi.1 = nI k) ∧ ∃ a, g p = some a ∧ dy ≤ a ∧ a < h.2 ∧ ∃ rm rg, Fa h a fi.1 fi.2.1 fi.2.2.1 fi.2.2.2 rm rg) (g4 : ∀ (p p' : Nat) (fi fi' : Fi), ch[p]? = some (some fi) → ch[p']? = some (some fi') → g p = g p' → p = p')
    (hj : j < 8) (h1 : h'.1 c = some (eR G 1 8 (va_up g j oa))) (hn : o = none → oa = none) (hs : ∀ fi, o = some fi → (∃ k : Nat, k ≤ 6 ∧ fi.1 = nI k) ∧ ∃ a, oa = some a ∧ dy ≤ a ∧ a < h'.2 ∧ ∃ rm rg, Fa h' a fi.1 fi.2.1 fi.2.2.1 fi.2.2.2 rm rg) (hsz : h.2 ≤ h'.2) (hold : ∀ (p : Nat) (fi : Fi) (a : Nat), p ≠ j → ch[p]? = some (some fi) → g p = some a → a < h.2 → h'.1 a = h.1 a ∧ some a ≠ oa) : Cn G h' c dy (ch.set j o) := by
  have hjl : j < ch.length := by omega
  refine ⟨by simpa using g0, _, h1, fun p hp => ?_, fun p fi hp => ?_, fun p p' fi fi' hp hp' he => ?_⟩
  · by_cases e : p = j
    · subst e
      rw [List.getElem?_set_self hjl] at hp
      simp only [va_up, if_true]
      exact hn (Option.some.inj hp)
    · rw [List.getElem?_set_ne (Ne.symm e)] at hp
      simp only [va_up, if_neg e]
      exact g2 p hp
  · by_cases e : p = j
    · subst e
      rw [List.getElem?_set_self hjl] at hp
      simp only [va_up, if_true]
      exact hs fi (Option.some.inj hp)
    · rw [List.getElem?_set_ne (Ne.symm e)] at hp
      simp only [va_up, if_neg e]
      obtain ⟨k, a, a1, a2, a3, rm, rg, a4⟩ := g3 p fi hp
      exact ⟨k, a, a1, a2, by omega, rm, rg, (hold p fi a e hp a1 a3).1.trans a4⟩
  · have key : ∀ (q q' : Nat) (f1 f2 : Fi), q ≠ j → q' = j → (ch.set j o)[q]? = some (some f1) → (ch.set j o)[q']? = some (some f2) → va_up g j oa q = va_up g j oa q' → False := by
      intro q q' f1 f2 e1 e2 h2 h3 h4
      subst e2
      rw [List.getElem?_set_ne (Ne.symm e1)] at h2
      rw [List.getElem?_set_self hjl] at h3
      simp only [va_up, if_neg e1, if_true] at h4
      obtain ⟨-, a, a1, a2, a3, -⟩ := g3 q f1 h2
      exact (hold q f1 a e1 h2 a1 a3).2 (by rw [← a1, h4])
    by_cases e : p = j
    · by_cases e' : p' = j
      · rw [e, e']
      · exact (key p' p fi' fi e' e hp' hp he.symm).elim
    · by_cases e' : p' = j
      · exact (key p p' fi fi' e e' hp hp' he).elim
      · rw [List.getElem?_set_ne (Ne.symm e)] at hp
        rw [List.getElem?_set_ne (Ne.symm e')] at hp'
        simp only [va_up, if_neg e, if_neg e'] at he
        exact g4 p p' fi fi' hp hp' he
theorem cput_hold {h h' : xh} {ch : List (Option Fi)} {g : Nat → Option Nat} {q j b a : Nat} {fi f2 : Fi} (g4 : ∀ (p p' : Nat) (fi fi' : Fi), ch[p]? = some (some fi) → ch[p']? = some (some fi') → g p = g p' → p = p') (hq : q ≠ j) (hqc : ch[q]? = some (some fi)) (ho : ch[j]? = some (some f2)) (hb : g q = some b) (a1 : g j = some a) (hfr : Fr (At a 1) h h') : h'.1 b = h.1 b ∧ some b ≠ some a := by
  have hne : b ≠ a := fun z => hq (g4 q j fi f2 hqc ho (by rw [hb, a1, z]))
  exact ⟨hfr.2 b (by unfold At; omega), fun z => hne (Option.some.inj z)⟩
theorem va_up_id {f : Nat → Option Nat} {j : Nat} {o : Option Nat} (h : f j = o) : va_up f j o = f := by
  funext q
  by_cases e : q = j
  · subst e; simp [va_up, h]
  · simp [va_up, e]
set_option maxRecDepth 100000 in
set_option maxHeartbeats 4000000 in
theorem c_met (l : Launch) (G : xG) {h : xh} {x dy : Nat} {u : List Int32} {km : Nat} {src lat : List Sg} {fo : List Fo} {pa : List Pr} {ze : List Int32} {ra : List Rg} {sr : List Sr} {ch : List (Option Fi)} (v : Int32) (hC : Cs G h x dy (u, km, src, lat, (fo, pa, ze, ra, sr), ch)) : Ct l G yX8_met cX8_met 3 (Option.some Jvm.ClassFile.FieldType.int) { frames := 1, cells := 0, slots := 0, locals := 20 } [.ref x, .int v] h (fun r h' => OpP G x dy h (opMet (u, km, src, lat, (fo, pa, ze, ra, sr), ch) v, (u, km, src, lat, (fo, pa, ze, ra, sr), ch)) r h') := by
  obtain ⟨la, s1, s2, hO, hul, hmu, ⟨f, hf, hfu⟩, hFt, hPt, hZt, hRt, hSx, hCn, hSr, hsl, hpm, hLa, ⟨w1, hS1⟩, ⟨w2, hS2⟩, hxd, hdh⟩ := id hC
  dsimp only at hO hul hmu hfu hFt hPt hZt hRt hSx hCn hSr hsl hLa
  obtain ⟨g0, g, g1, g2, g3, g4⟩ := id hCn
  refine Ct.of [some (.ref x), some (.int v), none] (by decide +kernel) (Nat.le_of_ble_eq_true rfl) (fun p e s m args below meth c bs C hini => ?_)
  refine x_iload_n C dX8_met_0 (kk := ?_)
  refine x_callS C ml_X8_isPlace lk_X8_118 (c_isPlace l G v) dX8_met_1 (fun r1 h1 hp1 => ?_)
  obtain ⟨rfl, rfl⟩ := hp1
  refine x_ifB_ne C dX8_met_4 10 (fun hc4 => ?_) (fun hc4 => ?_)
  · obtain ⟨j, hj, rfl⟩ := plc hc4
    have hcl : (nI j).toNatClampNeg = j := nI_clamp (by omega)
    obtain ⟨o, ho⟩ : ∃ o, ch[j]? = some o := ⟨ch[j]'(by omega), List.getElem?_eq_getElem (by omega)⟩
    refine x_aload_n C dX8_met_10 (kk := ?_)
    refine x_get C fl_X8_57 dX8_met_11 (kk := ?_)
    refine x_iload_n C dX8_met_14 (kk := ?_)
    refine x_aald C _ dX8_met_15 (t := 1) (cn := RX0) (kk := ?_)
    rcases o with _ | fi
    · rw [g2 j ho]
      refine x_st [.null] rfl ?_
      refine x_astore_nN C dX8_met_16 (kk := ?_)
      refine x_aload_nN C dX8_met_17 (kk := ?_)
      refine x_ifnullN C dX8_met_18 28 ?_
      refine x_bipush C dX8_met_28 (v := -11) (kk := ?_)
      refine x_iret C rfl dX8_met_30 (hp := ?_)
      exact ⟨by simp only [opMet, if_pos hc4, hcl, List.getD_eq_getElem?_getD, ho, Option.getD_some], hC, Fc.rf⟩
    obtain ⟨⟨k, hk6, hke⟩, a, a1, a2, a3, rm, rg, a4⟩ := g3 j fi ho
    obtain ⟨kd, rl, sm, sg⟩ := fi
    dsimp only at hke a4
    subst hke
    rw [a1]
    refine x_st [.ref a] rfl ?_
    have hfa := id a4
    unfold Fa at hfa
    refine x_astore_n C dX8_met_16 (kk := ?_)
    refine x_aload_n C dX8_met_17 (kk := ?_)
    refine x_ifnull C dX8_met_18 ?_
    refine x_aload_n C dX8_met_21 (kk := ?_)
    refine x_get C fl_X8_167 dX8_met_22 (kk := ?_)
    refine x_goto C dX8_met_25 30 ?_
    refine x_iret C rfl dX8_met_30 (hp := ?_)
    exact ⟨by simp only [opMet, if_pos hc4, hcl, List.getD_eq_getElem?_getD, ho, Option.getD_some], hC, Fc.rf⟩
  refine x_bipush C dX8_met_7 (v := -13) (kk := ?_)
  refine x_iret C rfl dX8_met_9 (hp := ?_)
  exact ⟨by simp only [opMet, if_neg hc4], hC, Fc.rf⟩
set_option maxRecDepth 100000 in
set_option maxHeartbeats 4000000 in
theorem c_grown (l : Launch) (G : xG) {h : xh} {x dy : Nat} {u : List Int32} {km : Nat} {src lat : List Sg} {fo : List Fo} {pa : List Pr} {ze : List Int32} {ra : List Rg} {sr : List Sr} {ch : List (Option Fi)} (v : Int32) (hC : Cs G h x dy (u, km, src, lat, (fo, pa, ze, ra, sr), ch)) : Ct l G yX8_grown cX8_grown 3 (Option.some Jvm.ClassFile.FieldType.int) { frames := 1, cells := 0, slots := 0, locals := 20 } [.ref x, .int v] h (fun r h' => OpP G x dy h (opGrown (u, km, src, lat, (fo, pa, ze, ra, sr), ch) v, (u, km, src, lat, (fo, pa, ze, ra, sr), ch)) r h') := by
  obtain ⟨la, s1, s2, hO, hul, hmu, ⟨f, hf, hfu⟩, hFt, hPt, hZt, hRt, hSx, hCn, hSr, hsl, hpm, hLa, ⟨w1, hS1⟩, ⟨w2, hS2⟩, hxd, hdh⟩ := id hC
  dsimp only at hO hul hmu hfu hFt hPt hZt hRt hSx hCn hSr hsl hLa
  obtain ⟨g0, g, g1, g2, g3, g4⟩ := id hCn
  refine Ct.of [some (.ref x), some (.int v), none] (by decide +kernel) (Nat.le_of_ble_eq_true rfl) (fun p e s m args below meth c bs C hini => ?_)
  refine x_iload_n C dX8_grown_0 (kk := ?_)
  refine x_callS C ml_X8_isPlace lk_X8_118 (c_isPlace l G v) dX8_grown_1 (fun r1 h1 hp1 => ?_)
  obtain ⟨rfl, rfl⟩ := hp1
  refine x_ifB_ne C dX8_grown_4 10 (fun hc4 => ?_) (fun hc4 => ?_)
  · obtain ⟨j, hj, rfl⟩ := plc hc4
    have hcl : (nI j).toNatClampNeg = j := nI_clamp (by omega)
    obtain ⟨o, ho⟩ : ∃ o, ch[j]? = some o := ⟨ch[j]'(by omega), List.getElem?_eq_getElem (by omega)⟩
    refine x_aload_n C dX8_grown_10 (kk := ?_)
    refine x_get C fl_X8_57 dX8_grown_11 (kk := ?_)
    refine x_iload_n C dX8_grown_14 (kk := ?_)
    refine x_aald C _ dX8_grown_15 (t := 1) (cn := RX0) (kk := ?_)
    rcases o with _ | fi
    · rw [g2 j ho]
      refine x_st [.null] rfl ?_
      refine x_astore_nN C dX8_grown_16 (kk := ?_)
      refine x_aload_nN C dX8_grown_17 (kk := ?_)
      refine x_ifnonnullN C dX8_grown_18 ?_
      refine x_bipush C dX8_grown_21 (v := -11) (kk := ?_)
      refine x_iret C rfl dX8_grown_23 (hp := ?_)
      exact ⟨by simp only [opGrown, if_pos hc4, hcl, List.getD_eq_getElem?_getD, ho, Option.getD_some], hC, Fc.rf⟩
    obtain ⟨⟨k, hk6, hke⟩, a, a1, a2, a3, rm, rg, a4⟩ := g3 j fi ho
    obtain ⟨kd, rl, sm, sg⟩ := fi
    dsimp only at hke a4
    subst hke
    rw [a1]
    refine x_st [.ref a] rfl ?_
    have hfa := id a4
    unfold Fa at hfa
    refine x_astore_n C dX8_grown_16 (kk := ?_)
    refine x_aload_n C dX8_grown_17 (kk := ?_)
    refine x_ifnonnull C dX8_grown_18 24 ?_
    refine x_aload_n C dX8_grown_24 (kk := ?_)
    refine x_get C fl_X8_124 dX8_grown_25 (kk := ?_)
    refine x_if_ne C dX8_grown_28 38 (fun hc28 => ?_) (fun hc28 => ?_)
    · skip
      refine x_bipush C dX8_grown_38 (v := -12) (kk := ?_)
      refine x_iret C rfl dX8_grown_40 (hp := ?_)
      exact ⟨by simp only [opGrown, if_pos hc4, hcl, List.getD_eq_getElem?_getD, ho, Option.getD_some, if_neg hc28], hC, Fc.rf⟩
    refine x_aload_n C dX8_grown_31 (kk := ?_)
    refine x_get C fl_X8_170 dX8_grown_32 (kk := ?_)
    refine x_goto C dX8_grown_35 40 ?_
    refine x_iret C rfl dX8_grown_40 (hp := ?_)
    exact ⟨by simp only [opGrown, if_pos hc4, hcl, List.getD_eq_getElem?_getD, ho, Option.getD_some, if_pos hc28], hC, Fc.rf⟩
  refine x_bipush C dX8_grown_7 (v := -13) (kk := ?_)
  refine x_iret C rfl dX8_grown_9 (hp := ?_)
  exact ⟨by simp only [opGrown, if_neg hc4], hC, Fc.rf⟩
set_option maxRecDepth 100000 in
set_option maxHeartbeats 4000000 in
theorem c_rule (l : Launch) (G : xG) {h : xh} {x dy : Nat} {u : List Int32} {km : Nat} {src lat : List Sg} {fo : List Fo} {pa : List Pr} {ze : List Int32} {ra : List Rg} {sr : List Sr} {ch : List (Option Fi)} (v w : Int32) (hC : Cs G h x dy (u, km, src, lat, (fo, pa, ze, ra, sr), ch)) : Ct l G yX8_rule cX8_rule 5 (Option.some Jvm.ClassFile.FieldType.int) { frames := 1, cells := 0, slots := 0, locals := 20 } [.ref x, .int v, .int w] h (fun r h' => OpP G x dy h (opRule (u, km, src, lat, (fo, pa, ze, ra, sr), ch) v w) r h') := by
  obtain ⟨la, s1, s2, hO, hul, hmu, ⟨f, hf, hfu⟩, hFt, hPt, hZt, hRt, hSx, hCn, hSr, hsl, hpm, hLa, ⟨w1, hS1⟩, ⟨w2, hS2⟩, hxd, hdh⟩ := id hC
  dsimp only at hO hul hmu hfu hFt hPt hZt hRt hSx hCn hSr hsl hLa
  obtain ⟨g0, g, g1, g2, g3, g4⟩ := id hCn
  refine Ct.of [some (.ref x), some (.int v), some (.int w), none, none] (by decide +kernel) (Nat.le_of_ble_eq_true rfl) (fun p e s m args below meth c bs C hini => ?_)
  refine x_iload_n C dX8_rule_0 (kk := ?_)
  refine x_if_lt C dX8_rule_1 9 (fun hc1 => ?_) (fun hc1 => ?_)
  · have hng : ¬ (0 ≤ w ∧ w ≤ 2) := fun z => absurd z.1 (Int32.not_le.mpr hc1)
    refine x_iconst C dX8_rule_9 (v := -1) (kk := ?_)
    refine x_iret C rfl dX8_rule_10 (hp := ?_)
    exact ⟨by simp only [opRule, if_neg hng], by simp only [opRule, if_neg hng]; exact hC, Fc.rf⟩
  · refine x_iload_n C dX8_rule_4 (kk := ?_)
    refine x_iconst C dX8_rule_5 (v := 2) (kk := ?_)
    refine x_icmp_le C dX8_rule_6 11 (fun hc6 => ?_) (fun hc6 => ?_)
    · have hcd : 0 ≤ w ∧ w ≤ 2 := ⟨Int32.not_lt.mp hc1, hc6⟩
      refine x_iload_n C dX8_rule_11 (kk := ?_)
      refine x_callS C ml_X8_isPlace lk_X8_118 (c_isPlace l G v) dX8_rule_12 (fun r12 h12 hp12 => ?_)
      obtain ⟨rfl, rfl⟩ := hp12
      refine x_ifB_ne C dX8_rule_15 21 (fun hc15 => ?_) (fun hc15 => ?_)
      · obtain ⟨j, hj, rfl⟩ := plc hc15
        have hcl : (nI j).toNatClampNeg = j := nI_clamp (by omega)
        obtain ⟨o, ho⟩ : ∃ o, ch[j]? = some o := ⟨ch[j]'(by omega), List.getElem?_eq_getElem (by omega)⟩
        refine x_aload_n C dX8_rule_21 (kk := ?_)
        refine x_get C fl_X8_57 dX8_rule_22 (kk := ?_)
        refine x_iload_n C dX8_rule_25 (kk := ?_)
        refine x_aald C _ dX8_rule_26 (t := 1) (cn := RX0) (kk := ?_)
        rcases o with _ | fi
        · rw [g2 j ho]
          refine x_st [.null] rfl ?_
          refine x_astore_nN C dX8_rule_27 (kk := ?_)
          refine x_aload_nN C dX8_rule_28 (kk := ?_)
          refine x_ifnonnullN C dX8_rule_29 ?_
          refine x_bipush C dX8_rule_32 (v := -11) (kk := ?_)
          refine x_iret C rfl dX8_rule_34 (hp := ?_)
          exact ⟨by simp only [opRule, if_pos hcd, if_pos hc15, hcl, List.getD_eq_getElem?_getD, ho, Option.getD_some], by simp only [opRule, if_pos hcd, if_pos hc15, hcl, List.getD_eq_getElem?_getD, ho, Option.getD_some]; exact hC, Fc.rf⟩
        obtain ⟨⟨k, hk6, hke⟩, a, a1, a2, a3, rm, rg, a4⟩ := g3 j fi ho
        obtain ⟨kd, rl, sm, sg⟩ := fi
        dsimp only at hke a4
        subst hke
        rw [a1]
        refine x_st [.ref a] rfl ?_
        have hfa := id a4
        unfold Fa at hfa
        refine x_astore_n C dX8_rule_27 (kk := ?_)
        refine x_aload_n C dX8_rule_28 (kk := ?_)
        refine x_ifnonnull C dX8_rule_29 35 ?_
        refine x_aload_n C dX8_rule_35 (kk := ?_)
        refine x_get C fl_X8_124 dX8_rule_36 (kk := ?_)
        refine x_iconst C dX8_rule_39 (v := 5) (kk := ?_)
        refine x_icmp_eq C dX8_rule_40 46 (fun hc40 => ?_) (fun hc40 => ?_)
        · skip
          refine x_aload_n C dX8_rule_46 (kk := ?_)
          refine x_get C fl_X8_127 dX8_rule_47 (kk := ?_)
          refine x_istore C dX8_rule_50 (kk := ?_)
          refine x_aload_n C dX8_rule_52 (kk := ?_)
          refine x_iload_n C dX8_rule_53 (kk := ?_)
          refine x_put C fp_X8_127 dX8_rule_54 (kk := ?_)
          refine x_iload C dX8_rule_57 (kk := ?_)
          refine x_hpG (fun h3 e3 => ?_)
          have hF3 : Fa h3 a (nI k) w sm sg rm rg := by rw [e3]; exact x_set_eq
          have hfr : Fr (At a 1) h12 h3 := by rw [e3]; exact Fr.rf.set ⟨by omega, by omega⟩
          refine x_iret C rfl dX8_rule_59 (hp := ?_)
          exact ⟨by simp only [opRule, if_pos hcd, if_pos hc15, hcl, List.getD_eq_getElem?_getD, ho, Option.getD_some, if_pos hc40], by simp only [opRule, if_pos hcd, if_pos hc15, hcl, List.getD_eq_getElem?_getD, ho, Option.getD_some, if_pos hc40]; exact ⟨la, s1, s2, hfr.at (by unfold isR At at *; omega) hO, hul, hmu, ⟨f, hfr.at (by unfold isR At at *; omega) hf, hfu⟩, hFt.fr hfr (fun b z1 z2 => by unfold isR At at *; omega), hPt.fr hfr (fun b z1 z2 => by unfold isR At at *; omega), hZt.fr hfr (fun b z1 z2 => by unfold isR At at *; omega), hRt.fr hfr (fun b z1 z2 => by unfold isR At at *; omega), hSx.same (Nat.le_of_eq hfr.1.symm) (fun b hb => hfr.2 b (by unfold At at *; omega)) (fun q z1 z2 w hw => hw.same (fun b hb => hfr.2 b (fun z => hw.ne a4 b hb (by unfold At at z; omega)))), Cn.put (oa := some a) g0 g2 g3 g4 hj (by rw [va_up_id a1]; exact hfr.at (by unfold At; omega) g1) (fun z => by cases z) (fun fi z => by cases z; exact ⟨⟨k, hk6, rfl⟩, a, rfl, a2, by rw [hfr.1]; exact a3, rm, rg, hF3⟩) (Nat.le_of_eq hfr.1.symm) (fun q fi b hq hqc hb hb2 => cput_hold g4 hq hqc ho hb a1 hfr), hSr.fr hfr (fun b z1 z2 => by unfold isR At at *; omega), hsl, hpm, hLa.fr hfr (fun b z1 z2 => by unfold isR At at *; omega), ⟨w1, hS1.fr hfr (fun b z1 z2 => by unfold isR At at *; omega)⟩, ⟨w2, hS2.fr hfr (fun b z1 z2 => by unfold isR At at *; omega)⟩, hxd, (Nat.le_trans hdh (Nat.le_of_eq hfr.1.symm))⟩, hfr.c (fun b z => by unfold At at *; omega)⟩
        refine x_bipush C dX8_rule_43 (v := -12) (kk := ?_)
        refine x_iret C rfl dX8_rule_45 (hp := ?_)
        exact ⟨by simp only [opRule, if_pos hcd, if_pos hc15, hcl, List.getD_eq_getElem?_getD, ho, Option.getD_some, if_neg hc40], by simp only [opRule, if_pos hcd, if_pos hc15, hcl, List.getD_eq_getElem?_getD, ho, Option.getD_some, if_neg hc40]; exact hC, Fc.rf⟩
      refine x_bipush C dX8_rule_18 (v := -13) (kk := ?_)
      refine x_iret C rfl dX8_rule_20 (hp := ?_)
      exact ⟨by simp only [opRule, if_pos hcd, if_neg hc15], by simp only [opRule, if_pos hcd, if_neg hc15]; exact hC, Fc.rf⟩
    · have hng : ¬ (0 ≤ w ∧ w ≤ 2) := fun z => hc6 z.2
      refine x_iconst C dX8_rule_9 (v := -1) (kk := ?_)
      refine x_iret C rfl dX8_rule_10 (hp := ?_)
      exact ⟨by simp only [opRule, if_neg hng], by simp only [opRule, if_neg hng]; exact hC, Fc.rf⟩
set_option maxRecDepth 100000 in
set_option maxHeartbeats 4000000 in
theorem c_drop (l : Launch) (G : xG) {h : xh} {x dy : Nat} {u : List Int32} {km : Nat} {src lat : List Sg} {fo : List Fo} {pa : List Pr} {ze : List Int32} {ra : List Rg} {sr : List Sr} {ch : List (Option Fi)} (v : Int32) (hC : Cs G h x dy (u, km, src, lat, (fo, pa, ze, ra, sr), ch)) : Ct l G yX8_drop cX8_drop 3 (Option.some Jvm.ClassFile.FieldType.int) { frames := 1, cells := 0, slots := 0, locals := 20 } [.ref x, .int v] h (fun r h' => OpP G x dy h (opDrop (u, km, src, lat, (fo, pa, ze, ra, sr), ch) v) r h') := by
  obtain ⟨la, s1, s2, hO, hul, hmu, ⟨f, hf, hfu⟩, hFt, hPt, hZt, hRt, hSx, hCn, hSr, hsl, hpm, hLa, ⟨w1, hS1⟩, ⟨w2, hS2⟩, hxd, hdh⟩ := id hC
  dsimp only at hO hul hmu hfu hFt hPt hZt hRt hSx hCn hSr hsl hLa
  obtain ⟨g0, g, g1, g2, g3, g4⟩ := id hCn
  refine Ct.of [some (.ref x), some (.int v), none] (by decide +kernel) (Nat.le_of_ble_eq_true rfl) (fun p e s m args below meth c bs C hini => ?_)
  refine x_iload_n C dX8_drop_0 (kk := ?_)
  refine x_callS C ml_X8_isPlace lk_X8_118 (c_isPlace l G v) dX8_drop_1 (fun r1 h1 hp1 => ?_)
  obtain ⟨rfl, rfl⟩ := hp1
  refine x_ifB_ne C dX8_drop_4 10 (fun hc4 => ?_) (fun hc4 => ?_)
  · obtain ⟨j, hj, rfl⟩ := plc hc4
    have hcl : (nI j).toNatClampNeg = j := nI_clamp (by omega)
    obtain ⟨o, ho⟩ : ∃ o, ch[j]? = some o := ⟨ch[j]'(by omega), List.getElem?_eq_getElem (by omega)⟩
    refine x_aload_n C dX8_drop_10 (kk := ?_)
    refine x_get C fl_X8_57 dX8_drop_11 (kk := ?_)
    refine x_iload_n C dX8_drop_14 (kk := ?_)
    refine x_aald C _ dX8_drop_15 (t := 1) (cn := RX0) (kk := ?_)
    rcases o with _ | fi
    · rw [g2 j ho]
      refine x_st [.null] rfl ?_
      refine x_ifnullN C dX8_drop_16 23 ?_
      refine x_iconst C dX8_drop_23 (v := 0) (kk := ?_)
      refine x_istore_n C dX8_drop_24 (kk := ?_)
      refine x_aload_n C dX8_drop_25 (kk := ?_)
      refine x_get C fl_X8_57 dX8_drop_26 (kk := ?_)
      refine x_iload_n C dX8_drop_29 (kk := ?_)
      refine x_null C dX8_drop_30 ?_
      refine x_aastN C _ dX8_drop_31 (t := 1) (cn := RX0) rfl (kk := ?_)
      refine x_hpG (fun h3 e3 => ?_)
      have h3c : h3.1 (x + 18) = some (eR G 1 8 (va_up g j none)) := by rw [e3]; exact x_set_eq
      have hfr : Fr (At (x + 18) 1) h1 h3 := by rw [e3]; exact Fr.rf.set ⟨by omega, by omega⟩
      refine x_iload_n C dX8_drop_32 (kk := ?_)
      refine x_iret C rfl dX8_drop_33 (hp := ?_)
      exact ⟨by simp only [opDrop, if_pos hc4, hcl, List.getD_eq_getElem?_getD, ho, Option.getD_some, if_true], by simp only [opDrop, if_pos hc4, hcl]; exact ⟨la, s1, s2, hfr.at (by unfold isR At at *; omega) hO, hul, hmu, ⟨f, hfr.at (by unfold isR At at *; omega) hf, hfu⟩, hFt.fr hfr (fun b z1 z2 => by unfold isR At at *; omega), hPt.fr hfr (fun b z1 z2 => by unfold isR At at *; omega), hZt.fr hfr (fun b z1 z2 => by unfold isR At at *; omega), hRt.fr hfr (fun b z1 z2 => by unfold isR At at *; omega), hSx.fr hfr (fun b z1 z2 => by unfold isR At at *; omega) (fun b z => by unfold isR At at *; omega), Cn.put (o := none) (oa := none) g0 g2 g3 g4 hj h3c (fun _ => rfl) (fun fi z => by cases z) (Nat.le_of_eq hfr.1.symm) (fun q fi b hq hqc hb hb2 => ⟨hfr.2 b (by obtain ⟨-, b', c1, c2, -⟩ := g3 q fi hqc; rw [hb] at c1; cases c1; unfold At; omega), fun z => by cases z⟩), hSr.fr hfr (fun b z1 z2 => by unfold isR At at *; omega), hsl, hpm, hLa.fr hfr (fun b z1 z2 => by unfold isR At at *; omega), ⟨w1, hS1.fr hfr (fun b z1 z2 => by unfold isR At at *; omega)⟩, ⟨w2, hS2.fr hfr (fun b z1 z2 => by unfold isR At at *; omega)⟩, hxd, (Nat.le_trans hdh (Nat.le_of_eq hfr.1.symm))⟩, hfr.c (fun b z => by unfold At at *; omega)⟩
    obtain ⟨⟨k, hk6, hke⟩, a, a1, a2, a3, rm, rg, a4⟩ := g3 j fi ho
    obtain ⟨kd, rl, sm, sg⟩ := fi
    dsimp only at hke a4
    subst hke
    rw [a1]
    refine x_st [.ref a] rfl ?_
    have hfa := id a4
    unfold Fa at hfa
    refine x_ifnull C dX8_drop_16 ?_
    refine x_iconst C dX8_drop_19 (v := 1) (kk := ?_)
    refine x_goto C dX8_drop_20 24 ?_
    refine x_istore_n C dX8_drop_24 (kk := ?_)
    refine x_aload_n C dX8_drop_25 (kk := ?_)
    refine x_get C fl_X8_57 dX8_drop_26 (kk := ?_)
    refine x_iload_n C dX8_drop_29 (kk := ?_)
    refine x_null C dX8_drop_30 ?_
    refine x_aastN C _ dX8_drop_31 (t := 1) (cn := RX0) rfl (kk := ?_)
    refine x_hpG (fun h3 e3 => ?_)
    have h3c : h3.1 (x + 18) = some (eR G 1 8 (va_up g j none)) := by rw [e3]; exact x_set_eq
    have hfr : Fr (At (x + 18) 1) h1 h3 := by rw [e3]; exact Fr.rf.set ⟨by omega, by omega⟩
    refine x_iload_n C dX8_drop_32 (kk := ?_)
    refine x_iret C rfl dX8_drop_33 (hp := ?_)
    exact ⟨by simp only [opDrop, if_pos hc4, hcl, List.getD_eq_getElem?_getD, ho, Option.getD_some]; rfl, by simp only [opDrop, if_pos hc4, hcl]; exact ⟨la, s1, s2, hfr.at (by unfold isR At at *; omega) hO, hul, hmu, ⟨f, hfr.at (by unfold isR At at *; omega) hf, hfu⟩, hFt.fr hfr (fun b z1 z2 => by unfold isR At at *; omega), hPt.fr hfr (fun b z1 z2 => by unfold isR At at *; omega), hZt.fr hfr (fun b z1 z2 => by unfold isR At at *; omega), hRt.fr hfr (fun b z1 z2 => by unfold isR At at *; omega), hSx.fr hfr (fun b z1 z2 => by unfold isR At at *; omega) (fun b z => by unfold isR At at *; omega), Cn.put (o := none) (oa := none) g0 g2 g3 g4 hj h3c (fun _ => rfl) (fun fi z => by cases z) (Nat.le_of_eq hfr.1.symm) (fun q fi b hq hqc hb hb2 => ⟨hfr.2 b (by obtain ⟨-, b', c1, c2, -⟩ := g3 q fi hqc; rw [hb] at c1; cases c1; unfold At; omega), fun z => by cases z⟩), hSr.fr hfr (fun b z1 z2 => by unfold isR At at *; omega), hsl, hpm, hLa.fr hfr (fun b z1 z2 => by unfold isR At at *; omega), ⟨w1, hS1.fr hfr (fun b z1 z2 => by unfold isR At at *; omega)⟩, ⟨w2, hS2.fr hfr (fun b z1 z2 => by unfold isR At at *; omega)⟩, hxd, (Nat.le_trans hdh (Nat.le_of_eq hfr.1.symm))⟩, hfr.c (fun b z => by unfold At at *; omega)⟩
  refine x_bipush C dX8_drop_7 (v := -13) (kk := ?_)
  refine x_iret C rfl dX8_drop_9 (hp := ?_)
  exact ⟨by simp only [opDrop, if_neg hc4], by simp only [opDrop, if_neg hc4]; exact hC, Fc.rf⟩
theorem nFil_take {ch : List (Option Fi)} {p : Nat} {o : Option Fi} (h : ch[p]? = some o) : nFil (ch.take (p + 1)) = nFil (ch.take p) + (if o.isSome then 1 else 0) := by
  unfold nFil
  rw [take_at h, List.filter_append, List.length_append]
  cases o <;> simp
set_option maxRecDepth 100000 in
set_option maxHeartbeats 4000000 in
theorem c_filters (l : Launch) (G : xG) {h : xh} {x dy : Nat} {d m0 : Int32} {la s1 s2 : Nat} {ch : List (Option Fi)} (hO : h.1 x = some (eO 8 (co x d m0 la s1 s2))) (hCn : Cn G h (x + 18) dy ch) : Ct l G yX8_filtersInChain cX8_filtersInChain 3 (Option.some Jvm.ClassFile.FieldType.int) { frames := 0, cells := 0, slots := 0, locals := 0 } [.ref x] h (fun r h' => r = some (.int (nI (nFil ch))) ∧ h' = h) := by
  obtain ⟨g0, g, g1, g2, g3, g4⟩ := id hCn
  refine Ct.of [some (.ref x), none, none] (by decide +kernel) (Nat.le_of_ble_eq_true rfl) (fun p e s m args below meth c bs C hini => ?_)
  have loop : ∀ (n j : Nat), 8 - j < n → j ≤ 8 → X p l e { frames := 0, cells := 0, slots := 0, locals := 0 } s m args below meth c G bs (MQ below (x_Q G bs (fun r h' => r = some (.int (nI (nFil ch))) ∧ h' = h)) args s 0 0 (fun q => bs ≤ q)) 0 0 4 [some (.ref x), some (.int (nI (nFil (ch.take j)))), some (.int (nI j))] [] h := by
    intro n
    induction n with
    | zero => intro j hn; omega
    | succ n ih =>
      intro j hn hj
      refine x_iload_n C dX8_filtersInChain_4 (kk := ?_)
      refine x_bipush C dX8_filtersInChain_5 (v := 8) (kk := ?_)
      refine x_ncmp_ge C j 8 dX8_filtersInChain_7 28 (fun hc7 => ?_) (fun hc7 => ?_)
      · refine x_iload_n C dX8_filtersInChain_28 (kk := ?_)
        refine x_iret C rfl dX8_filtersInChain_29 (hp := ?_)
        exact ⟨by rw [List.take_of_length_le (by omega)], rfl⟩
      obtain ⟨o, ho⟩ : ∃ o, ch[j]? = some o := ⟨ch[j]'(by omega), List.getElem?_eq_getElem (by omega)⟩
      have hnf := nFil_take ho
      refine x_aload_n C dX8_filtersInChain_10 (kk := ?_)
      refine x_get C fl_X8_57 dX8_filtersInChain_11 (kk := ?_)
      refine x_iload_n C dX8_filtersInChain_14 (kk := ?_)
      refine x_aald C _ dX8_filtersInChain_15 (t := 1) (cn := RX0) (kk := ?_)
      rcases o with _ | fi
      · rw [g2 j ho]
        refine x_st [.null] rfl ?_
        refine x_ifnullN C dX8_filtersInChain_16 22 ?_
        refine x_iinc1 C dX8_filtersInChain_22 (kk := ?_)
        refine x_goto C dX8_filtersInChain_25 4 ?_
        have := ih (j + 1) (by omega) (by omega)
        rw [hnf] at this
        exact this
      obtain ⟨-, a, a1, -⟩ := g3 j fi ho
      rw [a1]
      refine x_st [.ref a] rfl ?_
      refine x_ifnull C dX8_filtersInChain_16 ?_
      refine x_iinc1 C dX8_filtersInChain_19 (kk := ?_)
      refine x_iinc1 C dX8_filtersInChain_22 (kk := ?_)
      refine x_goto C dX8_filtersInChain_25 4 ?_
      have := ih (j + 1) (by omega) (by omega)
      rw [hnf] at this
      exact this
  refine x_iconst C dX8_filtersInChain_0 (v := 0) (kk := ?_)
  refine x_istore_n C dX8_filtersInChain_1 (kk := ?_)
  refine x_iconst C dX8_filtersInChain_2 (v := 0) (kk := ?_)
  refine x_istore_n C dX8_filtersInChain_3 (kk := ?_)
  exact loop 9 0 (by omega) (by omega)
set_option maxRecDepth 100000 in
set_option maxHeartbeats 4000000 in
theorem c_count (l : Launch) (G : xG) {h : xh} {x dy : Nat} {u : List Int32} {km : Nat} {src lat : List Sg} {fo : List Fo} {pa : List Pr} {ze : List Int32} {ra : List Rg} {sr : List Sr} {ch : List (Option Fi)} (v : Int32) (hC : Cs G h x dy (u, km, src, lat, (fo, pa, ze, ra, sr), ch)) : Ct l G yX8_count cX8_count 2 (Option.some Jvm.ClassFile.FieldType.int) { frames := 1, cells := 0, slots := 0, locals := 22 } [.ref x, .int v] h (fun r h' => OpP G x dy h (opCount (u, km, src, lat, (fo, pa, ze, ra, sr), ch) v, (u, km, src, lat, (fo, pa, ze, ra, sr), ch)) r h') := by
  obtain ⟨la, s1, s2, hO, hul, hmu, ⟨f, hf, hfu⟩, hFt, hPt, hZt, hRt, hSx, hCn, hSr, hsl, hpm, hLa, ⟨w1, hS1⟩, ⟨w2, hS2⟩, hxd, hdh⟩ := id hC
  dsimp only at hO hul hmu hfu hFt hPt hZt hRt hSx hCn hSr hsl hLa
  have b1 := hSr.ob
  have b2 := hFt.2.2.2.1
  have b3 := hPt.2.2.1
  have b4 := hZt.2.1
  have b5 := hRt.2.1
  have b6 := hSx.2.2.1
  have b8 := hLa.ob
  refine Ct.of [some (.ref x), some (.int v)] (by decide +kernel) (Nat.le_of_ble_eq_true rfl) (fun p e s m args below meth c bs C hini => ?_)
  refine x_iload_n C dX8_count_0 (kk := ?_)
  rcases pk_ix v (n := 9) (by omega) with hv | hv | ⟨j, hj, rfl⟩
  · have hs : ∀ k : Nat, k < 9 → ¬ v = nI k := fun k hk z => absurd hv (by rw [z]; exact nI_pos (by omega))
    refine x_tabO C dX8_count_1 118 (Or.inl (by simpa [Int32.lt_iff_toInt_lt] using hv)) ?_
    refine x_iconst C dX8_count_118 (v := -1) (kk := ?_)
    refine x_iret C rfl dX8_count_119 (hp := ?_)
    have z0 : ¬ v = 0 := hs 0 (by omega)
    have z1 : ¬ v = 1 := hs 1 (by omega)
    have z2 : ¬ v = 2 := hs 2 (by omega)
    have z3 : ¬ v = 3 := hs 3 (by omega)
    have z4 : ¬ v = 4 := hs 4 (by omega)
    have z5 : ¬ v = 5 := hs 5 (by omega)
    have z6 : ¬ v = 6 := hs 6 (by omega)
    have z7 : ¬ v = 7 := hs 7 (by omega)
    have z8 : ¬ v = 8 := hs 8 (by omega)
    exact ⟨by simp only [opCount, if_neg z0, if_neg z1, if_neg z2, if_neg z3, if_neg z4, if_neg z5, if_neg z6, if_neg z7, if_neg z8], hC, Fc.rf⟩
  · have hs : ∀ k : Nat, k < 9 → ¬ v = nI k := fun k hk z => nI_ge (a := k) (b := 9) hk (by omega) (by rw [← z]; exact hv)
    refine x_tabO C dX8_count_1 118 (Or.inr (by have h1 := Int32.le_iff_toInt_le.mp hv; rw [nI_toInt (by omega)] at h1; omega)) ?_
    refine x_iconst C dX8_count_118 (v := -1) (kk := ?_)
    refine x_iret C rfl dX8_count_119 (hp := ?_)
    have z0 : ¬ v = 0 := hs 0 (by omega)
    have z1 : ¬ v = 1 := hs 1 (by omega)
    have z2 : ¬ v = 2 := hs 2 (by omega)
    have z3 : ¬ v = 3 := hs 3 (by omega)
    have z4 : ¬ v = 4 := hs 4 (by omega)
    have z5 : ¬ v = 5 := hs 5 (by omega)
    have z6 : ¬ v = 6 := hs 6 (by omega)
    have z7 : ¬ v = 7 := hs 7 (by omega)
    have z8 : ¬ v = 8 := hs 8 (by omega)
    exact ⟨by simp only [opCount, if_neg z0, if_neg z1, if_neg z2, if_neg z3, if_neg z4, if_neg z5, if_neg z6, if_neg z7, if_neg z8], hC, Fc.rf⟩
  have hj9 : j = 0 ∨ j = 1 ∨ j = 2 ∨ j = 3 ∨ j = 4 ∨ j = 5 ∨ j = 6 ∨ j = 7 ∨ j = 8 := by omega
  rcases hj9 with rfl | rfl | rfl | rfl | rfl | rfl | rfl | rfl | rfl
  · refine x_tabI C 0 dX8_count_1 52 (by decide) (by decide) rfl ?_
    refine x_aload_n C dX8_count_52 (kk := ?_)
    refine x_get C fl_X8_13 dX8_count_53 (kk := ?_)
    refine x_iret C rfl dX8_count_56 (hp := ?_)
    exact ⟨rfl, hC, Fc.rf⟩
  · refine x_tabI C 1 dX8_count_1 57 (by decide) (by decide) rfl ?_
    refine x_aload_n C dX8_count_57 (kk := ?_)
    refine x_get C fl_X8_64 dX8_count_58 (kk := ?_)
    refine x_callV C ml_X5_size lk_X8_85 (c_row_size l G hSr) dX8_count_61 (fun r61 h61 hp61 => ?_)
    obtain ⟨rfl, rfl⟩ := hp61
    refine x_iret C rfl dX8_count_64 (hp := ?_)
    exact ⟨rfl, hC, Fc.rf⟩
  · refine x_tabI C 2 dX8_count_1 65 (by decide) (by decide) rfl ?_
    refine x_aload_n C dX8_count_65 (kk := ?_)
    refine x_get C fl_X8_23 dX8_count_66 (kk := ?_)
    refine x_callV C ml_X1_size lk_X8_105 (c_o_size l G hFt) dX8_count_69 (fun r69 h69 hp69 => ?_)
    obtain ⟨rfl, rfl⟩ := hp69
    refine x_iret C rfl dX8_count_72 (hp := ?_)
    exact ⟨rfl, hC, Fc.rf⟩
  · refine x_tabI C 3 dX8_count_1 73 (by decide) (by decide) rfl ?_
    refine x_aload_n C dX8_count_73 (kk := ?_)
    refine x_get C fl_X8_30 dX8_count_74 (kk := ?_)
    refine x_callV C ml_X2_size lk_X8_108 (c_p_size l G hPt) dX8_count_77 (fun r77 h77 hp77 => ?_)
    obtain ⟨rfl, rfl⟩ := hp77
    refine x_iret C rfl dX8_count_80 (hp := ?_)
    exact ⟨rfl, hC, Fc.rf⟩
  · refine x_tabI C 4 dX8_count_1 81 (by decide) (by decide) rfl ?_
    refine x_aload_n C dX8_count_81 (kk := ?_)
    refine x_get C fl_X8_37 dX8_count_82 (kk := ?_)
    refine x_callV C ml_X7_size lk_X8_113 (c_z_size l G hZt) dX8_count_85 (fun r85 h85 hp85 => ?_)
    obtain ⟨rfl, rfl⟩ := hp85
    refine x_iret C rfl dX8_count_88 (hp := ?_)
    exact ⟨rfl, hC, Fc.rf⟩
  · refine x_tabI C 5 dX8_count_1 89 (by decide) (by decide) rfl ?_
    refine x_aload_n C dX8_count_89 (kk := ?_)
    refine x_get C fl_X8_44 dX8_count_90 (kk := ?_)
    refine x_callV C ml_X3_size lk_X8_117 (c_r_size l G hRt) dX8_count_93 (fun r93 h93 hp93 => ?_)
    obtain ⟨rfl, rfl⟩ := hp93
    refine x_iret C rfl dX8_count_96 (hp := ?_)
    exact ⟨rfl, hC, Fc.rf⟩
  · refine x_tabI C 6 dX8_count_1 97 (by decide) (by decide) rfl ?_
    refine x_aload_n C dX8_count_97 (kk := ?_)
    refine x_get C fl_X8_51 dX8_count_98 (kk := ?_)
    refine x_callV C ml_X6_size lk_X8_93 (c_s_size l G hSx) dX8_count_101 (fun r101 h101 hp101 => ?_)
    obtain ⟨rfl, rfl⟩ := hp101
    refine x_iret C rfl dX8_count_104 (hp := ?_)
    exact ⟨rfl, hC, Fc.rf⟩
  · refine x_tabI C 7 dX8_count_1 105 (by decide) (by decide) rfl ?_
    refine x_aload_n C dX8_count_105 (kk := ?_)
    refine x_callV C ml_X8_filtersInChain lk_X8_176 (c_filters l G hO hCn) dX8_count_106 (fun r106 h106 hp106 => ?_)
    obtain ⟨rfl, rfl⟩ := hp106
    refine x_iret C rfl dX8_count_109 (hp := ?_)
    exact ⟨rfl, hC, Fc.rf⟩
  · refine x_tabI C 8 dX8_count_1 110 (by decide) (by decide) rfl ?_
    refine x_aload_n C dX8_count_110 (kk := ?_)
    refine x_get C fl_X8_68 dX8_count_111 (kk := ?_)
    refine x_callV C ml_X5_size lk_X8_85 (c_row_size l G hLa) dX8_count_114 (fun r114 h114 hp114 => ?_)
    obtain ⟨rfl, rfl⟩ := hp114
    refine x_iret C rfl dX8_count_117 (hp := ?_)
    exact ⟨rfl, hC, Fc.rf⟩
