/-! WHAT EACH CALL DOES, II -/
theorem fp_get {a b c : Int32} (h : ((a = -1 ∨ 0 ≤ a ∧ a ≤ 1114111) ∧ (b = -1 ∨ 0 ≤ b ∧ b ≤ 1114111) ∧ (c = -1 ∨ 0 ≤ c ∧ c ≤ 1114111)) ∧ ¬ (a = -1 ∧ ¬ b = -1) ∧ ¬ (b = -1 ∧ ¬ c = -1)) : (fparts a b c).getD 0 (-1) = a ∧ (fparts a b c).getD 1 (-1) = b ∧ (fparts a b c).getD 2 (-1) = c ∧ wfP (fparts a b c) := by
  obtain ⟨⟨ha, hb, hc⟩, h1, h2⟩ := h
  unfold fparts wfP
  by_cases e1 : a = -1
  · have e2 : b = -1 := Classical.byContradiction fun z => h1 ⟨e1, z⟩
    have e3 : c = -1 := Classical.byContradiction fun z => h2 ⟨e2, z⟩
    subst e1; subst e2; subst e3
    simp
  · have a0 : 0 ≤ a := (ha.resolve_left e1).1
    by_cases e2 : b = -1
    · have e3 : c = -1 := Classical.byContradiction fun z => h2 ⟨e2, z⟩
      subst e2; subst e3
      simp [e1, a0]
    · have b0 : 0 ≤ b := (hb.resolve_left e2).1
      by_cases e3 : c = -1
      · subst e3
        simp [e1, e2, a0, b0]
      · have c0 : 0 ≤ c := (hc.resolve_left e3).1
        simp [e1, e2, e3, a0, b0, c0]
theorem aput_ok {κ ν : Type} [BEq κ] [LawfulBEq κ] {q : List (κ × ν)} {x : κ} {v : ν} {n : Nat} (hn : q.length ≤ n) (h : x ∈ q.map (·.1) ∨ q.length < n) (hd : (q.map (·.1)).Nodup) : (aput q x v).length ≤ n := by
  by_cases hx : x ∈ q.map (·.1)
  · obtain ⟨k, hk⟩ := List.getElem?_of_mem hx
    rw [aput_old hd hk]
    simpa using hn
  · rw [aput_new hx]
    simp
    have := h.resolve_left hx
    omega
set_option maxRecDepth 100000 in
set_option maxHeartbeats 4000000 in
theorem c_fold (l : Launch) (G : xG) {h : xh} {x dy : Nat} {u : List Int32} {km : Nat} {src lat : List Sg} {fo : List Fo} {pa : List Pr} {ze : List Int32} {ra : List Rg} {sr : List Sr} {ch : List (Option Fi)} (v a b d : Int32) (hC : Cs G h x dy (u, km, src, lat, (fo, pa, ze, ra, sr), ch)) : Ct l G yX8_fold cX8_fold 5 (Option.some Jvm.ClassFile.FieldType.int) { frames := 3, cells := 0, slots := 0, locals := 62 } [.ref x, .int v, .int a, .int b, .int d] h (fun r h' => OpP G x dy h (opFold (u, km, src, lat, (fo, pa, ze, ra, sr), ch) v a b d) r h') := by
  obtain ⟨la, s1, s2, hO, hul, hmu, ⟨f, hf, hfu⟩, hFt, hPt, hZt, hRt, hSx, hCn, hSr, hsl, hpm, hLa, ⟨w1, hS1⟩, ⟨w2, hS2⟩, hxd, hdh⟩ := id hC
  dsimp only at hO hul hmu hfu hFt hPt hZt hRt hSx hCn hSr hsl hLa
  have hro := hFt.2.2.2.1
  refine Ct.of [some (.ref x), some (.int v), some (.int a), some (.int b), some (.int d)] (by decide +kernel) (Nat.le_of_ble_eq_true rfl) (fun p e s m args below meth c bs C hini => ?_)
  refine x_iload_n C dX8_fold_0 (kk := ?_)
  refine x_callS C ml_X8_isSign lk_X8_94 (c_isSign l G v) dX8_fold_1 (fun r1 h1 hp1 => ?_)
  obtain ⟨rfl, rfl⟩ := hp1
  refine x_ifB_eq C dX8_fold_4 17 (fun hc4 => ?_) (fun hc4 => ?_)
  · have hng : ¬ ((0 ≤ v ∧ v ≤ 1114111) ∧ ((a = -1 ∨ 0 ≤ a ∧ a ≤ 1114111) ∧ (b = -1 ∨ 0 ≤ b ∧ b ≤ 1114111) ∧ (d = -1 ∨ 0 ≤ d ∧ d ≤ 1114111)) ∧ ¬ (a = -1 ∧ ¬ b = -1) ∧ ¬ (b = -1 ∧ ¬ d = -1)) := fun z => hc4 z.1
    refine x_iconst C dX8_fold_17 (v := -1) (kk := ?_)
    refine x_iret C rfl dX8_fold_18 (hp := ?_)
    exact ⟨by simp only [opFold, if_neg hng], by simp only [opFold, if_neg hng]; exact hC, Fc.rf⟩
  · refine x_iload_n C dX8_fold_7 (kk := ?_)
    refine x_iload_n C dX8_fold_8 (kk := ?_)
    refine x_iload C dX8_fold_9 (kk := ?_)
    refine x_callS C ml_X8_isFoldRow lk_X8_98 (c_isFoldRow l G a b d) dX8_fold_11 (fun r11 h11 hp11 => ?_)
    obtain ⟨rfl, rfl⟩ := hp11
    refine x_ifB_ne C dX8_fold_14 19 (fun hc14 => ?_) (fun hc14 => ?_)
    · refine x_aload_n C dX8_fold_19 (kk := ?_)
      refine x_get C fl_X8_23 dX8_fold_20 (kk := ?_)
      refine x_iload_n C dX8_fold_23 (kk := ?_)
      refine x_iload_n C dX8_fold_24 (kk := ?_)
      refine x_iload_n C dX8_fold_25 (kk := ?_)
      refine x_iload C dX8_fold_26 (kk := ?_)
      obtain ⟨p1, p2, p3, hwf⟩ := fp_get hc14
      have hck := c_o_put l G v (fparts a b d) hwf hFt
      rw [p1, p2, p3] at hck
      refine x_callV C ml_X1_put lk_X8_102 hck dX8_fold_28 (fun r28 h28 hp28 => ?_)
      rcases hp28 with ⟨hin, rfl, hF2, hfr⟩ | ⟨hnin, hl40, rfl, rfl⟩
      rotate_left
      · have hng : ¬ (v ∈ fo.map (·.1) ∨ fo.length < 40) := fun z => z.elim hnin (fun z => by omega)
        refine x_if_eq C dX8_fold_31 44 (fun _ => ?_) (fun z => absurd rfl z)
        refine x_bipush C dX8_fold_44 (v := -2) (kk := ?_)
        refine x_iret C rfl dX8_fold_46 (hp := ?_)
        exact ⟨by simp only [opFold, if_pos (And.intro hc4 hc14), if_neg hng], by simp only [opFold, if_pos (And.intro hc4 hc14), if_neg hng]; exact hC, Fc.rf⟩
      have hO2 := hfr.at (by unfold At; omega) hO
      have hro2 := hF2.2.2.2.1
      refine x_if_eq C dX8_fold_31 44 (fun hc31 => ?_) (fun hc31 => ?_)
      · exact absurd hc31 (by decide)
      · refine x_aload_n C dX8_fold_34 (kk := ?_)
        refine x_get C fl_X8_23 dX8_fold_35 (kk := ?_)
        refine x_callV C ml_X1_size lk_X8_105 (c_o_size l G hF2) dX8_fold_38 (fun r38 h38 hp38 => ?_)
        obtain ⟨rfl, rfl⟩ := hp38
        refine x_goto C dX8_fold_41 46 ?_
        refine x_iret C rfl dX8_fold_46 (hp := ?_)
        exact ⟨by simp only [opFold, if_pos (And.intro hc4 hc14), if_pos hin], by simp only [opFold, if_pos (And.intro hc4 hc14), if_pos hin]; exact ⟨la, s1, s2, hfr.at (by unfold isR At at *; omega) hO, hul, hmu, ⟨f, hfr.at (by unfold isR At at *; omega) hf, hfu⟩, hF2, hPt.fr hfr (fun b z1 z2 => by unfold isR At at *; omega), hZt.fr hfr (fun b z1 z2 => by unfold isR At at *; omega), hRt.fr hfr (fun b z1 z2 => by unfold isR At at *; omega), hSx.fr hfr (fun b z1 z2 => by unfold isR At at *; omega) (fun b z => by unfold isR At at *; omega), hCn.fr hfr (by unfold isR At at *; omega) (fun b z => by unfold isR At at *; omega), hSr.fr hfr (fun b z1 z2 => by unfold isR At at *; omega), hsl, hpm, hLa.fr hfr (fun b z1 z2 => by unfold isR At at *; omega), ⟨w1, hS1.fr hfr (fun b z1 z2 => by unfold isR At at *; omega)⟩, ⟨w2, hS2.fr hfr (fun b z1 z2 => by unfold isR At at *; omega)⟩, hxd, (Nat.le_trans hdh (Nat.le_of_eq hfr.1.symm))⟩, hfr.c (fun b z => by unfold At at *; omega)⟩
    · have hng : ¬ ((0 ≤ v ∧ v ≤ 1114111) ∧ ((a = -1 ∨ 0 ≤ a ∧ a ≤ 1114111) ∧ (b = -1 ∨ 0 ≤ b ∧ b ≤ 1114111) ∧ (d = -1 ∨ 0 ≤ d ∧ d ≤ 1114111)) ∧ ¬ (a = -1 ∧ ¬ b = -1) ∧ ¬ (b = -1 ∧ ¬ d = -1)) := fun z => hc14 z.2
      refine x_iconst C dX8_fold_17 (v := -1) (kk := ?_)
      refine x_iret C rfl dX8_fold_18 (hp := ?_)
      exact ⟨by simp only [opFold, if_neg hng], by simp only [opFold, if_neg hng]; exact hC, Fc.rf⟩
set_option maxRecDepth 100000 in
set_option maxHeartbeats 4000000 in
theorem c_pair (l : Launch) (G : xG) {h : xh} {x dy : Nat} {u : List Int32} {km : Nat} {src lat : List Sg} {fo : List Fo} {pa : List Pr} {ze : List Int32} {ra : List Rg} {sr : List Sr} {ch : List (Option Fi)} (a b v : Int32) (hC : Cs G h x dy (u, km, src, lat, (fo, pa, ze, ra, sr), ch)) : Ct l G yX8_pair cX8_pair 4 (Option.some Jvm.ClassFile.FieldType.int) { frames := 2, cells := 0, slots := 0, locals := 47 } [.ref x, .int a, .int b, .int v] h (fun r h' => OpP G x dy h (opPair (u, km, src, lat, (fo, pa, ze, ra, sr), ch) a b v) r h') := by
  obtain ⟨la, s1, s2, hO, hul, hmu, ⟨f, hf, hfu⟩, hFt, hPt, hZt, hRt, hSx, hCn, hSr, hsl, hpm, hLa, ⟨w1, hS1⟩, ⟨w2, hS2⟩, hxd, hdh⟩ := id hC
  dsimp only at hO hul hmu hfu hFt hPt hZt hRt hSx hCn hSr hsl hLa
  have hro := hPt.2.2.1
  refine Ct.of [some (.ref x), some (.int a), some (.int b), some (.int v)] (by decide +kernel) (Nat.le_of_ble_eq_true rfl) (fun p e s m args below meth c bs C hini => ?_)
  refine x_iload_n C dX8_pair_0 (kk := ?_)
  refine x_callS C ml_X8_isSign lk_X8_94 (c_isSign l G a) dX8_pair_1 (fun r1 h1 hp1 => ?_)
  obtain ⟨rfl, rfl⟩ := hp1
  refine x_ifB_eq C dX8_pair_4 21 (fun hc4 => ?_) (fun hc4 => ?_)
  · have hng : ¬ ((0 ≤ a ∧ a ≤ 1114111) ∧ (0 ≤ b ∧ b ≤ 1114111) ∧ (0 ≤ v ∧ v ≤ 1114111)) := fun z => hc4 z.1
    refine x_iconst C dX8_pair_21 (v := -1) (kk := ?_)
    refine x_iret C rfl dX8_pair_22 (hp := ?_)
    exact ⟨by simp only [opPair, if_neg hng], by simp only [opPair, if_neg hng]; exact hC, Fc.rf⟩
  · refine x_iload_n C dX8_pair_7 (kk := ?_)
    refine x_callS C ml_X8_isSign lk_X8_94 (c_isSign l G b) dX8_pair_8 (fun r8 h8 hp8 => ?_)
    obtain ⟨rfl, rfl⟩ := hp8
    refine x_ifB_eq C dX8_pair_11 21 (fun hc11 => ?_) (fun hc11 => ?_)
    · have hng : ¬ ((0 ≤ a ∧ a ≤ 1114111) ∧ (0 ≤ b ∧ b ≤ 1114111) ∧ (0 ≤ v ∧ v ≤ 1114111)) := fun z => hc11 z.2.1
      refine x_iconst C dX8_pair_21 (v := -1) (kk := ?_)
      refine x_iret C rfl dX8_pair_22 (hp := ?_)
      exact ⟨by simp only [opPair, if_neg hng], by simp only [opPair, if_neg hng]; exact hC, Fc.rf⟩
    · refine x_iload_n C dX8_pair_14 (kk := ?_)
      refine x_callS C ml_X8_isSign lk_X8_94 (c_isSign l G v) dX8_pair_15 (fun r15 h15 hp15 => ?_)
      obtain ⟨rfl, rfl⟩ := hp15
      refine x_ifB_ne C dX8_pair_18 23 (fun hc18 => ?_) (fun hc18 => ?_)
      · refine x_aload_n C dX8_pair_23 (kk := ?_)
        refine x_get C fl_X8_30 dX8_pair_24 (kk := ?_)
        refine x_iload_n C dX8_pair_27 (kk := ?_)
        refine x_iload_n C dX8_pair_28 (kk := ?_)
        refine x_iload_n C dX8_pair_29 (kk := ?_)
        have hcd : (0 ≤ a ∧ a ≤ 1114111) ∧ (0 ≤ b ∧ b ≤ 1114111) ∧ (0 ≤ v ∧ v ≤ 1114111) := ⟨hc4, hc11, hc18⟩
        refine x_callV C ml_X2_put lk_X8_106 (c_p_put l G a b v hPt) dX8_pair_30 (fun r28 h28 hp28 => ?_)
        rcases hp28 with ⟨hin, rfl, hF2, hfr⟩ | ⟨hnin, hl40, rfl, rfl⟩
        rotate_left
        · have hng : ¬ ((a, b) ∈ pa.map (·.1) ∨ pa.length < 20) := fun z => z.elim hnin (fun z => by omega)
          refine x_if_eq C dX8_pair_33 46 (fun _ => ?_) (fun z => absurd rfl z)
          refine x_bipush C dX8_pair_46 (v := -2) (kk := ?_)
          refine x_iret C rfl dX8_pair_48 (hp := ?_)
          exact ⟨by simp only [opPair, if_pos hcd, if_neg hng], by simp only [opPair, if_pos hcd, if_neg hng]; exact hC, Fc.rf⟩
        have hO2 := hfr.at (by unfold At; omega) hO
        have hro2 := hF2.2.2.1
        refine x_if_eq C dX8_pair_33 46 (fun hc33 => ?_) (fun hc33 => ?_)
        · exact absurd hc33 (by decide)
        · refine x_aload_n C dX8_pair_36 (kk := ?_)
          refine x_get C fl_X8_30 dX8_pair_37 (kk := ?_)
          refine x_callV C ml_X2_size lk_X8_108 (c_p_size l G hF2) dX8_pair_40 (fun r40 h40 hp40 => ?_)
          obtain ⟨rfl, rfl⟩ := hp40
          refine x_goto C dX8_pair_43 48 ?_
          refine x_iret C rfl dX8_pair_48 (hp := ?_)
          exact ⟨by simp only [opPair, if_pos hcd, if_pos hin], by simp only [opPair, if_pos hcd, if_pos hin]; exact ⟨la, s1, s2, hfr.at (by unfold isR At at *; omega) hO, hul, hmu, ⟨f, hfr.at (by unfold isR At at *; omega) hf, hfu⟩, hFt.fr hfr (fun b z1 z2 => by unfold isR At at *; omega), hF2, hZt.fr hfr (fun b z1 z2 => by unfold isR At at *; omega), hRt.fr hfr (fun b z1 z2 => by unfold isR At at *; omega), hSx.fr hfr (fun b z1 z2 => by unfold isR At at *; omega) (fun b z => by unfold isR At at *; omega), hCn.fr hfr (by unfold isR At at *; omega) (fun b z => by unfold isR At at *; omega), hSr.fr hfr (fun b z1 z2 => by unfold isR At at *; omega), hsl, hpm, hLa.fr hfr (fun b z1 z2 => by unfold isR At at *; omega), ⟨w1, hS1.fr hfr (fun b z1 z2 => by unfold isR At at *; omega)⟩, ⟨w2, hS2.fr hfr (fun b z1 z2 => by unfold isR At at *; omega)⟩, hxd, (Nat.le_trans hdh (Nat.le_of_eq hfr.1.symm))⟩, hfr.c (fun b z => by unfold At at *; omega)⟩
      · have hng : ¬ ((0 ≤ a ∧ a ≤ 1114111) ∧ (0 ≤ b ∧ b ≤ 1114111) ∧ (0 ≤ v ∧ v ≤ 1114111)) := fun z => hc18 z.2.2
        refine x_iconst C dX8_pair_21 (v := -1) (kk := ?_)
        refine x_iret C rfl dX8_pair_22 (hp := ?_)
        exact ⟨by simp only [opPair, if_neg hng], by simp only [opPair, if_neg hng]; exact hC, Fc.rf⟩
set_option maxRecDepth 100000 in
set_option maxHeartbeats 4000000 in
theorem c_zero (l : Launch) (G : xG) {h : xh} {x dy : Nat} {u : List Int32} {km : Nat} {src lat : List Sg} {fo : List Fo} {pa : List Pr} {ze : List Int32} {ra : List Rg} {sr : List Sr} {ch : List (Option Fi)} (v : Int32) (hC : Cs G h x dy (u, km, src, lat, (fo, pa, ze, ra, sr), ch)) : Ct l G yX8_zero cX8_zero 2 (Option.some Jvm.ClassFile.FieldType.int) { frames := 1, cells := 0, slots := 0, locals := 21 } [.ref x, .int v] h (fun r h' => OpP G x dy h (opZero (u, km, src, lat, (fo, pa, ze, ra, sr), ch) v) r h') := by
  obtain ⟨la, s1, s2, hO, hul, hmu, ⟨f, hf, hfu⟩, hFt, hPt, hZt, hRt, hSx, hCn, hSr, hsl, hpm, hLa, ⟨w1, hS1⟩, ⟨w2, hS2⟩, hxd, hdh⟩ := id hC
  dsimp only at hO hul hmu hfu hFt hPt hZt hRt hSx hCn hSr hsl hLa
  have hro := hZt.2.1
  refine Ct.of [some (.ref x), some (.int v)] (by decide +kernel) (Nat.le_of_ble_eq_true rfl) (fun p e s m args below meth c bs C hini => ?_)
  refine x_iload_n C dX8_zero_0 (kk := ?_)
  refine x_callS C ml_X8_isSign lk_X8_94 (c_isSign l G v) dX8_zero_1 (fun r1 h1 hp1 => ?_)
  obtain ⟨rfl, rfl⟩ := hp1
  refine x_ifB_eq C dX8_zero_4 13 (fun hc4 => ?_) (fun hc4 => ?_)
  · have hng : ¬ (0 ≤ v ∧ v ≤ 1114102) := fun z => hc4 ⟨z.1, by have := z.2; simp only [Int32.le_iff_toInt_le, Int32.reduceToInt] at *; omega⟩
    refine x_iconst C dX8_zero_13 (v := -1) (kk := ?_)
    refine x_iret C rfl dX8_zero_14 (hp := ?_)
    exact ⟨by simp only [opZero, if_neg hng], by simp only [opZero, if_neg hng]; exact hC, Fc.rf⟩
  · refine x_iload_n C dX8_zero_7 (kk := ?_)
    refine x_ldc C tw_267 dX8_zero_8 ?_
    refine x_icmp_le C dX8_zero_10 15 (fun hc10 => ?_) (fun hc10 => ?_)
    · refine x_aload_n C dX8_zero_15 (kk := ?_)
      refine x_get C fl_X8_37 dX8_zero_16 (kk := ?_)
      refine x_iload_n C dX8_zero_19 (kk := ?_)
      have hcd : 0 ≤ v ∧ v ≤ 1114102 := ⟨hc4.1, hc10⟩
      refine x_callV C ml_X7_add lk_X8_110 (c_z_add l G v hZt) dX8_zero_20 (fun r28 h28 hp28 => ?_)
      rcases hp28 with ⟨hin, rfl, hF2, hfr⟩ | ⟨hl40, rfl, rfl⟩
      rotate_left
      · refine x_if_eq C dX8_zero_23 36 (fun _ => ?_) (fun z => absurd rfl z)
        refine x_bipush C dX8_zero_36 (v := -2) (kk := ?_)
        refine x_iret C rfl dX8_zero_38 (hp := ?_)
        exact ⟨by simp only [opZero, if_pos hcd, if_pos hl40], by simp only [opZero, if_pos hcd, if_pos hl40]; exact hC, Fc.rf⟩
      have hO2 := hfr.at (by unfold At; omega) hO
      have hro2 := hF2.2.1
      have hng : ¬ ze.length = 10 := by omega
      refine x_if_eq C dX8_zero_23 36 (fun hc23 => ?_) (fun hc23 => ?_)
      · exact absurd hc23 (by decide)
      · refine x_aload_n C dX8_zero_26 (kk := ?_)
        refine x_get C fl_X8_37 dX8_zero_27 (kk := ?_)
        refine x_callV C ml_X7_size lk_X8_113 (c_z_size l G hF2) dX8_zero_30 (fun r30 h30 hp30 => ?_)
        obtain ⟨rfl, rfl⟩ := hp30
        refine x_goto C dX8_zero_33 38 ?_
        refine x_iret C rfl dX8_zero_38 (hp := ?_)
        exact ⟨by simp only [opZero, if_pos hcd, if_neg hng, List.length_append, List.length_cons, List.length_nil], by simp only [opZero, if_pos hcd, if_neg hng]; exact ⟨la, s1, s2, hfr.at (by unfold isR At at *; omega) hO, hul, hmu, ⟨f, hfr.at (by unfold isR At at *; omega) hf, hfu⟩, hFt.fr hfr (fun b z1 z2 => by unfold isR At at *; omega), hPt.fr hfr (fun b z1 z2 => by unfold isR At at *; omega), hF2, hRt.fr hfr (fun b z1 z2 => by unfold isR At at *; omega), hSx.fr hfr (fun b z1 z2 => by unfold isR At at *; omega) (fun b z => by unfold isR At at *; omega), hCn.fr hfr (by unfold isR At at *; omega) (fun b z => by unfold isR At at *; omega), hSr.fr hfr (fun b z1 z2 => by unfold isR At at *; omega), hsl, hpm, hLa.fr hfr (fun b z1 z2 => by unfold isR At at *; omega), ⟨w1, hS1.fr hfr (fun b z1 z2 => by unfold isR At at *; omega)⟩, ⟨w2, hS2.fr hfr (fun b z1 z2 => by unfold isR At at *; omega)⟩, hxd, (Nat.le_trans hdh (Nat.le_of_eq hfr.1.symm))⟩, hfr.c (fun b z => by unfold At at *; omega)⟩
    · have hng : ¬ (0 ≤ v ∧ v ≤ 1114102) := fun z => hc10 z.2
      refine x_iconst C dX8_zero_13 (v := -1) (kk := ?_)
      refine x_iret C rfl dX8_zero_14 (hp := ?_)
      exact ⟨by simp only [opZero, if_neg hng], by simp only [opZero, if_neg hng]; exact hC, Fc.rf⟩
set_option maxRecDepth 100000 in
set_option maxHeartbeats 4000000 in
theorem c_range (l : Launch) (G : xG) {h : xh} {x dy : Nat} {u : List Int32} {km : Nat} {src lat : List Sg} {fo : List Fo} {pa : List Pr} {ze : List Int32} {ra : List Rg} {sr : List Sr} {ch : List (Option Fi)} (a b : Int32) (hC : Cs G h x dy (u, km, src, lat, (fo, pa, ze, ra, sr), ch)) : Ct l G yX8_range cX8_range 3 (Option.some Jvm.ClassFile.FieldType.int) { frames := 1, cells := 0, slots := 0, locals := 22 } [.ref x, .int a, .int b] h (fun r h' => OpP G x dy h (opRange (u, km, src, lat, (fo, pa, ze, ra, sr), ch) a b) r h') := by
  obtain ⟨la, s1, s2, hO, hul, hmu, ⟨f, hf, hfu⟩, hFt, hPt, hZt, hRt, hSx, hCn, hSr, hsl, hpm, hLa, ⟨w1, hS1⟩, ⟨w2, hS2⟩, hxd, hdh⟩ := id hC
  dsimp only at hO hul hmu hfu hFt hPt hZt hRt hSx hCn hSr hsl hLa
  have hro := hRt.2.1
  refine Ct.of [some (.ref x), some (.int a), some (.int b)] (by decide +kernel) (Nat.le_of_ble_eq_true rfl) (fun p e s m args below meth c bs C hini => ?_)
  refine x_iload_n C dX8_range_0 (kk := ?_)
  refine x_callS C ml_X8_isSign lk_X8_94 (c_isSign l G a) dX8_range_1 (fun r1 h1 hp1 => ?_)
  obtain ⟨rfl, rfl⟩ := hp1
  refine x_ifB_eq C dX8_range_4 19 (fun hc4 => ?_) (fun hc4 => ?_)
  · have hng : ¬ ((0 ≤ a ∧ a ≤ 1114111) ∧ (0 ≤ b ∧ b ≤ 1114111) ∧ a ≤ b) := fun z => hc4 z.1
    refine x_iconst C dX8_range_19 (v := -1) (kk := ?_)
    refine x_iret C rfl dX8_range_20 (hp := ?_)
    exact ⟨by simp only [opRange, if_neg hng], by simp only [opRange, if_neg hng]; exact hC, Fc.rf⟩
  · refine x_iload_n C dX8_range_7 (kk := ?_)
    refine x_callS C ml_X8_isSign lk_X8_94 (c_isSign l G b) dX8_range_8 (fun r8 h8 hp8 => ?_)
    obtain ⟨rfl, rfl⟩ := hp8
    refine x_ifB_eq C dX8_range_11 19 (fun hc11 => ?_) (fun hc11 => ?_)
    · have hng : ¬ ((0 ≤ a ∧ a ≤ 1114111) ∧ (0 ≤ b ∧ b ≤ 1114111) ∧ a ≤ b) := fun z => hc11 z.2.1
      refine x_iconst C dX8_range_19 (v := -1) (kk := ?_)
      refine x_iret C rfl dX8_range_20 (hp := ?_)
      exact ⟨by simp only [opRange, if_neg hng], by simp only [opRange, if_neg hng]; exact hC, Fc.rf⟩
    · refine x_iload_n C dX8_range_14 (kk := ?_)
      refine x_iload_n C dX8_range_15 (kk := ?_)
      refine x_icmp_ge C dX8_range_16 21 (fun hc16 => ?_) (fun hc16 => ?_)
      · refine x_aload_n C dX8_range_21 (kk := ?_)
        refine x_get C fl_X8_44 dX8_range_22 (kk := ?_)
        refine x_iload_n C dX8_range_25 (kk := ?_)
        refine x_iload_n C dX8_range_26 (kk := ?_)
        have hcd : (0 ≤ a ∧ a ≤ 1114111) ∧ (0 ≤ b ∧ b ≤ 1114111) ∧ a ≤ b := ⟨hc4, hc11, hc16⟩
        refine x_callV C ml_X3_add lk_X8_114 (c_r_add l G a b hRt) dX8_range_27 (fun r28 h28 hp28 => ?_)
        rcases hp28 with ⟨hin, rfl, hF2, hfr⟩ | ⟨hl40, rfl, rfl⟩
        rotate_left
        · refine x_if_eq C dX8_range_30 43 (fun _ => ?_) (fun z => absurd rfl z)
          refine x_bipush C dX8_range_43 (v := -2) (kk := ?_)
          refine x_iret C rfl dX8_range_45 (hp := ?_)
          exact ⟨by simp only [opRange, if_pos hcd, if_pos hl40], by simp only [opRange, if_pos hcd, if_pos hl40]; exact hC, Fc.rf⟩
        have hO2 := hfr.at (by unfold At; omega) hO
        have hro2 := hF2.2.1
        have hng : ¬ ra.length = 8 := by omega
        refine x_if_eq C dX8_range_30 43 (fun hc30 => ?_) (fun hc30 => ?_)
        · exact absurd hc30 (by decide)
        · refine x_aload_n C dX8_range_33 (kk := ?_)
          refine x_get C fl_X8_44 dX8_range_34 (kk := ?_)
          refine x_callV C ml_X3_size lk_X8_117 (c_r_size l G hF2) dX8_range_37 (fun r37 h37 hp37 => ?_)
          obtain ⟨rfl, rfl⟩ := hp37
          refine x_goto C dX8_range_40 45 ?_
          refine x_iret C rfl dX8_range_45 (hp := ?_)
          exact ⟨by simp only [opRange, if_pos hcd, if_neg hng, List.length_append, List.length_cons, List.length_nil], by simp only [opRange, if_pos hcd, if_neg hng]; exact ⟨la, s1, s2, hfr.at (by unfold isR At at *; omega) hO, hul, hmu, ⟨f, hfr.at (by unfold isR At at *; omega) hf, hfu⟩, hFt.fr hfr (fun b z1 z2 => by unfold isR At at *; omega), hPt.fr hfr (fun b z1 z2 => by unfold isR At at *; omega), hZt.fr hfr (fun b z1 z2 => by unfold isR At at *; omega), hF2, hSx.fr hfr (fun b z1 z2 => by unfold isR At at *; omega) (fun b z => by unfold isR At at *; omega), hCn.fr hfr (by unfold isR At at *; omega) (fun b z => by unfold isR At at *; omega), hSr.fr hfr (fun b z1 z2 => by unfold isR At at *; omega), hsl, hpm, hLa.fr hfr (fun b z1 z2 => by unfold isR At at *; omega), ⟨w1, hS1.fr hfr (fun b z1 z2 => by unfold isR At at *; omega)⟩, ⟨w2, hS2.fr hfr (fun b z1 z2 => by unfold isR At at *; omega)⟩, hxd, (Nat.le_trans hdh (Nat.le_of_eq hfr.1.symm))⟩, hfr.c (fun b z => by unfold At at *; omega)⟩
      · have hng : ¬ ((0 ≤ a ∧ a ≤ 1114111) ∧ (0 ≤ b ∧ b ≤ 1114111) ∧ a ≤ b) := fun z => hc16 z.2.2
        refine x_iconst C dX8_range_19 (v := -1) (kk := ?_)
        refine x_iret C rfl dX8_range_20 (hp := ?_)
        exact ⟨by simp only [opRange, if_neg hng], by simp only [opRange, if_neg hng]; exact hC, Fc.rf⟩
set_option maxRecDepth 100000 in
set_option maxHeartbeats 4000000 in
theorem c_table (l : Launch) (G : xG) {h : xh} {x dy : Nat} {u : List Int32} {km : Nat} {src lat : List Sg} {fo : List Fo} {pa : List Pr} {ze : List Int32} {ra : List Rg} {sr : List Sr} {ch : List (Option Fi)} (v : Int32) (hC : Cs G h x dy (u, km, src, lat, (fo, pa, ze, ra, sr), ch)) : Ct l G yX8_table cX8_table 2 (Option.some Jvm.ClassFile.FieldType.int) { frames := 1, cells := 0, slots := 0, locals := 20 } [.ref x, .int v] h (fun r h' => OpP G x dy h (opTable v, (u, km, src, lat, (fo, pa, ze, ra, sr), ch)) r h') := by
  refine Ct.of [some (.ref x), some (.int v)] (by decide +kernel) (Nat.le_of_ble_eq_true rfl) (fun p e s m args below meth c bs C hini => ?_)
  refine x_iload_n C dX8_table_0 (kk := ?_)
  refine x_if_lt C dX8_table_1 17 (fun hc1 => ?_) (fun hc1 => ?_)
  · have hng : ¬ (0 ≤ v ∧ v ≤ 127) := fun z => absurd z.1 (Int32.not_le.mpr hc1)
    refine x_bipush C dX8_table_17 (v := -13) (kk := ?_)
    refine x_iret C rfl dX8_table_19 (hp := ?_)
    exact ⟨by simp only [opTable, if_neg hng], hC, Fc.rf⟩
  · refine x_iload_n C dX8_table_4 (kk := ?_)
    refine x_bipush C dX8_table_5 (v := 127) (kk := ?_)
    refine x_icmp_gt C dX8_table_7 17 (fun hc7 => ?_) (fun hc7 => ?_)
    · have hng : ¬ (0 ≤ v ∧ v ≤ 127) := fun z => absurd z.2 (Int32.not_le.mpr hc7)
      refine x_bipush C dX8_table_17 (v := -13) (kk := ?_)
      refine x_iret C rfl dX8_table_19 (hp := ?_)
      exact ⟨by simp only [opTable, if_neg hng], hC, Fc.rf⟩
    · refine x_iload_n C dX8_table_10 (kk := ?_)
      refine x_callS C ml_X8_classOf lk_X8_164 (c_classOf l G v) dX8_table_11 (fun r11 h11 hp11 => ?_)
      obtain ⟨rfl, rfl⟩ := hp11
      refine x_goto C dX8_table_14 19 ?_
      refine x_iret C rfl dX8_table_19 (hp := ?_)
      exact ⟨by simp only [opTable, if_pos (And.intro (Int32.not_lt.mp hc1) (Int32.not_lt.mp hc7))], hC, Fc.rf⟩
set_option maxRecDepth 100000 in
set_option maxHeartbeats 4000000 in
theorem c_digit (l : Launch) (G : xG) {h : xh} {x dy : Nat} {u : List Int32} {km : Nat} {src lat : List Sg} {fo : List Fo} {pa : List Pr} {ze : List Int32} {ra : List Rg} {sr : List Sr} {ch : List (Option Fi)} (v : Int32) (hC : Cs G h x dy (u, km, src, lat, (fo, pa, ze, ra, sr), ch)) : Ct l G yX8_digit cX8_digit 2 (Option.some Jvm.ClassFile.FieldType.int) { frames := 1, cells := 0, slots := 0, locals := 22 } [.ref x, .int v] h (fun r h' => OpP G x dy h (zdig ze v, (u, km, src, lat, (fo, pa, ze, ra, sr), ch)) r h') := by
  obtain ⟨la, s1, s2, hO, hul, hmu, ⟨f, hf, hfu⟩, hFt, hPt, hZt, hRt, hSx, hCn, hSr, hsl, hpm, hLa, ⟨w1, hS1⟩, ⟨w2, hS2⟩, hxd, hdh⟩ := id hC
  dsimp only at hO hul hmu hfu hFt hPt hZt hRt hSx hCn hSr hsl hLa
  have hro := hZt.2.1
  refine Ct.of [some (.ref x), some (.int v)] (by decide +kernel) (Nat.le_of_ble_eq_true rfl) (fun p e s m args below meth c bs C hini => ?_)
  refine x_aload_n C dX8_digit_0 (kk := ?_)
  refine x_get C fl_X8_37 dX8_digit_1 (kk := ?_)
  refine x_iload_n C dX8_digit_4 (kk := ?_)
  refine x_callV C ml_X7_digitOf lk_X8_173 (c_z_digitOf l G v hZt) dX8_digit_5 (fun r5 h5 hp5 => ?_)
  obtain ⟨rfl, rfl⟩ := hp5
  refine x_iret C rfl dX8_digit_8 (hp := ?_)
  exact ⟨rfl, hC, Fc.rf⟩
theorem rng {i : Int32} {n : Nat} (hn : n < 2 ^ 31) (h : 0 ≤ i ∧ i < nI n) : ∃ j, j < n ∧ i = nI j := by
  rcases pk_ix i hn with z | z | z
  · exact absurd h.1 (Int32.not_le.mpr z)
  · exact absurd h.2 (Int32.not_lt.mpr z)
  · exact z
set_option maxRecDepth 100000 in
set_option maxHeartbeats 4000000 in
theorem c_sign (l : Launch) (G : xG) {h : xh} {x dy : Nat} {u : List Int32} {km : Nat} {src lat : List Sg} {fo : List Fo} {pa : List Pr} {ze : List Int32} {ra : List Rg} {sr : List Sr} {ch : List (Option Fi)} (i : Int32) (hC : Cs G h x dy (u, km, src, lat, (fo, pa, ze, ra, sr), ch)) : Ct l G yX8_sign cX8_sign 2 (Option.some Jvm.ClassFile.FieldType.int) { frames := 2, cells := 0, slots := 0, locals := 42 } [.ref x, .int i] h (fun r h' => OpP G x dy h (opSign (u, km, src, lat, (fo, pa, ze, ra, sr), ch) i, (u, km, src, lat, (fo, pa, ze, ra, sr), ch)) r h') := by
  obtain ⟨la, s1, s2, hO, hul, hmu, ⟨f, hf, hfu⟩, hFt, hPt, hZt, hRt, hSx, hCn, hSr, hsl, hpm, hLa, ⟨w1, hS1⟩, ⟨w2, hS2⟩, hxd, hdh⟩ := id hC
  dsimp only at hO hul hmu hfu hFt hPt hZt hRt hSx hCn hSr hsl hLa
  have hro := hLa.ob
  have hll := hLa.1
  refine Ct.of [some (.ref x), some (.int i)] (by decide +kernel) (Nat.le_of_ble_eq_true rfl) (fun p e s m args below meth c bs C hini => ?_)
  refine x_aload_n C dX8_sign_0 (kk := ?_)
  refine x_get C fl_X8_68 dX8_sign_1 (kk := ?_)
  refine x_iload_n C dX8_sign_4 (kk := ?_)
  refine x_callV C ml_X5_has lk_X8_144 (c_row_has l G i hLa) dX8_sign_5 (fun r5 h5 hp5 => ?_)
  obtain ⟨rfl, rfl⟩ := hp5
  refine x_ifB_eq C dX8_sign_8 22 (fun hc8 => ?_) (fun hc8 => ?_)
  · refine x_bipush C dX8_sign_22 (v := -13) (kk := ?_)
    refine x_iret C rfl dX8_sign_24 (hp := ?_)
    exact ⟨by simp only [opSign, if_neg hc8], hC, Fc.rf⟩
  · refine x_aload_n C dX8_sign_11 (kk := ?_)
    refine x_get C fl_X8_68 dX8_sign_12 (kk := ?_)
    refine x_iload_n C dX8_sign_15 (kk := ?_)
    obtain ⟨j, hj, rfl⟩ := rng (by omega) hc8
    obtain ⟨v, hv⟩ : ∃ v, lat[j]? = some v := ⟨lat[j], List.getElem?_eq_getElem hj⟩
    have hcl : (nI j).toNatClampNeg = j := nI_clamp (by omega)
    refine x_callV C ml_X5_signAt lk_X8_147 (c_row_signAt l G hv hLa) dX8_sign_16 (fun r16 h16 hp16 => ?_)
    obtain ⟨rfl, rfl⟩ := hp16
    refine x_goto C dX8_sign_19 24 ?_
    refine x_iret C rfl dX8_sign_24 (hp := ?_)
    exact ⟨by simp only [opSign, if_pos hc8, hcl, List.getD_eq_getElem?_getD, hv, Option.getD_some], hC, Fc.rf⟩
set_option maxRecDepth 100000 in
set_option maxHeartbeats 4000000 in
theorem c_place (l : Launch) (G : xG) {h : xh} {x dy : Nat} {u : List Int32} {km : Nat} {src lat : List Sg} {fo : List Fo} {pa : List Pr} {ze : List Int32} {ra : List Rg} {sr : List Sr} {ch : List (Option Fi)} (i w : Int32) (hC : Cs G h x dy (u, km, src, lat, (fo, pa, ze, ra, sr), ch)) : Ct l G yX8_place cX8_place 3 (Option.some Jvm.ClassFile.FieldType.int) { frames := 2, cells := 0, slots := 0, locals := 42 } [.ref x, .int i, .int w] h (fun r h' => OpP G x dy h (opPlace (u, km, src, lat, (fo, pa, ze, ra, sr), ch) i w, (u, km, src, lat, (fo, pa, ze, ra, sr), ch)) r h') := by
  obtain ⟨la, s1, s2, hO, hul, hmu, ⟨f, hf, hfu⟩, hFt, hPt, hZt, hRt, hSx, hCn, hSr, hsl, hpm, hLa, ⟨w1, hS1⟩, ⟨w2, hS2⟩, hxd, hdh⟩ := id hC
  dsimp only at hO hul hmu hfu hFt hPt hZt hRt hSx hCn hSr hsl hLa
  have hro := hLa.ob
  have hll := hLa.1
  refine Ct.of [some (.ref x), some (.int i), some (.int w)] (by decide +kernel) (Nat.le_of_ble_eq_true rfl) (fun p e s m args below meth c bs C hini => ?_)
  refine x_aload_n C dX8_place_0 (kk := ?_)
  refine x_get C fl_X8_68 dX8_place_1 (kk := ?_)
  refine x_iload_n C dX8_place_4 (kk := ?_)
  refine x_callV C ml_X5_has lk_X8_144 (c_row_has l G i hLa) dX8_place_5 (fun r5 h5 hp5 => ?_)
  obtain ⟨rfl, rfl⟩ := hp5
  refine x_ifB_ne C dX8_place_8 14 (fun hc8 => ?_) (fun hc8 => ?_)
  · obtain ⟨j, hj, rfl⟩ := rng (by omega) hc8
    obtain ⟨v, hv⟩ : ∃ v, lat[j]? = some v := ⟨lat[j], List.getElem?_eq_getElem hj⟩
    have hcl : (nI j).toNatClampNeg = j := nI_clamp (by omega)
    refine x_iload_n C dX8_place_14 (kk := ?_)
    refine x_if_eq C dX8_place_15 29 (fun hc15 => ?_) (fun hc15 => ?_)
    · refine x_aload_n C dX8_place_29 (kk := ?_)
      refine x_get C fl_X8_68 dX8_place_30 (kk := ?_)
      refine x_iload_n C dX8_place_33 (kk := ?_)
      refine x_callV C ml_X5_beginAt lk_X8_154 (c_row_beginAt l G hv hLa) dX8_place_34 (fun r34 h34 hp34 => ?_)
      obtain ⟨rfl, rfl⟩ := hp34
      refine x_iret C rfl dX8_place_37 (hp := ?_)
      exact ⟨by simp only [opPlace, if_pos hc8, if_pos hc15, hcl, List.getD_eq_getElem?_getD, hv, Option.getD_some], hC, Fc.rf⟩
    · refine x_aload_n C dX8_place_18 (kk := ?_)
      refine x_get C fl_X8_68 dX8_place_19 (kk := ?_)
      refine x_iload_n C dX8_place_22 (kk := ?_)
      refine x_callV C ml_X5_endAt lk_X8_151 (c_row_endAt l G hv hLa) dX8_place_23 (fun r23 h23 hp23 => ?_)
      obtain ⟨rfl, rfl⟩ := hp23
      refine x_goto C dX8_place_26 37 ?_
      refine x_iret C rfl dX8_place_37 (hp := ?_)
      exact ⟨by simp only [opPlace, if_pos hc8, if_neg hc15, hcl, List.getD_eq_getElem?_getD, hv, Option.getD_some], hC, Fc.rf⟩
  refine x_bipush C dX8_place_11 (v := -13) (kk := ?_)
  refine x_iret C rfl dX8_place_13 (hp := ?_)
  exact ⟨by simp only [opPlace, if_neg hc8], hC, Fc.rf⟩
theorem uSumL_take {lat : List Sg} {k : Nat} {v : Sg} (hv : lat[k]? = some v) : uSum ((lat.map (·.1)).take k) + uOf v.1 = uSum ((lat.map (·.1)).take (k + 1)) := by
  have hg : (lat.map (·.1))[k]? = some v.1 := by simp [hv]
  rw [take_at hg]
  unfold uSum
  rw [List.foldl_append]
  rfl
set_option maxRecDepth 100000 in
set_option maxHeartbeats 4000000 in
theorem c_units (l : Launch) (G : xG) {h : xh} {x dy : Nat} {u : List Int32} {km : Nat} {src lat : List Sg} {fo : List Fo} {pa : List Pr} {ze : List Int32} {ra : List Rg} {sr : List Sr} {ch : List (Option Fi)} (hC : Cs G h x dy (u, km, src, lat, (fo, pa, ze, ra, sr), ch)) : Ct l G yX8_units cX8_units 3 (Option.some Jvm.ClassFile.FieldType.int) { frames := 2, cells := 0, slots := 0, locals := 42 } [.ref x] h (fun r h' => OpP G x dy h (opUnits (u, km, src, lat, (fo, pa, ze, ra, sr), ch), (u, km, src, lat, (fo, pa, ze, ra, sr), ch)) r h') := by
  obtain ⟨la, s1, s2, hO, hul, hmu, ⟨f, hf, hfu⟩, hFt, hPt, hZt, hRt, hSx, hCn, hSr, hsl, hpm, hLa, ⟨w1, hS1⟩, ⟨w2, hS2⟩, hxd, hdh⟩ := id hC
  dsimp only at hO hul hmu hfu hFt hPt hZt hRt hSx hCn hSr hsl hLa
  have hro := hLa.ob
  have hll := hLa.1
  refine Ct.of [some (.ref x), none, none] (by decide +kernel) (Nat.le_of_ble_eq_true rfl) (fun p e s m args below meth c bs C hini => ?_)
  have loop : ∀ (n k : Nat), lat.length - k < n → k ≤ lat.length → X p l e { frames := 2, cells := 0, slots := 0, locals := 42 } s m args below meth c G bs (MQ below (x_Q G bs (fun r h' => OpP G x dy h (opUnits (u, km, src, lat, (fo, pa, ze, ra, sr), ch), (u, km, src, lat, (fo, pa, ze, ra, sr), ch)) r h')) args s 0 0 (fun q => bs ≤ q)) 0 0 4 [some (.ref x), some (.int (uSum ((lat.map (·.1)).take k))), some (.int (nI k))] [] h := by
    intro n
    induction n with
    | zero => intro k hn; omega
    | succ n ih =>
      intro k hn hk
      refine x_iload_n C dX8_units_4 (kk := ?_)
      refine x_aload_n C dX8_units_5 (kk := ?_)
      refine x_get C fl_X8_68 dX8_units_6 (kk := ?_)
      refine x_callV C ml_X5_size lk_X8_85 (c_row_size l G hLa) dX8_units_9 (fun r9 h9 hp9 => ?_)
      obtain ⟨rfl, rfl⟩ := hp9
      refine x_ncmp_ge C k lat.length dX8_units_12 35 (fun hc12 => ?_) (fun hc12 => ?_)
      · refine x_iload_n C dX8_units_35 (kk := ?_)
        refine x_iret C rfl dX8_units_36 (hp := ?_)
        exact ⟨by rw [List.take_of_length_le (by simpa using hc12)]; rfl, hC, Fc.rf⟩
      obtain ⟨v, hv⟩ : ∃ v, lat[k]? = some v := ⟨lat[k], List.getElem?_eq_getElem hc12⟩
      refine x_iload_n C dX8_units_15 (kk := ?_)
      refine x_aload_n C dX8_units_16 (kk := ?_)
      refine x_get C fl_X8_68 dX8_units_17 (kk := ?_)
      refine x_iload_n C dX8_units_20 (kk := ?_)
      refine x_callV C ml_X5_signAt lk_X8_147 (c_row_signAt l G hv hLa) dX8_units_21 (fun r21 h21 hp21 => ?_)
      obtain ⟨rfl, rfl⟩ := hp21
      refine x_callS C ml_X8_unitsOf lk_X8_157 (c_unitsOf l G v.1) dX8_units_24 (fun r24 h24 hp24 => ?_)
      obtain ⟨rfl, rfl⟩ := hp24
      refine x_iadd C dX8_units_27 ?_
      refine x_top _ (uSumL_take hv) ?_
      refine x_istore_n C dX8_units_28 (kk := ?_)
      refine x_iinc1 C dX8_units_29 (kk := ?_)
      refine x_goto C dX8_units_32 4 ?_
      exact ih (k + 1) (by omega) (by omega)
  refine x_iconst C dX8_units_0 (v := 0) (kk := ?_)
  refine x_istore_n C dX8_units_1 (kk := ?_)
  refine x_iconst C dX8_units_2 (v := 0) (kk := ?_)
  refine x_istore_n C dX8_units_3 (kk := ?_)
  exact loop (lat.length + 1) 0 (by omega) (by omega)
set_option maxRecDepth 100000 in
set_option maxHeartbeats 4000000 in
theorem c_broken (l : Launch) (G : xG) {h : xh} {x dy : Nat} {u : List Int32} {km : Nat} {src lat : List Sg} {fo : List Fo} {pa : List Pr} {ze : List Int32} {ra : List Rg} {sr : List Sr} {ch : List (Option Fi)} (i : Int32) (hC : Cs G h x dy (u, km, src, lat, (fo, pa, ze, ra, sr), ch)) : Ct l G yX8_broken cX8_broken 5 (Option.some Jvm.ClassFile.FieldType.int) { frames := 2, cells := 0, slots := 0, locals := 42 } [.ref x, .int i] h (fun r h' => OpP G x dy h (opBroken (u, km, src, lat, (fo, pa, ze, ra, sr), ch) i, (u, km, src, lat, (fo, pa, ze, ra, sr), ch)) r h') := by
  obtain ⟨la, s1, s2, hO, hul, hmu, ⟨f, hf, hfu⟩, hFt, hPt, hZt, hRt, hSx, hCn, hSr, hsl, hpm, hLa, ⟨w1, hS1⟩, ⟨w2, hS2⟩, hxd, hdh⟩ := id hC
  dsimp only at hO hul hmu hfu hFt hPt hZt hRt hSx hCn hSr hsl hLa
  have hro := hLa.ob
  have hll := hLa.1
  refine Ct.of [some (.ref x), some (.int i), none, none, none] (by decide +kernel) (Nat.le_of_ble_eq_true rfl) (fun p e s m args below meth c bs C hini => ?_)
  refine x_aload_n C dX8_broken_0 (kk := ?_)
  refine x_get C fl_X8_68 dX8_broken_1 (kk := ?_)
  refine x_callV C ml_X5_size lk_X8_85 (c_row_size l G hLa) dX8_broken_4 (fun r4 h4 hp4 => ?_)
  obtain ⟨rfl, rfl⟩ := hp4
  refine x_istore_n C dX8_broken_7 (kk := ?_)
  refine x_iload_n C dX8_broken_8 (kk := ?_)
  refine x_if_lt C dX8_broken_9 17 (fun hc9 => ?_) (fun hc9 => ?_)
  · have hng : ¬ (0 ≤ i ∧ i ≤ nI lat.length) := fun z => absurd z.1 (Int32.not_le.mpr hc9)
    refine x_bipush C dX8_broken_17 (v := -13) (kk := ?_)
    refine x_iret C rfl dX8_broken_19 (hp := ?_)
    exact ⟨by simp only [opBroken, if_neg hng], hC, Fc.rf⟩
  · refine x_iload_n C dX8_broken_12 (kk := ?_)
    refine x_iload_n C dX8_broken_13 (kk := ?_)
    refine x_icmp_le C dX8_broken_14 20 (fun hc14 => ?_) (fun hc14 => ?_)
    · have hcd : 0 ≤ i ∧ i ≤ nI lat.length := ⟨Int32.not_lt.mp hc9, hc14⟩
      refine x_iload_n C dX8_broken_20 (kk := ?_)
      refine x_if_eq C dX8_broken_21 29 (fun hc21 => ?_) (fun hc21 => ?_)
      · have h1 : i = 0 ∨ i = nI lat.length := Or.inl hc21
        refine x_iconst C dX8_broken_29 (v := 1) (kk := ?_)
        refine x_iret C rfl dX8_broken_30 (hp := ?_)
        exact ⟨by simp only [opBroken, if_pos hcd, if_pos h1], hC, Fc.rf⟩
      · refine x_iload_n C dX8_broken_24 (kk := ?_)
        refine x_iload_n C dX8_broken_25 (kk := ?_)
        refine x_icmp_ne C dX8_broken_26 31 (fun hc26 => ?_) (fun hc26 => ?_)
        · have h1 : ¬ (i = 0 ∨ i = nI lat.length) := fun z => z.elim hc21 hc26
          obtain ⟨j, hj, rfl⟩ := rng (by omega) (And.intro hcd.1 (Int32.lt_of_le_of_ne hcd.2 hc26))
          have hj0 : 0 < j := Nat.pos_of_ne_zero (fun z => hc21 (by rw [z]; rfl))
          obtain ⟨v, hv⟩ : ∃ v, lat[j]? = some v := ⟨lat[j], List.getElem?_eq_getElem hj⟩
          obtain ⟨v0, hv0⟩ : ∃ v, lat[j - 1]? = some v := ⟨lat[j - 1]'(by omega), List.getElem?_eq_getElem (by omega)⟩
          have hcl : (nI j).toNatClampNeg = j := nI_clamp (by omega)
          refine x_aload_n C dX8_broken_31 (kk := ?_)
          refine x_get C fl_X8_68 dX8_broken_32 (kk := ?_)
          refine x_iload_n C dX8_broken_35 (kk := ?_)
          refine x_iconst C dX8_broken_36 (v := 1) (kk := ?_)
          refine x_isub C dX8_broken_37 ?_
          refine x_top _ (nI_sub1 hj0) ?_
          refine x_callV C ml_X5_signAt lk_X8_147 (c_row_signAt l G hv0 hLa) dX8_broken_38 (fun r38 h38 hp38 => ?_)
          obtain ⟨rfl, rfl⟩ := hp38
          refine x_callS C ml_X8_classOf lk_X8_164 (c_classOf l G v0.1) dX8_broken_41 (fun r41 h41 hp41 => ?_)
          obtain ⟨rfl, rfl⟩ := hp41
          refine x_istore_n C dX8_broken_44 (kk := ?_)
          refine x_aload_n C dX8_broken_45 (kk := ?_)
          refine x_get C fl_X8_68 dX8_broken_46 (kk := ?_)
          refine x_iload_n C dX8_broken_49 (kk := ?_)
          refine x_callV C ml_X5_signAt lk_X8_147 (c_row_signAt l G hv hLa) dX8_broken_50 (fun r50 h50 hp50 => ?_)
          obtain ⟨rfl, rfl⟩ := hp50
          refine x_callS C ml_X8_classOf lk_X8_164 (c_classOf l G v.1) dX8_broken_53 (fun r53 h53 hp53 => ?_)
          obtain ⟨rfl, rfl⟩ := hp53
          refine x_istore C dX8_broken_56 (kk := ?_)
          refine x_iload_n C dX8_broken_58 (kk := ?_)
          refine x_iload C dX8_broken_59 (kk := ?_)
          refine x_icmp_ne C dX8_broken_61 73 (fun hc61 => ?_) (fun hc61 => ?_)
          · have h2 : clsOf v0.1 ≠ clsOf v.1 ∨ clsOf v0.1 = 0 ∨ clsOf v0.1 = 4 := Or.inl hc61
            refine x_iconst C dX8_broken_73 (v := 1) (kk := ?_)
            refine x_goto C dX8_broken_74 78 ?_
            refine x_iret C rfl dX8_broken_78 (hp := ?_)
            exact ⟨by simp only [opBroken, if_pos hcd, if_neg h1, hcl, List.getD_eq_getElem?_getD, hv, hv0, Option.getD_some, if_pos h2], hC, Fc.rf⟩
          · refine x_iload_n C dX8_broken_64 (kk := ?_)
            refine x_if_eq C dX8_broken_65 73 (fun hc65 => ?_) (fun hc65 => ?_)
            · have h2 : clsOf v0.1 ≠ clsOf v.1 ∨ clsOf v0.1 = 0 ∨ clsOf v0.1 = 4 := Or.inr (Or.inl hc65)
              refine x_iconst C dX8_broken_73 (v := 1) (kk := ?_)
              refine x_goto C dX8_broken_74 78 ?_
              refine x_iret C rfl dX8_broken_78 (hp := ?_)
              exact ⟨by simp only [opBroken, if_pos hcd, if_neg h1, hcl, List.getD_eq_getElem?_getD, hv, hv0, Option.getD_some, if_pos h2], hC, Fc.rf⟩
            · refine x_iload_n C dX8_broken_68 (kk := ?_)
              refine x_iconst C dX8_broken_69 (v := 4) (kk := ?_)
              refine x_icmp_ne C dX8_broken_70 77 (fun hc70 => ?_) (fun hc70 => ?_)
              · have h2 : ¬ (clsOf v0.1 ≠ clsOf v.1 ∨ clsOf v0.1 = 0 ∨ clsOf v0.1 = 4) := fun z => z.elim (fun z => z hc61) (fun z => z.elim hc65 hc70)
                refine x_iconst C dX8_broken_77 (v := 0) (kk := ?_)
                refine x_iret C rfl dX8_broken_78 (hp := ?_)
                exact ⟨by simp only [opBroken, if_pos hcd, if_neg h1, hcl, List.getD_eq_getElem?_getD, hv, hv0, Option.getD_some, if_neg h2], hC, Fc.rf⟩
              · have h2 : clsOf v0.1 ≠ clsOf v.1 ∨ clsOf v0.1 = 0 ∨ clsOf v0.1 = 4 := Or.inr (Or.inr hc70)
                refine x_iconst C dX8_broken_73 (v := 1) (kk := ?_)
                refine x_goto C dX8_broken_74 78 ?_
                refine x_iret C rfl dX8_broken_78 (hp := ?_)
                exact ⟨by simp only [opBroken, if_pos hcd, if_neg h1, hcl, List.getD_eq_getElem?_getD, hv, hv0, Option.getD_some, if_pos h2], hC, Fc.rf⟩
        · have h1 : i = 0 ∨ i = nI lat.length := Or.inr hc26
          refine x_iconst C dX8_broken_29 (v := 1) (kk := ?_)
          refine x_iret C rfl dX8_broken_30 (hp := ?_)
          exact ⟨by simp only [opBroken, if_pos hcd, if_pos h1], hC, Fc.rf⟩
    · have hng : ¬ (0 ≤ i ∧ i ≤ nI lat.length) := fun z => hc14 z.2
      refine x_bipush C dX8_broken_17 (v := -13) (kk := ?_)
      refine x_iret C rfl dX8_broken_19 (hp := ?_)
      exact ⟨by simp only [opBroken, if_neg hng], hC, Fc.rf⟩
