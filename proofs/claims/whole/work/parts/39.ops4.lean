/-! WHAT EACH CALL DOES, IV -/
theorem uOf_nI (v : Int32) : ∃ w : Nat, 1 ≤ w ∧ w ≤ 2 ∧ uOf v = nI w := by
  unfold uOf
  split
  · exact ⟨2, by omega, by omega, rfl⟩
  · exact ⟨1, by omega, by omega, rfl⟩
set_option maxRecDepth 100000 in
set_option maxHeartbeats 4000000 in
theorem c_unitAt (l : Launch) (G : xG) {h : xh} {x dy : Nat} {u : List Int32} {km : Nat} {src lat : List Sg} {fo : List Fo} {pa : List Pr} {ze : List Int32} {ra : List Rg} {sr : List Sr} {ch : List (Option Fi)} (i : Int32) (hC : Cs G h x dy (u, km, src, lat, (fo, pa, ze, ra, sr), ch)) : Ct l G yX8_unitAt cX8_unitAt 6 (Option.some Jvm.ClassFile.FieldType.int) { frames := 2, cells := 0, slots := 0, locals := 42 } [.ref x, .int i] h (fun r h' => OpP G x dy h (opUnitAt (u, km, src, lat, (fo, pa, ze, ra, sr), ch) i, (u, km, src, lat, (fo, pa, ze, ra, sr), ch)) r h') := by
  obtain ⟨la, s1, s2, hO, hul, hmu, ⟨f, hf, hfu⟩, hFt, hPt, hZt, hRt, hSx, hCn, hSr, hsl, hpm, hLa, ⟨w1, hS1⟩, ⟨w2, hS2⟩, hxd, hdh⟩ := id hC
  dsimp only at hO hul hmu hfu hFt hPt hZt hRt hSx hCn hSr hsl hLa
  have hro := hLa.ob
  have hll := hLa.1
  refine Ct.of [some (.ref x), some (.int i), none, none, none, none] (by decide +kernel) (Nat.le_of_ble_eq_true rfl) (fun p e s m args below meth c bs C hini => ?_)
  have loop : ∀ (n k m1 j : Nat), lat.length - k < n → k ≤ lat.length → m1 ≤ 2 * k → m1 ≤ j → j < 2 ^ 31 → uAt lat (nI j) = uAt (lat.drop k) (nI (j - m1)) → opUnitAt (u, km, src, lat, (fo, pa, ze, ra, sr), ch) (nI j) = uAt lat (nI j) → i = nI j → X p l e { frames := 2, cells := 0, slots := 0, locals := 42 } s m args below meth c G bs (MQ below (x_Q G bs (fun r h' => OpP G x dy h (opUnitAt (u, km, src, lat, (fo, pa, ze, ra, sr), ch) i, (u, km, src, lat, (fo, pa, ze, ra, sr), ch)) r h')) args s 0 0 (fun q => bs ≤ q)) 0 0 11 [some (.ref x), some (.int (nI j)), some (.int (nI m1)), some (.int (nI k)), none, none] [] h := by
    intro n
    induction n with
    | zero => intro k m1 j hn; omega
    | succ n ih =>
      intro k m1 j hn hk hm hmj hj hs hop hij
      refine x_iload_n C dX8_unitAt_11 (kk := ?_)
      refine x_aload_n C dX8_unitAt_12 (kk := ?_)
      refine x_get C fl_X8_68 dX8_unitAt_13 (kk := ?_)
      refine x_callV C ml_X5_size lk_X8_85 (c_row_size l G hLa) dX8_unitAt_16 (fun r16 h16 hp16 => ?_)
      obtain ⟨rfl, rfl⟩ := hp16
      refine x_ncmp_ge C k lat.length dX8_unitAt_19 67 (fun hc19 => ?_) (fun hc19 => ?_)
      · refine x_bipush C dX8_unitAt_67 (v := -13) (kk := ?_)
        refine x_iret C rfl dX8_unitAt_69 (hp := ?_)
        exact ⟨by rw [hij]; show _ = some (Value.int (opUnitAt _ _)); rw [hop, hs, List.drop_eq_nil_of_le hc19]; rfl, hC, Fc.rf⟩
      obtain ⟨v, hv⟩ : ∃ v, lat[k]? = some v := ⟨lat[k], List.getElem?_eq_getElem hc19⟩
      obtain ⟨w, hw1, hw2, hwe⟩ := uOf_nI v.1
      rw [drop_at hv] at hs
      refine x_aload_n C dX8_unitAt_22 (kk := ?_)
      refine x_get C fl_X8_68 dX8_unitAt_23 (kk := ?_)
      refine x_iload_n C dX8_unitAt_26 (kk := ?_)
      refine x_callV C ml_X5_signAt lk_X8_147 (c_row_signAt l G hv hLa) dX8_unitAt_27 (fun r27 h27 hp27 => ?_)
      obtain ⟨rfl, rfl⟩ := hp27
      refine x_istore C dX8_unitAt_30 (kk := ?_)
      refine x_iload C dX8_unitAt_32 (kk := ?_)
      refine x_callS C ml_X8_unitsOf lk_X8_157 (c_unitsOf l G v.1) dX8_unitAt_34 (fun r34 h34 hp34 => ?_)
      obtain ⟨rfl, rfl⟩ := hp34
      rw [hwe]
      refine x_istore C dX8_unitAt_37 (kk := ?_)
      refine x_iload_n C dX8_unitAt_39 (kk := ?_)
      refine x_iload_n C dX8_unitAt_40 (kk := ?_)
      refine x_iload C dX8_unitAt_41 (kk := ?_)
      refine x_iadd C dX8_unitAt_43 ?_
      refine x_top _ (nI_add m1 w) ?_
      refine x_ncmp_ge C j (m1 + w) dX8_unitAt_44 56 (fun hc44 => ?_) (fun hc44 => ?_)
      · have hs2 : uAt lat (nI j) = uAt (lat.drop (k + 1)) (nI (j - (m1 + w))) := by
          rw [hs]
          show (if nI (j - m1) < uOf v.1 then _ else _) = _
          rw [hwe, if_neg (nI_nlt (by omega) (by omega)), pk_sub (by omega), show j - m1 - w = j - (m1 + w) by omega]
        refine x_iload_n C dX8_unitAt_56 (kk := ?_)
        refine x_iload C dX8_unitAt_57 (kk := ?_)
        refine x_iadd C dX8_unitAt_59 ?_
        refine x_top _ (nI_add m1 w) ?_
        refine x_istore_n C dX8_unitAt_60 (kk := ?_)
        refine x_iinc1 C dX8_unitAt_61 (kk := ?_)
        refine x_goto C dX8_unitAt_64 11 ?_
        refine x_fg 5 ?_
        refine x_fg 4 ?_
        exact ih (k + 1) (m1 + w) j (by omega) (by omega) (by omega) (by omega) hj hs2 hop hij
      refine x_iload C dX8_unitAt_47 (kk := ?_)
      refine x_iload_n C dX8_unitAt_49 (kk := ?_)
      refine x_iload_n C dX8_unitAt_50 (kk := ?_)
      refine x_isub C dX8_unitAt_51 ?_
      refine x_top _ (pk_sub hmj) ?_
      refine x_callS C ml_X8_unitOf lk_X8_160 (c_unitOf l G v.1 (nI (j - m1))) dX8_unitAt_52 (fun r52 h52 hp52 => ?_)
      obtain ⟨rfl, rfl⟩ := hp52
      refine x_iret C rfl dX8_unitAt_55 (hp := ?_)
      exact ⟨by rw [hij]; show _ = some (Value.int (opUnitAt _ _)); rw [hop, hs]; show _ = some (Value.int (if nI (j - m1) < uOf v.1 then _ else _)); rw [hwe, if_pos (nI_lt (by omega) (by omega))]; rfl, hC, Fc.rf⟩
  refine x_iload_n C dX8_unitAt_0 (kk := ?_)
  refine x_if_ge C dX8_unitAt_1 7 (fun hc1 => ?_) (fun hc1 => ?_)
  · refine x_iconst C dX8_unitAt_7 (v := 0) (kk := ?_)
    refine x_istore_n C dX8_unitAt_8 (kk := ?_)
    refine x_iconst C dX8_unitAt_9 (v := 0) (kk := ?_)
    refine x_istore_n C dX8_unitAt_10 (kk := ?_)
    obtain ⟨j, hj, rfl⟩ := nI_of (Int32.not_lt.mpr hc1)
    exact loop (lat.length + 1) 0 0 j (by omega) (by omega) (by omega) (by omega) hj rfl (by simp only [opUnitAt, if_pos hc1]) rfl
  · refine x_bipush C dX8_unitAt_4 (v := -13) (kk := ?_)
    refine x_iret C rfl dX8_unitAt_6 (hp := ?_)
    exact ⟨by simp only [opUnitAt, if_neg hc1], hC, Fc.rf⟩
def AK (x s1 s2 y : Nat) : Nat → Prop := fun b => At x 1 b ∨ At (x + 16) 2 b ∨ At s1 4 b ∨ At s2 4 b ∨ y ≤ b
set_option maxRecDepth 100000 in
set_option maxHeartbeats 4000000 in
theorem c_string (l : Launch) (G : xG) {h : xh} {x dy : Nat} {u : List Int32} {km : Nat} {src lat : List Sg} {fo : List Fo} {pa : List Pr} {ze : List Int32} {ra : List Rg} {sr : List Sr} {ch : List (Option Fi)} (hC : Cs G h x dy (u, km, src, lat, (fo, pa, ze, ra, sr), ch)) : Ct l G yX8_string cX8_string 1 (Option.some Jvm.ClassFile.FieldType.int) { frames := 5, cells := 3, slots := 602, locals := 147 } [.ref x] h (fun r h' => OpP G x dy h (opString (u, km, src, lat, (fo, pa, ze, ra, sr), ch)) r h') := by
  obtain ⟨la, s1, s2, hO, hul, hmu, ⟨f, hf, hfu⟩, hFt, hPt, hZt, hRt, hSx, hCn, hSr, hsl, hpm, hLa, ⟨w1, hS1⟩, ⟨w2, hS2⟩, hxd, hdh⟩ := id hC
  dsimp only at hO hul hmu hfu hFt hPt hZt hRt hSx hCn hSr hsl hLa
  have hs1o := hS1.ob
  have hs2o := hS2.ob
  have hpr : isR x la ∧ isR x s1 ∧ isR x s2 ∧ la ≠ s1 ∧ la ≠ s2 ∧ s1 ≠ s2 := hpm
  refine Ct.of [some (.ref x)] (by decide +kernel) (Nat.le_of_ble_eq_true rfl) (fun p e s m args below meth c bs C hini => ?_)
  refine x_aload_n C dX8_string_0 (kk := ?_)
  refine x_get C fl_X8_17 dX8_string_1 (kk := ?_)
  refine x_if_gt C dX8_string_4 9 (fun hc4 => ?_) (fun hc4 => ?_)
  rotate_left
  · have hk0 : km = 0 := Classical.byContradiction fun z => hc4 (nI_lt (a := 0) (b := km) (by omega) (by omega))
    refine x_iconst C dX8_string_7 (v := -1) (kk := ?_)
    refine x_iret C rfl dX8_string_8 (hp := ?_)
    exact ⟨by simp only [opString, if_pos hk0], by simp only [opString, if_pos hk0]; exact hC, Fc.rf⟩
  have hk0 : ¬ km = 0 := fun z => by rw [z] at hc4; exact absurd hc4 (by decide)
  refine x_aload_n C dX8_string_9 (kk := ?_)
  refine x_iconst C dX8_string_10 (v := 0) (kk := ?_)
  refine x_aload_n C dX8_string_11 (kk := ?_)
  refine x_get C fl_X8_17 dX8_string_12 (kk := ?_)
  refine x_aload_n C dX8_string_15 (kk := ?_)
  refine x_get C fl_X8_71 dX8_string_16 (kk := ?_)
  refine x_callV C ml_X8_readSigns lk_X8_78 (c_readSigns l G (a := 0) (b := km) (r := s1) hO hf hfu hul (Nat.zero_le _) hmu (by unfold isR at hpr; omega) hS1) dX8_string_19 (fun r19 h19 hp19 => ?_)
  obtain ⟨rfl, hr1, hf1⟩ := hp19
  rw [List.drop_zero, show nI 0 = 0 from rfl] at hr1
  have hO1 := hf1.at (b := x) (by unfold isR At at *; omega) hO
  have hff1 := hf1.at (b := x + 1) (by unfold isR At at *; omega) hf
  have hS21 := hS2.fr hf1 (fun b z1 z2 => by unfold isR At at *; omega)
  have hs2o1 := hS21.ob
  refine x_aload_n C dX8_string_22 (kk := ?_)
  refine x_aload_n C dX8_string_23 (kk := ?_)
  refine x_get C fl_X8_17 dX8_string_24 (kk := ?_)
  refine x_aload_n C dX8_string_27 (kk := ?_)
  refine x_get C fl_X8_13 dX8_string_28 (kk := ?_)
  refine x_aload_n C dX8_string_31 (kk := ?_)
  refine x_get C fl_X8_74 dX8_string_32 (kk := ?_)
  refine x_callV C ml_X8_readSigns lk_X8_78 (c_readSigns l G (a := km) (b := u.length) (r := s2) hO1 hff1 hfu hul hmu (Nat.le_refl _) (by unfold isR at hpr; omega) hS21) dX8_string_35 (fun r35 h35 hp35 => ?_)
  obtain ⟨rfl, hr2, hf2⟩ := hp35
  rw [List.take_length] at hr2
  have hO2 := hf2.at (b := x) (by unfold isR At at *; omega) hO1
  have hr12 := hr1.fr hf2 (fun b z1 z2 => by unfold isR At at *; omega)
  have hsx2 := (hSx.fr hf1 (fun b z1 z2 => by unfold isR At at *; omega) (fun b z => by unfold isR At at *; omega)).fr hf2 (fun b z1 z2 => by unfold isR At at *; omega) (fun b z => by unfold isR At at *; omega)
  have hsxo := hsx2.2.2.1
  have hl1 : (sg2 (u.take km) 0).length ≤ 100 := Nat.le_trans (sg2_len _ _ _ (Nat.le_refl _)) (by simp; omega)
  have hl2 : (sg2 (u.drop km) (nI km)).length ≤ 100 := Nat.le_trans (sg2_len _ _ _ (Nat.le_refl _)) (by simp; omega)
  have hl3 : 1 ≤ (sg2 (u.take km) 0).length := by
    cases u with
    | nil => simp at hmu; omega
    | cons c0 t0 => obtain ⟨q0, rfl⟩ : ∃ q0, km = q0 + 1 := ⟨km - 1, by omega⟩; rw [List.take_succ_cons]; exact sg2_pos
  have hz12 : h35.2 = h.2 := hf2.1.trans hf1.1
  refine x_aload_n C dX8_string_38 (kk := ?_)
  refine x_get C fl_X8_51 dX8_string_39 (kk := ?_)
  refine x_aload_n C dX8_string_42 (kk := ?_)
  refine x_get C fl_X8_71 dX8_string_43 (kk := ?_)
  refine x_aload_n C dX8_string_46 (kk := ?_)
  refine x_get C fl_X8_74 dX8_string_47 (kk := ?_)
  refine x_callV C ml_X6_put lk_X8_89 (c_s_put l G (z := x + 16) (dy := dy) (rb := s1) (ra := s2) hl1 hl3 hl2 ⟨by unfold isR at hpr; omega, by unfold isR at hpr; omega⟩ ⟨by unfold isR at hpr; omega, by unfold isR at hpr; omega⟩ (by omega) (by omega) hsx2 hr12 hr2) dX8_string_50 (fun r50 h50 hp50 => ?_)
  rcases hp50 with ⟨hin, rfl, hsx5, hz5, hsm5⟩ | ⟨hnin, hl20, rfl, rfl⟩
  rotate_left
  · have hng : ¬ (rowB u km ∈ sr.map (·.1) ∨ sr.length < 20) := fun z => z.elim hnin (fun z => by omega)
    refine x_if_ne C dX8_string_53 59 (fun z => absurd rfl z) (fun _ => ?_)
    refine x_bipush C dX8_string_56 (v := -2) (kk := ?_)
    refine x_iret C rfl dX8_string_58 (hp := ?_)
    have hfr : Fr (RA s1 s2 dy) h _ := (hf1.mono (fun b z => Or.inl z)).tr (hf2.mono (fun b z => Or.inr (Or.inl z)))
    exact ⟨by simp only [opString, if_neg hk0, if_neg hng], by simp only [opString, if_neg hk0, if_neg hng]; exact ⟨la, s1, s2, hfr.at (by unfold isR RA At at *; omega) hO, hul, hmu, ⟨f, hfr.at (by unfold isR RA At at *; omega) hf, hfu⟩, hFt.fr hfr (fun b z1 z2 => by unfold isR RA At at *; omega), hPt.fr hfr (fun b z1 z2 => by unfold isR RA At at *; omega), hZt.fr hfr (fun b z1 z2 => by unfold isR RA At at *; omega), hRt.fr hfr (fun b z1 z2 => by unfold isR RA At at *; omega), hsx2, ((hCn.fr hf1 (by unfold isR At at *; omega) (fun b z => by unfold isR At at *; omega)).fr hf2 (by unfold isR At at *; omega) (fun b z => by unfold isR At at *; omega)), hSr.fr hfr (fun b z1 z2 => by unfold isR RA At at *; omega), hsl, hpm, hLa.fr hfr (fun b z1 z2 => by unfold isR RA At at *; omega), ⟨_, hr12⟩, ⟨_, hr2⟩, hxd, (Nat.le_trans hdh (Nat.le_of_eq hfr.1.symm))⟩, ⟨Nat.le_of_eq hz12.symm, fun b z1 z2 => hfr.2 b (by unfold isR RA At at *; omega)⟩⟩
  have hO5 := (hsm5 x (by omega) (by unfold At; omega)).trans hO2
  have hin2 : rowB u km ∈ sr.map (·.1) ∨ sr.length < 20 := hin
  refine x_if_ne C dX8_string_53 59 (fun hc53 => ?_) (fun hc53 => ?_)
  · refine x_aload_n C dX8_string_59 (kk := ?_)
    refine x_callV C ml_X8_emptyDraft lk_X8_82 (c_emptyDraft l G hO5) dX8_string_60 (fun r60 h60 hp60 => ?_)
    obtain ⟨rfl, hO6, hf6⟩ := hp60
    have hsx6 : Sx G h60 (x + 16) dy (aput sr (rowB u km) (rowA u km)) := hsx5.fr hf6 (fun b z1 z2 => by unfold At at *; omega) (fun b z => by unfold At at z; omega)
    have hSx6 := hsx6
    have hso6 := hsx6.2.2.1
    refine x_aload_n C dX8_string_63 (kk := ?_)
    refine x_get C fl_X8_51 dX8_string_64 (kk := ?_)
    refine x_callV C ml_X6_size lk_X8_93 (c_s_size l G hsx6) dX8_string_67 (fun r67 h67 hp67 => ?_)
    obtain ⟨rfl, rfl⟩ := hp67
    have hz6 : h67.2 = h.2 + 3 := by rw [hf6.1, hz5, hz12]
    have hall : ∀ b, b < h.2 → ¬ At x 1 b → ¬ At (x + 16) 2 b → ¬ At s1 4 b → ¬ At s2 4 b → h67.1 b = h.1 b := fun b z1 z2 z3 z4 z5 => (hf6.2 b z2).trans ((hsm5 b (by omega) z3).trans ((hf2.2 b z5).trans (hf1.2 b z4)))
    have hfk : Fr (AK x s1 s2 h.2) h (h67.1, h.2) := ⟨rfl, fun b z => hall b (by unfold AK At at *; omega) (by unfold AK At at *; omega) (by unfold AK At at *; omega) (by unfold AK At at *; omega) (by unfold AK At at *; omega)⟩
    have hFt6 : Ft G (h67.1, h.2) (x + 2) fo := hFt.fr hfk (fun b z1 z2 => by unfold isR AK At at *; omega)
    have hPt6 : Pt G (h67.1, h.2) (x + 7) pa := hPt.fr hfk (fun b z1 z2 => by unfold isR AK At at *; omega)
    have hZt6 : Zt G (h67.1, h.2) (x + 11) ze := hZt.fr hfk (fun b z1 z2 => by unfold isR AK At at *; omega)
    have hRt6 : Rt G (h67.1, h.2) (x + 13) ra := hRt.fr hfk (fun b z1 z2 => by unfold isR AK At at *; omega)
    have hSr6 : Rw G (h67.1, h.2) (x + 19) src := hSr.fr hfk (fun b z1 z2 => by unfold isR AK At at *; omega)
    have hLa6 : Rw G (h67.1, h.2) la lat := hLa.fr hfk (fun b z1 z2 => by unfold isR AK At at *; omega)
    have hS16 : Rw G h67 s1 _ := hr12.same (fun b hb => (hf6.2 b (by unfold isR At at *; omega)).trans (hsm5 b (by unfold isR At at *; omega) (by unfold isR At at *; omega)))
    have hS26 : Rw G h67 s2 _ := hr2.same (fun b hb => (hf6.2 b (by unfold isR At at *; omega)).trans (hsm5 b (by unfold isR At at *; omega) (by unfold isR At at *; omega)))
    have hCn6 : Cn G h67 (x + 18) dy ch := hCn.same (by omega) (hall _ (by omega) (by unfold At; omega) (by unfold At; omega) (by unfold isR At at *; omega) (by unfold isR At at *; omega)) (fun b z1 z2 _ _ _ _ _ _ _ => hall b z2 (by unfold At; omega) (by unfold At; omega) (by unfold isR At at *; omega) (by unfold isR At at *; omega))
    refine x_iret C rfl dX8_string_70 (hp := ?_)
    exact ⟨by simp only [opString, if_neg hk0, if_pos hin2], by simp only [opString, if_neg hk0, if_pos hin2]; exact ⟨la, s1, s2, hO6, Nat.zero_le _, Nat.le_refl _, ⟨f, hfk.at (by unfold isR AK At at *; omega) hf, fL_nil _⟩, hFt6, hPt6, hZt6, hRt6, hSx6, hCn6, hSr6, hsl, hpm, hLa6, ⟨_, hS16⟩, ⟨_, hS26⟩, hxd, (by omega)⟩, ⟨by omega, fun b z1 z2 => hall b (by omega) (by unfold At at *; omega) (by unfold At at *; omega) (by unfold isR At at *; omega) (by unfold isR At at *; omega)⟩⟩
  · exact absurd hc53 (by decide)
def AF (x y : Nat) : Nat → Prop := fun b => At (x + 18) 1 b ∨ y ≤ b
set_option maxRecDepth 100000 in
set_option maxHeartbeats 4000000 in
theorem c_filter (l : Launch) (G : xG) {h : xh} {x dy : Nat} {u : List Int32} {km : Nat} {src lat : List Sg} {fo : List Fo} {pa : List Pr} {ze : List Int32} {ra : List Rg} {sr : List Sr} {ch : List (Option Fi)} (v w : Int32) (hC : Cs G h x dy (u, km, src, lat, (fo, pa, ze, ra, sr), ch)) : Ct l G yX8_filter cX8_filter 3 (Option.some Jvm.ClassFile.FieldType.int) { frames := 2, cells := 1, slots := 6, locals := 37 } [.ref x, .int v, .int w] h (fun r h' => OpP G x dy h (opFilter (u, km, src, lat, (fo, pa, ze, ra, sr), ch) v w) r h') := by
  obtain ⟨la, s1, s2, hO, hul, hmu, ⟨f, hf, hfu⟩, hFt, hPt, hZt, hRt, hSx, hCn, hSr, hsl, hpm, hLa, ⟨w1, hS1⟩, ⟨w2, hS2⟩, hxd, hdh⟩ := id hC
  dsimp only at hO hul hmu hfu hFt hPt hZt hRt hSx hCn hSr hsl hLa
  obtain ⟨g0, g, g1, g2, g3, g4⟩ := id hCn
  refine Ct.of [some (.ref x), some (.int v), some (.int w)] (by decide +kernel) (Nat.le_of_ble_eq_true rfl) (fun p e s m args below meth c bs C hini => ?_)
  refine x_iload_n C dX8_filter_0 (kk := ?_)
  refine x_if_lt C dX8_filter_1 10 (fun hc1 => ?_) (fun hc1 => ?_)
  · have hng : ¬ (0 ≤ w ∧ w ≤ 6) := fun z => absurd z.1 (Int32.not_le.mpr hc1)
    refine x_iconst C dX8_filter_10 (v := -1) (kk := ?_)
    refine x_iret C rfl dX8_filter_11 (hp := ?_)
    exact ⟨by simp only [opFilter, if_neg hng], by simp only [opFilter, if_neg hng]; exact hC, Fc.rf⟩
  · refine x_iload_n C dX8_filter_4 (kk := ?_)
    refine x_bipush C dX8_filter_5 (v := 6) (kk := ?_)
    refine x_icmp_le C dX8_filter_7 12 (fun hc7 => ?_) (fun hc7 => ?_)
    · have hcd : 0 ≤ w ∧ w ≤ 6 := ⟨Int32.not_lt.mp hc1, hc7⟩
      refine x_iload_n C dX8_filter_12 (kk := ?_)
      refine x_callS C ml_X8_isPlace lk_X8_118 (c_isPlace l G v) dX8_filter_13 (fun r13 h13 hp13 => ?_)
      obtain ⟨rfl, rfl⟩ := hp13
      refine x_ifB_ne C dX8_filter_16 22 (fun hc16 => ?_) (fun hc16 => ?_)
      · obtain ⟨j, hj, rfl⟩ := plc hc16
        have hcl : (nI j).toNatClampNeg = j := nI_clamp (by omega)
        obtain ⟨o, ho⟩ : ∃ o, ch[j]? = some o := ⟨ch[j]'(by omega), List.getElem?_eq_getElem (by omega)⟩
        refine x_aload_n C dX8_filter_22 (kk := ?_)
        refine x_get C fl_X8_57 dX8_filter_23 (kk := ?_)
        refine x_iload_n C dX8_filter_26 (kk := ?_)
        refine x_obj C (fs := [.int 0, .int 0, .int 0, .int 0, .int 0, .int 0]) tyX0 (ci := 0) rfl inT0 tyX0_ok tw_81 tw_295 tw_13 (fun j hj => match j, hj with | 0, _ => rfl | 1, _ => rfl | 2, _ => rfl | 3, _ => rfl | 4, _ => rfl | 5, _ => rfl | k + 6, h => absurd h (by omega)) dX8_filter_27 (kk := ?_)
        refine x_dup C dX8_filter_30 (kk := ?_)
        refine x_iload_n C dX8_filter_31 (kk := ?_)
        refine x_callI C ml_X0_init lk_X8_121 (c_f_init l G w (x_new_eq (e := eO 0 [.int 0, .int 0, .int 0, .int 0, .int 0, .int 0]) rfl)) dX8_filter_32 (fun r32 h32 hp32 => ?_)
        obtain ⟨rfl, hF2, hfr2⟩ := hp32
        have hc2 := hfr2.at (b := x + 18) (by show ¬ (_ ≤ x + 18 ∧ _); omega) (x_new_ne (by omega) g1)
        have hv2 := id hF2
        unfold Fa at hv2
        refine x_aast C _ dX8_filter_35 (t := 1) (ci := 0) (r := (RX0, TX0, 6)) rfl rfl (hh := hc2) (hv := hv2) (kk := ?_)
        refine x_hpG (fun h3 e3 => ?_)
        refine x_iconst C dX8_filter_36 (v := 0) (kk := ?_)
        refine x_iret C rfl dX8_filter_37 (hp := ?_)
        have hall : ∀ b, b < h13.2 → ¬ At (x + 18) 1 b → h3.1 b = h13.1 b := fun b z1 z2 => by rw [e3]; exact (x_set_ne (by unfold At at z2; omega) rfl).trans ((hfr2.2 b (by unfold At; omega)).trans (x_new_ne (by omega) rfl))
        have hz3 : h3.2 = h13.2 + 1 := by rw [e3]; exact hfr2.1
        have hc3 : h3.1 (x + 18) = some (eR G 1 8 (va_up g j (some h13.2))) := by rw [e3]; exact x_set_eq
        have hF3 : Fa h3 h13.2 w 0 0 0 0 0 := by unfold Fa at *; rw [e3]; exact x_set_ne (by omega) hF2
        have hfk : Fr (AF x h13.2) h13 (h3.1, h13.2) := ⟨rfl, fun b z => hall b (by unfold AF At at *; omega) (by unfold AF At at *; omega)⟩
        obtain ⟨k, hk6, hke⟩ := knd hcd
        have hFt6 : Ft G (h3.1, h13.2) (x + 2) fo := hFt.fr hfk (fun b z1 z2 => by unfold isR AF At at *; omega)
        have hPt6 : Pt G (h3.1, h13.2) (x + 7) pa := hPt.fr hfk (fun b z1 z2 => by unfold isR AF At at *; omega)
        have hZt6 : Zt G (h3.1, h13.2) (x + 11) ze := hZt.fr hfk (fun b z1 z2 => by unfold isR AF At at *; omega)
        have hRt6 : Rt G (h3.1, h13.2) (x + 13) ra := hRt.fr hfk (fun b z1 z2 => by unfold isR AF At at *; omega)
        have hSr6 : Rw G (h3.1, h13.2) (x + 19) src := hSr.fr hfk (fun b z1 z2 => by unfold isR AF At at *; omega)
        have hLa6 : Rw G (h3.1, h13.2) la lat := hLa.fr hfk (fun b z1 z2 => by unfold isR AF At at *; omega)
        have hS16 : Rw G (h3.1, h13.2) s1 w1 := hS1.fr hfk (fun b z1 z2 => by unfold isR AF At at *; omega)
        have hS26 : Rw G (h3.1, h13.2) s2 w2 := hS2.fr hfk (fun b z1 z2 => by unfold isR AF At at *; omega)
        have hSx6 : Sx G h3 (x + 16) dy sr := hSx.same (by omega) (fun b hb => hall b (by unfold At at *; omega) (by unfold At at *; omega)) (fun q z1 z2 w hw => hw.same (fun b hb => hall b (by unfold At at *; omega) (by unfold At at *; omega)))
        have hCn6 : Cn G h3 (x + 18) dy (ch.set j (some (w, 0, 0, 0))) := Cn.put (oa := some h13.2) g0 g2 g3 g4 hj hc3 (fun z => by cases z) (fun fi z => by cases z; exact ⟨⟨k, hk6, hke⟩, h13.2, rfl, hdh, by omega, 0, 0, hF3⟩) (by omega) (fun q fi b hq hqc hb hb2 => ⟨hall b hb2 (by obtain ⟨-, b', c1, c2, -⟩ := g3 q fi hqc; rw [hb] at c1; cases c1; unfold At; omega), fun z => by cases z; exact absurd hb2 (Nat.lt_irrefl _)⟩)
        exact ⟨by simp only [opFilter, if_pos hcd, if_pos hc16], by simp only [opFilter, if_pos hcd, if_pos hc16, hcl]; exact ⟨la, s1, s2, hfk.at (by unfold AF At; omega) hO, hul, hmu, ⟨f, hfk.at (by unfold AF At; omega) hf, hfu⟩, hFt6, hPt6, hZt6, hRt6, hSx6, hCn6, hSr6, hsl, hpm, hLa6, ⟨w1, hS16⟩, ⟨w2, hS26⟩, hxd, (by omega)⟩, ⟨by omega, fun b z1 z2 => hall b (by omega) (by unfold At at *; omega)⟩⟩
      refine x_bipush C dX8_filter_19 (v := -13) (kk := ?_)
      refine x_iret C rfl dX8_filter_21 (hp := ?_)
      exact ⟨by simp only [opFilter, if_pos hcd, if_neg hc16], by simp only [opFilter, if_pos hcd, if_neg hc16]; exact hC, Fc.rf⟩
    · have hng : ¬ (0 ≤ w ∧ w ≤ 6) := fun z => hc7 z.2
      refine x_iconst C dX8_filter_10 (v := -1) (kk := ?_)
      refine x_iret C rfl dX8_filter_11 (hp := ?_)
      exact ⟨by simp only [opFilter, if_neg hng], by simp only [opFilter, if_neg hng]; exact hC, Fc.rf⟩
