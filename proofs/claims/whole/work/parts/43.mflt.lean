/-! THE REFERENCE, III: filters, draft, text -/
theorem mrcPut {c r m g : Nat → Int32} {ch : List (Option Fi)} (h : MrC c r m g ch) {j k : Nat} {w : Int32} (hj : j < 8) (hk : k ≤ 6) (e : w = nI k) : MrC (upd c j (w + 1)) (upd r j 0) (upd m j 0) (upd g j 0) (ch.set j (some (w, 0, 0, 0))) := by
  obtain ⟨h0, h1, h2⟩ := h
  have hjl : j < ch.length := by omega
  refine ⟨by simpa using h0, fun q hq => ?_, fun q fi hq => ?_⟩
  · by_cases z : q = j
    · subst z; rw [List.getElem?_set_self hjl] at hq; cases hq
    · rw [List.getElem?_set_ne (Ne.symm z)] at hq; simp only [upd, if_neg z]; exact h1 q hq
  · by_cases z : q = j
    · subst z
      rw [List.getElem?_set_self hjl] at hq
      cases hq
      simp only [upd, if_true]
      exact ⟨⟨k, hk, e, by rw [e, nI_1]⟩, trivial, trivial, trivial⟩
    · rw [List.getElem?_set_ne (Ne.symm z)] at hq; simp only [upd, if_neg z]; exact h2 q fi hq
theorem mrcNone {c r m g : Nat → Int32} {ch : List (Option Fi)} (h : MrC c r m g ch) {j : Nat} (hj : j < 8) : MrC (upd c j 0) r m g (ch.set j none) := by
  obtain ⟨h0, h1, h2⟩ := h
  have hjl : j < ch.length := by omega
  refine ⟨by simpa using h0, fun q hq => ?_, fun q fi hq => ?_⟩
  · by_cases z : q = j
    · subst z; simp only [upd, if_true]
    · rw [List.getElem?_set_ne (Ne.symm z)] at hq; simp only [upd, if_neg z]; exact h1 q hq
  · by_cases z : q = j
    · subst z; rw [List.getElem?_set_self hjl] at hq; cases hq
    · rw [List.getElem?_set_ne (Ne.symm z)] at hq; simp only [upd, if_neg z]; exact h2 q fi hq
theorem mrcRule {c r m g : Nat → Int32} {ch : List (Option Fi)} (h : MrC c r m g ch) {j : Nat} {fi : Fi} {w : Int32} (hj : ch[j]? = some (some fi)) : MrC c (upd r j w) m g (ch.set j (some (fi.1, w, fi.2.2))) := by
  obtain ⟨h0, h1, h2⟩ := h
  have hjl : j < ch.length := (List.getElem?_eq_some_iff.mp hj).1
  refine ⟨by simpa using h0, fun q hq => ?_, fun q f2 hq => ?_⟩
  · by_cases z : q = j
    · subst z; rw [List.getElem?_set_self hjl] at hq; cases hq
    · rw [List.getElem?_set_ne (Ne.symm z)] at hq; exact h1 q hq
  · by_cases z : q = j
    · subst z
      rw [List.getElem?_set_self hjl] at hq
      cases hq
      obtain ⟨a1, -, a3, a4⟩ := h2 q fi hj
      simp only [upd, if_true]
      exact ⟨a1, trivial, a3, a4⟩
    · rw [List.getElem?_set_ne (Ne.symm z)] at hq; simp only [upd, if_neg z]; exact h2 q f2 hq
theorem nI_p0 {k : Nat} (h : k ≤ 6) : ¬ nI (k + 1) = 0 := fun z => by have := congrArg Int32.toInt z; rw [nI_toInt (by omega)] at this; simp at this; omega
set_option maxRecDepth 100000 in
set_option maxHeartbeats 4000000 in
theorem m_filter (l : Launch) (G : xG) {h : xh} {o : Nat} {u : List Int32} {km : Nat} {src lat : List Sg} {fo : List Fo} {pa : List Pr} {ze : List Int32} {ra : List Rg} {sr : List Sr} {ch : List (Option Fi)} (v w : Int32) (hS : Ms G h o (u, km, src, lat, (fo, pa, ze, ra, sr), ch)) : Ct l G yX9_filter cX9_filter 3 (Option.some Jvm.ClassFile.FieldType.int) { frames := 2, cells := 0, slots := 0, locals := 42 } [.ref o, .int v, .int w] h (fun r h' => OpM G o h (opFilter (u, km, src, lat, (fo, pa, ze, ra, sr), ch) v w) r h') := by
  obtain ⟨I, A, hM, hU, hSr, hFo, hPa, hZe, hRa, hSt, hCh, hOu⟩ := id hS
  dsimp only at hU hSr hFo hPa hZe hRa hSt hCh hOu
  have hf : Mf o h h := Fr.rf
  refine Ct.of [some (.ref o), some (.int v), some (.int w)] (by decide +kernel) (Nat.le_of_ble_eq_true rfl) (fun p e s m args below meth c bs C hini => ?_)
  refine x_iload_n C dX9_filter_0 (kk := ?_)
  refine x_iconst C dX9_filter_1 (v := 0) (kk := ?_)
  refine x_bipush C dX9_filter_2 (v := 6) (kk := ?_)
  refine x_callS C ml_X9_isIn lk_X9_111 (m_isIn l G w 0 6) dX9_filter_4 (fun r4 h4 hp4 => ?_)
  obtain ⟨rfl, rfl⟩ := hp4
  refine x_ifB_ne C dX9_filter_7 12 (fun hc7 => ?_) (fun hc7 => ?_)
  · refine x_iload_n C dX9_filter_12 (kk := ?_)
    refine x_callS C ml_X9_isPlace lk_X9_181 (m_isPlace l G v) dX9_filter_13 (fun r13 h13 hp13 => ?_)
    obtain ⟨rfl, rfl⟩ := hp13
    refine x_ifB_ne C dX9_filter_16 22 (fun hc16 => ?_) (fun hc16 => ?_)
    · obtain ⟨j, hj, rfl⟩ := plc hc16
      have hcl : (nI j).toNatClampNeg = j := nI_clamp (by omega)
      obtain ⟨fo9, ho⟩ : ∃ fo9, ch[j]? = some fo9 := ⟨ch[j]'(by have := hCh.1; omega), List.getElem?_eq_getElem (by have := hCh.1; omega)⟩
      obtain ⟨k, hk6, hke⟩ := knd hc7
      refine x_aload_n C dX9_filter_22 (kk := ?_)
      refine x_get C fl_X9_61 dX9_filter_23 (hh := hM.1) (kk := ?_)
      refine x_iload_n C dX9_filter_26 (kk := ?_)
      refine x_iload_n C dX9_filter_27 (kk := ?_)
      refine x_iconst C dX9_filter_28 (v := 1) (kk := ?_)
      refine x_iadd C dX9_filter_29 ?_
      refine x_mst C 17 (j) hM hf dX9_filter_30 rfl (n := 8) (by omega) (kk := fun h hM hf => ?_)
      refine x_aload_n C dX9_filter_31 (kk := ?_)
      refine x_get C fl_X9_64 dX9_filter_32 (hh := hM.1) (kk := ?_)
      refine x_iload_n C dX9_filter_35 (kk := ?_)
      refine x_iconst C dX9_filter_36 (v := 0) (kk := ?_)
      refine x_mst C 18 (j) hM hf dX9_filter_37 rfl (n := 8) (by omega) (kk := fun h hM hf => ?_)
      refine x_aload_n C dX9_filter_38 (kk := ?_)
      refine x_get C fl_X9_67 dX9_filter_39 (hh := hM.1) (kk := ?_)
      refine x_iload_n C dX9_filter_42 (kk := ?_)
      refine x_iconst C dX9_filter_43 (v := 0) (kk := ?_)
      refine x_mst C 19 (j) hM hf dX9_filter_44 rfl (n := 8) (by omega) (kk := fun h hM hf => ?_)
      refine x_aload_n C dX9_filter_45 (kk := ?_)
      refine x_get C fl_X9_70 dX9_filter_46 (hh := hM.1) (kk := ?_)
      refine x_iload_n C dX9_filter_49 (kk := ?_)
      refine x_iconst C dX9_filter_50 (v := 0) (kk := ?_)
      refine x_mst C 20 (j) hM hf dX9_filter_51 rfl (n := 8) (by omega) (kk := fun h hM hf => ?_)
      refine x_iconst C dX9_filter_52 (v := 0) (kk := ?_)
      refine x_iret C rfl dX9_filter_53 (hp := ?_)
      exact ⟨by simp only [opFilter, if_pos hc7, if_pos hc16], by simp only [opFilter, if_pos hc7, if_pos hc16, hcl]; exact ⟨_, _, hM, hU, hSr, hFo, hPa, hZe, hRa, hSt, mrcPut hCh hj hk6 hke, hOu⟩, hf⟩
    refine x_bipush C dX9_filter_19 (v := -13) (kk := ?_)
    refine x_iret C rfl dX9_filter_21 (hp := ?_)
    exact ⟨by simp only [opFilter, if_pos hc7, if_neg hc16], by simp only [opFilter, if_pos hc7, if_neg hc16]; exact hS, hf⟩
  · refine x_iconst C dX9_filter_10 (v := -1) (kk := ?_)
    refine x_iret C rfl dX9_filter_11 (hp := ?_)
    exact ⟨by simp only [opFilter, if_neg hc7], by simp only [opFilter, if_neg hc7]; exact hS, hf⟩
set_option maxRecDepth 100000 in
set_option maxHeartbeats 4000000 in
theorem m_drop (l : Launch) (G : xG) {h : xh} {o : Nat} {u : List Int32} {km : Nat} {src lat : List Sg} {fo : List Fo} {pa : List Pr} {ze : List Int32} {ra : List Rg} {sr : List Sr} {ch : List (Option Fi)} (v : Int32) (hS : Ms G h o (u, km, src, lat, (fo, pa, ze, ra, sr), ch)) : Ct l G yX9_drop cX9_drop 3 (Option.some Jvm.ClassFile.FieldType.int) { frames := 2, cells := 0, slots := 0, locals := 42 } [.ref o, .int v] h (fun r h' => OpM G o h (opDrop (u, km, src, lat, (fo, pa, ze, ra, sr), ch) v) r h') := by
  obtain ⟨I, A, hM, hU, hSr, hFo, hPa, hZe, hRa, hSt, hCh, hOu⟩ := id hS
  dsimp only at hU hSr hFo hPa hZe hRa hSt hCh hOu
  have hf : Mf o h h := Fr.rf
  refine Ct.of [some (.ref o), some (.int v), none] (by decide +kernel) (Nat.le_of_ble_eq_true rfl) (fun p e s m args below meth c bs C hini => ?_)
  refine x_iload_n C dX9_drop_0 (kk := ?_)
  refine x_callS C ml_X9_isPlace lk_X9_181 (m_isPlace l G v) dX9_drop_1 (fun r1 h1 hp1 => ?_)
  obtain ⟨rfl, rfl⟩ := hp1
  refine x_ifB_ne C dX9_drop_4 10 (fun hc4 => ?_) (fun hc4 => ?_)
  · obtain ⟨j, hj, rfl⟩ := plc hc4
    have hcl : (nI j).toNatClampNeg = j := nI_clamp (by omega)
    obtain ⟨fo9, ho⟩ : ∃ fo9, ch[j]? = some fo9 := ⟨ch[j]'(by have := hCh.1; omega), List.getElem?_eq_getElem (by have := hCh.1; omega)⟩
    refine x_aload_n C dX9_drop_10 (kk := ?_)
    refine x_get C fl_X9_61 dX9_drop_11 (hh := hM.1) (kk := ?_)
    refine x_iload_n C dX9_drop_14 (kk := ?_)
    refine x_mld C 17 j hM dX9_drop_15 rfl (n := 8) (by omega) (kk := ?_)
    cases fo9 with
    | none =>
      rw [hCh.2.1 j ho]
      refine x_if_le C dX9_drop_16 23 (fun _ => ?_) (fun z => absurd (by decide) z)
      refine x_iconst C dX9_drop_23 (v := 0) (kk := ?_)
      refine x_istore_n C dX9_drop_24 (kk := ?_)
      refine x_aload_n C dX9_drop_25 (kk := ?_)
      refine x_get C fl_X9_61 dX9_drop_26 (hh := hM.1) (kk := ?_)
      refine x_iload_n C dX9_drop_29 (kk := ?_)
      refine x_iconst C dX9_drop_30 (v := 0) (kk := ?_)
      refine x_mst C 17 (j) hM hf dX9_drop_31 rfl (n := 8) (by omega) (kk := fun h hM hf => ?_)
      refine x_iload_n C dX9_drop_32 (kk := ?_)
      refine x_iret C rfl dX9_drop_33 (hp := ?_)
      exact ⟨by simp only [opDrop, if_pos hc4, hcl, List.getD_eq_getElem?_getD, ho, Option.getD_some, if_true], by simp only [opDrop, if_pos hc4, hcl]; exact ⟨_, _, hM, hU, hSr, hFo, hPa, hZe, hRa, hSt, mrcNone hCh hj, hOu⟩, hf⟩
    | some fi =>
      obtain ⟨⟨k, hk6, hke, hck⟩, -⟩ := hCh.2.2 j fi ho
      rw [hck]
      refine x_if_le C dX9_drop_16 23 (fun z => absurd z (Int32.not_le.mpr (nI_lt (a := 0) (b := k + 1) (by omega) (by omega)))) (fun _ => ?_)
      refine x_iconst C dX9_drop_19 (v := 1) (kk := ?_)
      refine x_goto C dX9_drop_20 24 ?_
      refine x_istore_n C dX9_drop_24 (kk := ?_)
      refine x_aload_n C dX9_drop_25 (kk := ?_)
      refine x_get C fl_X9_61 dX9_drop_26 (hh := hM.1) (kk := ?_)
      refine x_iload_n C dX9_drop_29 (kk := ?_)
      refine x_iconst C dX9_drop_30 (v := 0) (kk := ?_)
      refine x_mst C 17 (j) hM hf dX9_drop_31 rfl (n := 8) (by omega) (kk := fun h hM hf => ?_)
      refine x_iload_n C dX9_drop_32 (kk := ?_)
      refine x_iret C rfl dX9_drop_33 (hp := ?_)
      exact ⟨by simp only [opDrop, if_pos hc4, hcl, List.getD_eq_getElem?_getD, ho, Option.getD_some]; rfl, by simp only [opDrop, if_pos hc4, hcl]; exact ⟨_, _, hM, hU, hSr, hFo, hPa, hZe, hRa, hSt, mrcNone hCh hj, hOu⟩, hf⟩
  refine x_bipush C dX9_drop_7 (v := -13) (kk := ?_)
  refine x_iret C rfl dX9_drop_9 (hp := ?_)
  exact ⟨by simp only [opDrop, if_neg hc4], by simp only [opDrop, if_neg hc4]; exact hS, hf⟩
set_option maxRecDepth 100000 in
set_option maxHeartbeats 4000000 in
theorem m_rule (l : Launch) (G : xG) {h : xh} {o : Nat} {u : List Int32} {km : Nat} {src lat : List Sg} {fo : List Fo} {pa : List Pr} {ze : List Int32} {ra : List Rg} {sr : List Sr} {ch : List (Option Fi)} (v w : Int32) (hS : Ms G h o (u, km, src, lat, (fo, pa, ze, ra, sr), ch)) : Ct l G yX9_rule cX9_rule 4 (Option.some Jvm.ClassFile.FieldType.int) { frames := 2, cells := 0, slots := 0, locals := 42 } [.ref o, .int v, .int w] h (fun r h' => OpM G o h (opRule (u, km, src, lat, (fo, pa, ze, ra, sr), ch) v w) r h') := by
  obtain ⟨I, A, hM, hU, hSr, hFo, hPa, hZe, hRa, hSt, hCh, hOu⟩ := id hS
  dsimp only at hU hSr hFo hPa hZe hRa hSt hCh hOu
  have hf : Mf o h h := Fr.rf
  refine Ct.of [some (.ref o), some (.int v), some (.int w), none] (by decide +kernel) (Nat.le_of_ble_eq_true rfl) (fun p e s m args below meth c bs C hini => ?_)
  refine x_iload_n C dX9_rule_0 (kk := ?_)
  refine x_iconst C dX9_rule_1 (v := 0) (kk := ?_)
  refine x_iconst C dX9_rule_2 (v := 2) (kk := ?_)
  refine x_callS C ml_X9_isIn lk_X9_111 (m_isIn l G w 0 2) dX9_rule_3 (fun r3 h3 hp3 => ?_)
  obtain ⟨rfl, rfl⟩ := hp3
  refine x_ifB_ne C dX9_rule_6 11 (fun hc6 => ?_) (fun hc6 => ?_)
  · refine x_iload_n C dX9_rule_11 (kk := ?_)
    refine x_callS C ml_X9_isPlace lk_X9_181 (m_isPlace l G v) dX9_rule_12 (fun r12 h12 hp12 => ?_)
    obtain ⟨rfl, rfl⟩ := hp12
    refine x_ifB_ne C dX9_rule_15 21 (fun hc15 => ?_) (fun hc15 => ?_)
    · obtain ⟨j, hj, rfl⟩ := plc hc15
      have hcl : (nI j).toNatClampNeg = j := nI_clamp (by omega)
      obtain ⟨fo9, ho⟩ : ∃ fo9, ch[j]? = some fo9 := ⟨ch[j]'(by have := hCh.1; omega), List.getElem?_eq_getElem (by have := hCh.1; omega)⟩
      refine x_aload_n C dX9_rule_21 (kk := ?_)
      refine x_get C fl_X9_61 dX9_rule_22 (hh := hM.1) (kk := ?_)
      refine x_iload_n C dX9_rule_25 (kk := ?_)
      refine x_mld C 17 j hM dX9_rule_26 rfl (n := 8) (by omega) (kk := ?_)
      cases fo9 with
      | none =>
        rw [hCh.2.1 j ho]
        refine x_bipush C dX9_rule_27 (v := 6) (kk := ?_)
        refine x_icmp_eq C dX9_rule_29 49 (fun z => absurd z (by decide)) (fun _ => ?_)
        refine x_aload_n C dX9_rule_32 (kk := ?_)
        refine x_get C fl_X9_61 dX9_rule_33 (hh := hM.1) (kk := ?_)
        refine x_iload_n C dX9_rule_36 (kk := ?_)
        refine x_mld C 17 j hM dX9_rule_37 rfl (n := 8) (by omega) (kk := ?_)
        rw [hCh.2.1 j ho]
        refine x_if_ne C dX9_rule_38 46 (fun z => absurd rfl z) (fun _ => ?_)
        refine x_bipush C dX9_rule_41 (v := -11) (kk := ?_)
        refine x_goto C dX9_rule_43 48 ?_
        refine x_iret C rfl dX9_rule_48 (hp := ?_)
        exact ⟨by simp only [opRule, if_pos hc6, if_pos hc15, hcl, List.getD_eq_getElem?_getD, ho, Option.getD_some], by simp only [opRule, if_pos hc6, if_pos hc15, hcl, List.getD_eq_getElem?_getD, ho, Option.getD_some]; exact hS, hf⟩
      | some fi =>
        obtain ⟨⟨k, hk6, hke, hck⟩, hrr, -⟩ := hCh.2.2 j fi ho
        rw [hck]
        by_cases e5 : fi.1 = 5
        · have hk5 : k = 5 := (nI_eq (a := k) (b := 5) (by omega) (by omega)).mp (hke.symm.trans e5)
          subst hk5
          refine x_bipush C dX9_rule_27 (v := 6) (kk := ?_)
          refine x_icmp_eq C dX9_rule_29 49 (fun _ => ?_) (fun z => absurd rfl z)
          refine x_aload_n C dX9_rule_49 (kk := ?_)
          refine x_get C fl_X9_64 dX9_rule_50 (hh := hM.1) (kk := ?_)
          refine x_iload_n C dX9_rule_53 (kk := ?_)
          refine x_mld C 18 (j) hM dX9_rule_54 rfl (n := 8) (by omega) (kk := ?_)
          refine x_istore_n C dX9_rule_55 (kk := ?_)
          refine x_aload_n C dX9_rule_56 (kk := ?_)
          refine x_get C fl_X9_64 dX9_rule_57 (hh := hM.1) (kk := ?_)
          refine x_iload_n C dX9_rule_60 (kk := ?_)
          refine x_iload_n C dX9_rule_61 (kk := ?_)
          refine x_mst C 18 (j) hM hf dX9_rule_62 rfl (n := 8) (by omega) (kk := fun h hM hf => ?_)
          refine x_iload_n C dX9_rule_63 (kk := ?_)
          refine x_iret C rfl dX9_rule_64 (hp := ?_)
          exact ⟨by simp only [opRule, if_pos hc6, if_pos hc15, hcl, List.getD_eq_getElem?_getD, ho, Option.getD_some, if_pos e5, hrr], by simp only [opRule, if_pos hc6, if_pos hc15, hcl, List.getD_eq_getElem?_getD, ho, Option.getD_some, if_pos e5]; exact ⟨_, _, hM, hU, hSr, hFo, hPa, hZe, hRa, hSt, mrcRule hCh ho, hOu⟩, hf⟩
        have hk5 : k ≠ 5 := fun z => e5 (by rw [hke, z]; rfl)
        refine x_bipush C dX9_rule_27 (v := 6) (kk := ?_)
        refine x_icmp_eq C dX9_rule_29 49 (fun z => absurd ((nI_eq (a := k + 1) (b := 6) (by omega) (by omega)).mp z) (by omega)) (fun _ => ?_)
        refine x_aload_n C dX9_rule_32 (kk := ?_)
        refine x_get C fl_X9_61 dX9_rule_33 (hh := hM.1) (kk := ?_)
        refine x_iload_n C dX9_rule_36 (kk := ?_)
        refine x_mld C 17 j hM dX9_rule_37 rfl (n := 8) (by omega) (kk := ?_)
        rw [hck]
        refine x_if_ne C dX9_rule_38 46 (fun _ => ?_) (fun z => absurd z (nI_p0 hk6))
        refine x_bipush C dX9_rule_46 (v := -12) (kk := ?_)
        refine x_iret C rfl dX9_rule_48 (hp := ?_)
        exact ⟨by simp only [opRule, if_pos hc6, if_pos hc15, hcl, List.getD_eq_getElem?_getD, ho, Option.getD_some, if_neg e5], by simp only [opRule, if_pos hc6, if_pos hc15, hcl, List.getD_eq_getElem?_getD, ho, Option.getD_some, if_neg e5]; exact hS, hf⟩
    refine x_bipush C dX9_rule_18 (v := -13) (kk := ?_)
    refine x_iret C rfl dX9_rule_20 (hp := ?_)
    exact ⟨by simp only [opRule, if_pos hc6, if_neg hc15], by simp only [opRule, if_pos hc6, if_neg hc15]; exact hS, hf⟩
  · refine x_iconst C dX9_rule_9 (v := -1) (kk := ?_)
    refine x_iret C rfl dX9_rule_10 (hp := ?_)
    exact ⟨by simp only [opRule, if_neg hc6], by simp only [opRule, if_neg hc6]; exact hS, hf⟩
set_option maxRecDepth 100000 in
set_option maxHeartbeats 4000000 in
theorem m_met (l : Launch) (G : xG) {h : xh} {o : Nat} {u : List Int32} {km : Nat} {src lat : List Sg} {fo : List Fo} {pa : List Pr} {ze : List Int32} {ra : List Rg} {sr : List Sr} {ch : List (Option Fi)} (v : Int32) (hS : Ms G h o (u, km, src, lat, (fo, pa, ze, ra, sr), ch)) : Ct l G yX9_met cX9_met 2 (Option.some Jvm.ClassFile.FieldType.int) { frames := 2, cells := 0, slots := 0, locals := 42 } [.ref o, .int v] h (fun r h' => OpM G o h (opMet (u, km, src, lat, (fo, pa, ze, ra, sr), ch) v, (u, km, src, lat, (fo, pa, ze, ra, sr), ch)) r h') := by
  obtain ⟨I, A, hM, hU, hSr, hFo, hPa, hZe, hRa, hSt, hCh, hOu⟩ := id hS
  dsimp only at hU hSr hFo hPa hZe hRa hSt hCh hOu
  have hf : Mf o h h := Fr.rf
  refine Ct.of [some (.ref o), some (.int v)] (by decide +kernel) (Nat.le_of_ble_eq_true rfl) (fun p e s m args below meth c bs C hini => ?_)
  refine x_iload_n C dX9_met_0 (kk := ?_)
  refine x_callS C ml_X9_isPlace lk_X9_181 (m_isPlace l G v) dX9_met_1 (fun r1 h1 hp1 => ?_)
  obtain ⟨rfl, rfl⟩ := hp1
  refine x_ifB_ne C dX9_met_4 12 (fun hc4 => ?_) (fun hc4 => ?_)
  · obtain ⟨j, hj, rfl⟩ := plc hc4
    have hcl : (nI j).toNatClampNeg = j := nI_clamp (by omega)
    obtain ⟨fo9, ho⟩ : ∃ fo9, ch[j]? = some fo9 := ⟨ch[j]'(by have := hCh.1; omega), List.getElem?_eq_getElem (by have := hCh.1; omega)⟩
    refine x_aload_n C dX9_met_12 (kk := ?_)
    refine x_get C fl_X9_61 dX9_met_13 (hh := hM.1) (kk := ?_)
    refine x_iload_n C dX9_met_16 (kk := ?_)
    refine x_mld C 17 j hM dX9_met_17 rfl (n := 8) (by omega) (kk := ?_)
    cases fo9 with
    | none =>
      rw [hCh.2.1 j ho]
      refine x_if_ne C dX9_met_18 26 (fun z => absurd rfl z) (fun _ => ?_)
      refine x_bipush C dX9_met_21 (v := -11) (kk := ?_)
      refine x_goto C dX9_met_23 32 ?_
      refine x_iret C rfl dX9_met_32 (hp := ?_)
      exact ⟨by simp only [opMet, if_pos hc4, hcl, List.getD_eq_getElem?_getD, ho, Option.getD_some], hS, hf⟩
    | some fi =>
      obtain ⟨⟨k, hk6, hke, hck⟩, -, hmm, hgg⟩ := hCh.2.2 j fi ho
      rw [hck]
      refine x_if_ne C dX9_met_18 26 (fun _ => ?_) (fun z => absurd z (nI_p0 hk6))
      refine x_aload_n C dX9_met_26 (kk := ?_)
      refine x_get C fl_X9_67 dX9_met_27 (hh := hM.1) (kk := ?_)
      refine x_iload_n C dX9_met_30 (kk := ?_)
      refine x_mld C 19 (j) hM dX9_met_31 rfl (n := 8) (by omega) (kk := ?_)
      refine x_iret C rfl dX9_met_32 (hp := ?_)
      exact ⟨by simp only [opMet, if_pos hc4, hcl, List.getD_eq_getElem?_getD, ho, Option.getD_some, hmm], hS, hf⟩
  refine x_bipush C dX9_met_7 (v := -13) (kk := ?_)
  refine x_goto C dX9_met_9 32 ?_
  refine x_iret C rfl dX9_met_32 (hp := ?_)
  exact ⟨by simp only [opMet, if_neg hc4], hS, hf⟩
set_option maxRecDepth 100000 in
set_option maxHeartbeats 4000000 in
theorem m_grown (l : Launch) (G : xG) {h : xh} {o : Nat} {u : List Int32} {km : Nat} {src lat : List Sg} {fo : List Fo} {pa : List Pr} {ze : List Int32} {ra : List Rg} {sr : List Sr} {ch : List (Option Fi)} (v : Int32) (hS : Ms G h o (u, km, src, lat, (fo, pa, ze, ra, sr), ch)) : Ct l G yX9_grown cX9_grown 2 (Option.some Jvm.ClassFile.FieldType.int) { frames := 2, cells := 0, slots := 0, locals := 42 } [.ref o, .int v] h (fun r h' => OpM G o h (opGrown (u, km, src, lat, (fo, pa, ze, ra, sr), ch) v, (u, km, src, lat, (fo, pa, ze, ra, sr), ch)) r h') := by
  obtain ⟨I, A, hM, hU, hSr, hFo, hPa, hZe, hRa, hSt, hCh, hOu⟩ := id hS
  dsimp only at hU hSr hFo hPa hZe hRa hSt hCh hOu
  have hf : Mf o h h := Fr.rf
  refine Ct.of [some (.ref o), some (.int v)] (by decide +kernel) (Nat.le_of_ble_eq_true rfl) (fun p e s m args below meth c bs C hini => ?_)
  refine x_iload_n C dX9_grown_0 (kk := ?_)
  refine x_callS C ml_X9_isPlace lk_X9_181 (m_isPlace l G v) dX9_grown_1 (fun r1 h1 hp1 => ?_)
  obtain ⟨rfl, rfl⟩ := hp1
  refine x_ifB_ne C dX9_grown_4 12 (fun hc4 => ?_) (fun hc4 => ?_)
  · obtain ⟨j, hj, rfl⟩ := plc hc4
    have hcl : (nI j).toNatClampNeg = j := nI_clamp (by omega)
    obtain ⟨fo9, ho⟩ : ∃ fo9, ch[j]? = some fo9 := ⟨ch[j]'(by have := hCh.1; omega), List.getElem?_eq_getElem (by have := hCh.1; omega)⟩
    refine x_aload_n C dX9_grown_12 (kk := ?_)
    refine x_get C fl_X9_61 dX9_grown_13 (hh := hM.1) (kk := ?_)
    refine x_iload_n C dX9_grown_16 (kk := ?_)
    refine x_mld C 17 j hM dX9_grown_17 rfl (n := 8) (by omega) (kk := ?_)
    cases fo9 with
    | none =>
      rw [hCh.2.1 j ho]
      refine x_if_ne C dX9_grown_18 26 (fun z => absurd rfl z) (fun _ => ?_)
      refine x_bipush C dX9_grown_21 (v := -11) (kk := ?_)
      refine x_goto C dX9_grown_23 47 ?_
      refine x_iret C rfl dX9_grown_47 (hp := ?_)
      exact ⟨by simp only [opGrown, if_pos hc4, hcl, List.getD_eq_getElem?_getD, ho, Option.getD_some], hS, hf⟩
    | some fi =>
      obtain ⟨⟨k, hk6, hke, hck⟩, -, hmm, hgg⟩ := hCh.2.2 j fi ho
      rw [hck]
      refine x_if_ne C dX9_grown_18 26 (fun _ => ?_) (fun z => absurd z (nI_p0 hk6))
      refine x_aload_n C dX9_grown_26 (kk := ?_)
      refine x_get C fl_X9_61 dX9_grown_27 (hh := hM.1) (kk := ?_)
      refine x_iload_n C dX9_grown_30 (kk := ?_)
      refine x_mld C 17 j hM dX9_grown_31 rfl (n := 8) (by omega) (kk := ?_)
      rw [hck]
      by_cases e0 : fi.1 = 0
      · have hk0 : k = 0 := (nI_eq (a := k) (b := 0) (by omega) (by omega)).mp (hke.symm.trans e0)
        subst hk0
        refine x_iconst C dX9_grown_32 (v := 1) (kk := ?_)
        refine x_icmp_eq C dX9_grown_33 41 (fun _ => ?_) (fun z => absurd rfl z)
        refine x_aload_n C dX9_grown_41 (kk := ?_)
        refine x_get C fl_X9_70 dX9_grown_42 (hh := hM.1) (kk := ?_)
        refine x_iload_n C dX9_grown_45 (kk := ?_)
        refine x_mld C 20 (j) hM dX9_grown_46 rfl (n := 8) (by omega) (kk := ?_)
        refine x_iret C rfl dX9_grown_47 (hp := ?_)
        exact ⟨by simp only [opGrown, if_pos hc4, hcl, List.getD_eq_getElem?_getD, ho, Option.getD_some, if_pos e0, hgg], hS, hf⟩
      have hk0 : k ≠ 0 := fun z => e0 (by rw [hke, z]; rfl)
      refine x_iconst C dX9_grown_32 (v := 1) (kk := ?_)
      refine x_icmp_eq C dX9_grown_33 41 (fun z => absurd ((nI_eq (a := k + 1) (b := 1) (by omega) (by omega)).mp z) (by omega)) (fun _ => ?_)
      refine x_bipush C dX9_grown_36 (v := -12) (kk := ?_)
      refine x_goto C dX9_grown_38 47 ?_
      refine x_iret C rfl dX9_grown_47 (hp := ?_)
      exact ⟨by simp only [opGrown, if_pos hc4, hcl, List.getD_eq_getElem?_getD, ho, Option.getD_some, if_neg e0], hS, hf⟩
  refine x_bipush C dX9_grown_7 (v := -13) (kk := ?_)
  refine x_goto C dX9_grown_9 47 ?_
  refine x_iret C rfl dX9_grown_47 (hp := ?_)
  exact ⟨by simp only [opGrown, if_neg hc4], hS, hf⟩
set_option maxRecDepth 100000 in
set_option maxHeartbeats 4000000 in
theorem m_count (l : Launch) (G : xG) {h : xh} {o : Nat} {u : List Int32} {km : Nat} {src lat : List Sg} {fo : List Fo} {pa : List Pr} {ze : List Int32} {ra : List Rg} {sr : List Sr} {ch : List (Option Fi)} (v : Int32) (hS : Ms G h o (u, km, src, lat, (fo, pa, ze, ra, sr), ch)) : Ct l G yX9_count cX9_count 4 (Option.some Jvm.ClassFile.FieldType.int) { frames := 0, cells := 0, slots := 0, locals := 0 } [.ref o, .int v] h (fun r h' => OpM G o h (opCount (u, km, src, lat, (fo, pa, ze, ra, sr), ch) v, (u, km, src, lat, (fo, pa, ze, ra, sr), ch)) r h') := by
  obtain ⟨I, A, hM, hU, hSr, hFo, hPa, hZe, hRa, hSt, hCh, hOu⟩ := id hS
  dsimp only at hU hSr hFo hPa hZe hRa hSt hCh hOu
  have hf : Mf o h h := Fr.rf
  refine Ct.of [some (.ref o), some (.int v), none, none] (by decide +kernel) (Nat.le_of_ble_eq_true rfl) (fun p e s m args below meth c bs C hini => ?_)
  have loop : ∀ (n k : Nat), 8 - k < n → k ≤ 8 → v = 7 → X p l e { frames := 0, cells := 0, slots := 0, locals := 0 } s m args below meth c G bs (MQ below (x_Q G bs (fun r h' => OpM G o h (opCount (u, km, src, lat, (fo, pa, ze, ra, sr), ch) v, (u, km, src, lat, (fo, pa, ze, ra, sr), ch)) r h')) args s 0 0 (fun q => bs ≤ q)) 0 0 91 [some (.ref o), some (.int v), some (.int (nI (nFil (ch.take k)))), some (.int (nI k))] [] h := by
    intro n
    induction n with
    | zero => intro k hn; omega
    | succ n ih =>
      intro k hn hk h7
      refine x_iload_n C dX9_count_91 (kk := ?_)
      refine x_bipush C dX9_count_92 (v := 8) (kk := ?_)
      refine x_ncmp_ge C k 8 dX9_count_94 120 (fun hc94 => ?_) (fun hc94 => ?_)
      · refine x_iload_n C dX9_count_120 (kk := ?_)
        refine x_iret C rfl dX9_count_121 (hp := ?_)
        exact ⟨by rw [List.take_of_length_le (by have := hCh.1; omega), h7]; rfl, hS, hf⟩
      obtain ⟨fo9, ho⟩ : ∃ fo9, ch[k]? = some fo9 := ⟨ch[k]'(by have := hCh.1; omega), List.getElem?_eq_getElem (by have := hCh.1; omega)⟩
      have hnx := nFil_take ho
      refine x_iload_n C dX9_count_97 (kk := ?_)
      refine x_aload_n C dX9_count_98 (kk := ?_)
      refine x_get C fl_X9_61 dX9_count_99 (hh := hM.1) (kk := ?_)
      refine x_iload_n C dX9_count_102 (kk := ?_)
      refine x_mld C 17 k hM dX9_count_103 rfl (n := 8) (by omega) (kk := ?_)
      cases fo9 with
      | none =>
        rw [hCh.2.1 k ho]
        refine x_if_le C dX9_count_104 111 (fun _ => ?_) (fun z => absurd (by decide) z)
        refine x_iconst C dX9_count_111 (v := 0) (kk := ?_)
        refine x_iadd C dX9_count_112 ?_
        refine x_top _ (show _ = nI (nFil (ch.take (k + 1))) from by rw [hnx]; first | exact nI_1 _ | exact nI_add _ 0 | rfl) ?_
        refine x_istore_n C dX9_count_113 (kk := ?_)
        refine x_iinc1 C dX9_count_114 (kk := ?_)
        refine x_goto C dX9_count_117 91 ?_
        exact ih (k + 1) (by omega) (by omega) h7
      | some fi =>
        obtain ⟨⟨k2, hk6, hke, hck⟩, -⟩ := hCh.2.2 k fi ho
        rw [hck]
        refine x_if_le C dX9_count_104 111 (fun z => absurd z (Int32.not_le.mpr (nI_lt (a := 0) (b := k2 + 1) (by omega) (by omega)))) (fun _ => ?_)
        refine x_iconst C dX9_count_107 (v := 1) (kk := ?_)
        refine x_goto C dX9_count_108 112 ?_
        refine x_iadd C dX9_count_112 ?_
        refine x_top _ (show _ = nI (nFil (ch.take (k + 1))) from by rw [hnx]; first | exact nI_1 _ | exact nI_add _ 0 | rfl) ?_
        refine x_istore_n C dX9_count_113 (kk := ?_)
        refine x_iinc1 C dX9_count_114 (kk := ?_)
        refine x_goto C dX9_count_117 91 ?_
        exact ih (k + 1) (by omega) (by omega) h7
  refine x_iload_n C dX9_count_0 (kk := ?_)
  rcases pk_ix v (n := 9) (by omega) with hv | hv | ⟨j, hj, rfl⟩
  · have hs : ∀ k : Nat, k < 9 → ¬ v = nI k := fun k hk z => absurd hv (by rw [z]; exact nI_pos (by omega))
    refine x_tabO C dX9_count_1 127 (Or.inl (by simpa [Int32.lt_iff_toInt_lt] using hv)) ?_
    refine x_iconst C dX9_count_127 (v := -1) (kk := ?_)
    refine x_iret C rfl dX9_count_128 (hp := ?_)
    have z0 : ¬ v = 0 := hs 0 (by omega)
    have z1 : ¬ v = 1 := hs 1 (by omega)
    have z2 : ¬ v = 2 := hs 2 (by omega)
    have z3 : ¬ v = 3 := hs 3 (by omega)
    have z4 : ¬ v = 4 := hs 4 (by omega)
    have z5 : ¬ v = 5 := hs 5 (by omega)
    have z6 : ¬ v = 6 := hs 6 (by omega)
    have z7 : ¬ v = 7 := hs 7 (by omega)
    have z8 : ¬ v = 8 := hs 8 (by omega)
    exact ⟨by simp only [opCount, if_neg z0, if_neg z1, if_neg z2, if_neg z3, if_neg z4, if_neg z5, if_neg z6, if_neg z7, if_neg z8], hS, hf⟩
  · have hs : ∀ k : Nat, k < 9 → ¬ v = nI k := fun k hk z => nI_ge (a := k) (b := 9) hk (by omega) (by rw [← z]; exact hv)
    refine x_tabO C dX9_count_1 127 (Or.inr (by have h1 := Int32.le_iff_toInt_le.mp hv; rw [nI_toInt (by omega)] at h1; omega)) ?_
    refine x_iconst C dX9_count_127 (v := -1) (kk := ?_)
    refine x_iret C rfl dX9_count_128 (hp := ?_)
    have z0 : ¬ v = 0 := hs 0 (by omega)
    have z1 : ¬ v = 1 := hs 1 (by omega)
    have z2 : ¬ v = 2 := hs 2 (by omega)
    have z3 : ¬ v = 3 := hs 3 (by omega)
    have z4 : ¬ v = 4 := hs 4 (by omega)
    have z5 : ¬ v = 5 := hs 5 (by omega)
    have z6 : ¬ v = 6 := hs 6 (by omega)
    have z7 : ¬ v = 7 := hs 7 (by omega)
    have z8 : ¬ v = 8 := hs 8 (by omega)
    exact ⟨by simp only [opCount, if_neg z0, if_neg z1, if_neg z2, if_neg z3, if_neg z4, if_neg z5, if_neg z6, if_neg z7, if_neg z8], hS, hf⟩
  have hj9 : j = 0 ∨ j = 1 ∨ j = 2 ∨ j = 3 ∨ j = 4 ∨ j = 5 ∨ j = 6 ∨ j = 7 ∨ j = 8 := by omega
  rcases hj9 with rfl | rfl | rfl | rfl | rfl | rfl | rfl | rfl | rfl
  · refine x_tabI C 0 dX9_count_1 52 (by decide) (by decide) rfl ?_
    refine x_aload_n C dX9_count_52 (kk := ?_)
    refine x_get C fl_X9_106 dX9_count_53 (hh := hM.1) (kk := ?_)
    refine x_top _ hU.1 ?_
    refine x_iret C rfl dX9_count_56 (hp := ?_)
    exact ⟨rfl, hS, hf⟩
  · refine x_tabI C 1 dX9_count_1 57 (by decide) (by decide) rfl ?_
    refine x_aload_n C dX9_count_57 (kk := ?_)
    refine x_get C fl_X9_135 dX9_count_58 (hh := hM.1) (kk := ?_)
    refine x_top _ hSr.1 ?_
    refine x_iret C rfl dX9_count_61 (hp := ?_)
    exact ⟨rfl, hS, hf⟩
  · refine x_tabI C 2 dX9_count_1 62 (by decide) (by decide) rfl ?_
    refine x_aload_n C dX9_count_62 (kk := ?_)
    refine x_get C fl_X9_155 dX9_count_63 (hh := hM.1) (kk := ?_)
    refine x_top _ hFo.1 ?_
    refine x_iret C rfl dX9_count_66 (hp := ?_)
    exact ⟨rfl, hS, hf⟩
  · refine x_tabI C 3 dX9_count_1 67 (by decide) (by decide) rfl ?_
    refine x_aload_n C dX9_count_67 (kk := ?_)
    refine x_get C fl_X9_168 dX9_count_68 (hh := hM.1) (kk := ?_)
    refine x_top _ hPa.1 ?_
    refine x_iret C rfl dX9_count_71 (hp := ?_)
    exact ⟨rfl, hS, hf⟩
  · refine x_tabI C 4 dX9_count_1 72 (by decide) (by decide) rfl ?_
    refine x_aload_n C dX9_count_72 (kk := ?_)
    refine x_get C fl_X9_175 dX9_count_73 (hh := hM.1) (kk := ?_)
    refine x_top _ hZe.1 ?_
    refine x_iret C rfl dX9_count_76 (hp := ?_)
    exact ⟨rfl, hS, hf⟩
  · refine x_tabI C 5 dX9_count_1 77 (by decide) (by decide) rfl ?_
    refine x_aload_n C dX9_count_77 (kk := ?_)
    refine x_get C fl_X9_178 dX9_count_78 (hh := hM.1) (kk := ?_)
    refine x_top _ hRa.1 ?_
    refine x_iret C rfl dX9_count_81 (hp := ?_)
    exact ⟨rfl, hS, hf⟩
  · refine x_tabI C 6 dX9_count_1 82 (by decide) (by decide) rfl ?_
    refine x_aload_n C dX9_count_82 (kk := ?_)
    refine x_get C fl_X9_149 dX9_count_83 (hh := hM.1) (kk := ?_)
    refine x_top _ hSt.1 ?_
    refine x_iret C rfl dX9_count_86 (hp := ?_)
    exact ⟨rfl, hS, hf⟩
  · refine x_tabI C 7 dX9_count_1 87 (by decide) (by decide) rfl ?_
    refine x_iconst C dX9_count_87 (v := 0) (kk := ?_)
    refine x_istore_n C dX9_count_88 (kk := ?_)
    refine x_iconst C dX9_count_89 (v := 0) (kk := ?_)
    refine x_istore_n C dX9_count_90 (kk := ?_)
    exact loop 9 0 (by omega) (by omega) rfl
  · refine x_tabI C 8 dX9_count_1 122 (by decide) (by decide) rfl ?_
    refine x_aload_n C dX9_count_122 (kk := ?_)
    refine x_get C fl_X9_226 dX9_count_123 (hh := hM.1) (kk := ?_)
    refine x_top _ hOu.1 ?_
    refine x_iret C rfl dX9_count_126 (hp := ?_)
    exact ⟨rfl, hS, hf⟩
set_option maxRecDepth 100000 in
set_option maxHeartbeats 4000000 in
theorem m_text (l : Launch) (G : xG) {h : xh} {o : Nat} {u : List Int32} {km : Nat} {src lat : List Sg} {fo : List Fo} {pa : List Pr} {ze : List Int32} {ra : List Rg} {sr : List Sr} {ch : List (Option Fi)} (hS : Ms G h o (u, km, src, lat, (fo, pa, ze, ra, sr), ch)) : Ct l G yX9_text cX9_text 2 (Option.some Jvm.ClassFile.FieldType.int) { frames := 4, cells := 0, slots := 0, locals := 86 } [.ref o] h (fun r h' => OpM G o h (opText (u, km, src, lat, (fo, pa, ze, ra, sr), ch)) r h') := by
  obtain ⟨I, A, hM, hU, hSr, hFo, hPa, hZe, hRa, hSt, hCh, hOu⟩ := id hS
  dsimp only at hU hSr hFo hPa hZe hRa hSt hCh hOu
  have hf : Mf o h h := Fr.rf
  have hul := hU.2.1
  refine Ct.of [some (.ref o), none] (by decide +kernel) (Nat.le_of_ble_eq_true rfl) (fun p e s m args below meth c bs C hini => ?_)
  have loop : ∀ (n i : Nat) (h1 : xh) (I : Nat → Int32) (A : Nat → Nat → Int32) (acc : List Sg), u.length - i < n → i ≤ u.length → acc.length ≤ i → MO G h1 o I A → Mr I A (u, km, acc, lat, (fo, pa, ze, ra, sr), ch) → acc ++ sg2 (u.drop i) (nI i) = sg2 u 0 → Mf o h h1 → X p l e { frames := 4, cells := 0, slots := 0, locals := 86 } s m args below meth c G bs (MQ below (x_Q G bs (fun r h' => OpM G o h (opText (u, km, src, lat, (fo, pa, ze, ra, sr), ch)) r h')) args s 0 0 (fun q => bs ≤ q)) 0 0 7 [some (.ref o), some (.int (nI i))] [] h1 := by
    intro n
    induction n with
    | zero => intro i h1 I A acc hn; omega
    | succ n ih =>
      intro i h1 I A acc hn hi hal hM hR heq hf
      obtain ⟨hU, hSr, hFo, hPa, hZe, hRa, hSt, hCh, hOu⟩ := hR
      dsimp only at hU hSr hFo hPa hZe hRa hSt hCh hOu
      refine x_iload_n C dX9_text_7 (kk := ?_)
      refine x_aload_n C dX9_text_8 (kk := ?_)
      refine x_get C fl_X9_106 dX9_text_9 (hh := hM.1) (kk := ?_)
      refine x_top _ hU.1 ?_
      refine x_ncmp_ge C i u.length dX9_text_12 86 (fun hc12 => ?_) (fun hc12 => ?_)
      · skip
        rw [List.drop_eq_nil_of_le hc12] at heq
        simp only [sg2, List.append_nil] at heq
        subst heq
        refine x_aload_n C dX9_text_86 (kk := ?_)
        refine x_callV C ml_X9_emptyDraft lk_X9_142 (m_emptyDraft l G hM) dX9_text_87 (fun r87 h87 hp87 => ?_) (hh := hM.1)
        obtain ⟨rfl, hM, hf2⟩ := hp87
        have hf := hf.tr hf2
        refine x_aload_n C dX9_text_90 (kk := ?_)
        refine x_get C fl_X9_135 dX9_text_91 (hh := hM.1) (kk := ?_)
        refine x_top _ hSr.1 ?_
        refine x_iret C rfl dX9_text_94 (hp := ?_)
        exact ⟨rfl, ⟨_, _, hM, ⟨rfl, Nat.zero_le _, fL_nil _, rfl, Nat.le_refl _⟩, hSr, hFo, hPa, hZe, hRa, hSt, hCh, hOu⟩, hf⟩
      refine x_aload_n C dX9_text_15 (kk := ?_)
      refine x_get C fl_X9_13 dX9_text_16 (hh := hM.1) (kk := ?_)
      refine x_aload_n C dX9_text_19 (kk := ?_)
      refine x_get C fl_X9_135 dX9_text_20 (hh := hM.1) (kk := ?_)
      refine x_top _ hSr.1 ?_
      refine x_aload_n C dX9_text_23 (kk := ?_)
      refine x_iload_n C dX9_text_24 (kk := ?_)
      refine x_aload_n C dX9_text_25 (kk := ?_)
      refine x_get C fl_X9_106 dX9_text_26 (hh := hM.1) (kk := ?_)
      refine x_top _ hU.1 ?_
      refine x_callV C ml_X9_signAt lk_X9_138 (m_signAt l G hc12 hul hM) dX9_text_29 (fun r29 h29 hp29 => ?_) (hh := hM.1)
      obtain ⟨ht, hq⟩ := hp29
      subst hq
      rcases ht with ⟨rfl, ht⟩ | ⟨rfl, ht⟩
      · skip
        rw [sg2_yes hU.2.2.1 ht] at heq
        refine x_mst C 1 (acc.length) hM hf dX9_text_32 rfl (n := 100) (by omega) (kk := fun h hM hf => ?_)
        refine x_aload_n C dX9_text_33 (kk := ?_)
        refine x_get C fl_X9_16 dX9_text_34 (hh := hM.1) (kk := ?_)
        refine x_aload_n C dX9_text_37 (kk := ?_)
        refine x_get C fl_X9_135 dX9_text_38 (hh := hM.1) (kk := ?_)
        refine x_top _ hSr.1 ?_
        refine x_iload_n C dX9_text_41 (kk := ?_)
        refine x_mst C 2 (acc.length) hM hf dX9_text_42 rfl (n := 100) (by omega) (kk := fun h hM hf => ?_)
        refine x_iload_n C dX9_text_43 (kk := ?_)
        refine x_aload_n C dX9_text_44 (kk := ?_)
        refine x_iload_n C dX9_text_45 (kk := ?_)
        refine x_aload_n C dX9_text_46 (kk := ?_)
        refine x_get C fl_X9_106 dX9_text_47 (hh := hM.1) (kk := ?_)
        refine x_top _ hU.1 ?_
        refine x_callV C ml_X9_isTwo lk_X9_130 (m_isTwo l G hc12 hul hM) dX9_text_50 (fun r50 h50 hp50 => ?_) (hh := hM.1)
        obtain ⟨ht2, hq⟩ := hp50
        subst hq
        rcases ht2 with ⟨rfl, ht2⟩ | ⟨rfl, ht2⟩
        rotate_left
        · exact absurd ht ht2
        refine x_if_eq C dX9_text_53 60 (fun z => absurd z (by decide)) (fun _ => ?_)
        refine x_iconst C dX9_text_56 (v := 2) (kk := ?_)
        refine x_goto C dX9_text_57 61 ?_
        refine x_iadd C dX9_text_61 ?_
        refine x_top _ (nI_add i 2) ?_
        refine x_istore_n C dX9_text_62 (kk := ?_)
        refine x_aload_n C dX9_text_63 (kk := ?_)
        refine x_get C fl_X9_19 dX9_text_64 (hh := hM.1) (kk := ?_)
        refine x_aload_n C dX9_text_67 (kk := ?_)
        refine x_get C fl_X9_135 dX9_text_68 (hh := hM.1) (kk := ?_)
        refine x_top _ hSr.1 ?_
        refine x_iload_n C dX9_text_71 (kk := ?_)
        refine x_mst C 3 (acc.length) hM hf dX9_text_72 rfl (n := 100) (by omega) (kk := fun h hM hf => ?_)
        refine x_aload_n C dX9_text_73 (kk := ?_)
        refine x_dup C dX9_text_74 (kk := ?_)
        refine x_get C fl_X9_135 dX9_text_75 (hh := hM.1) (kk := ?_)
        refine x_top _ hSr.1 ?_
        refine x_iconst C dX9_text_78 (v := 1) (kk := ?_)
        refine x_iadd C dX9_text_79 ?_
        refine x_top _ (nI_1 acc.length) ?_
        refine x_mpi C 2 hM hf fp_X9_135 dX9_text_80 (kk := fun h hM hf => ?_)
        refine x_goto C dX9_text_83 7 ?_
        first | exact ih (i + 2) _ _ _ (acc ++ [(two (A 0 i) (A 0 (i + 1)), nI i, nI (i + 2))]) (by omega) (by have := ht.1; omega) (by simp; omega) hM ⟨hU, ⟨by rw [List.length_append]; rfl, by simp; omega, by rw [List.map_append]; exact fL_app hSr.2.2.1 (by simp), by rw [List.map_append]; exact fL_app hSr.2.2.2.1 (by simp), by rw [List.map_append]; exact fL_app hSr.2.2.2.2 (by simp)⟩, hFo, hPa, hZe, hRa, hSt, hCh, hOu⟩ (by rw [← heq]; simp) hf | exact ih (i + 1) _ _ _ (acc ++ [(A 0 i, nI i, nI (i + 1))]) (by omega) (by omega) (by simp; omega) hM ⟨hU, ⟨by rw [List.length_append]; rfl, by simp; omega, by rw [List.map_append]; exact fL_app hSr.2.2.1 (by simp), by rw [List.map_append]; exact fL_app hSr.2.2.2.1 (by simp), by rw [List.map_append]; exact fL_app hSr.2.2.2.2 (by simp)⟩, hFo, hPa, hZe, hRa, hSt, hCh, hOu⟩ (by rw [← heq]; simp) hf
      rw [sg2_no hU.2.2.1 hc12 ht] at heq
      refine x_mst C 1 (acc.length) hM hf dX9_text_32 rfl (n := 100) (by omega) (kk := fun h hM hf => ?_)
      refine x_aload_n C dX9_text_33 (kk := ?_)
      refine x_get C fl_X9_16 dX9_text_34 (hh := hM.1) (kk := ?_)
      refine x_aload_n C dX9_text_37 (kk := ?_)
      refine x_get C fl_X9_135 dX9_text_38 (hh := hM.1) (kk := ?_)
      refine x_top _ hSr.1 ?_
      refine x_iload_n C dX9_text_41 (kk := ?_)
      refine x_mst C 2 (acc.length) hM hf dX9_text_42 rfl (n := 100) (by omega) (kk := fun h hM hf => ?_)
      refine x_iload_n C dX9_text_43 (kk := ?_)
      refine x_aload_n C dX9_text_44 (kk := ?_)
      refine x_iload_n C dX9_text_45 (kk := ?_)
      refine x_aload_n C dX9_text_46 (kk := ?_)
      refine x_get C fl_X9_106 dX9_text_47 (hh := hM.1) (kk := ?_)
      refine x_top _ hU.1 ?_
      refine x_callV C ml_X9_isTwo lk_X9_130 (m_isTwo l G hc12 hul hM) dX9_text_50 (fun r50 h50 hp50 => ?_) (hh := hM.1)
      obtain ⟨ht2, hq⟩ := hp50
      subst hq
      rcases ht2 with ⟨rfl, ht2⟩ | ⟨rfl, ht2⟩
      · exact absurd ht2 ht
      refine x_if_eq C dX9_text_53 60 (fun _ => ?_) (fun z => absurd rfl z)
      refine x_iconst C dX9_text_60 (v := 1) (kk := ?_)
      refine x_iadd C dX9_text_61 ?_
      refine x_top _ (nI_add i 1) ?_
      refine x_istore_n C dX9_text_62 (kk := ?_)
      refine x_aload_n C dX9_text_63 (kk := ?_)
      refine x_get C fl_X9_19 dX9_text_64 (hh := hM.1) (kk := ?_)
      refine x_aload_n C dX9_text_67 (kk := ?_)
      refine x_get C fl_X9_135 dX9_text_68 (hh := hM.1) (kk := ?_)
      refine x_top _ hSr.1 ?_
      refine x_iload_n C dX9_text_71 (kk := ?_)
      refine x_mst C 3 (acc.length) hM hf dX9_text_72 rfl (n := 100) (by omega) (kk := fun h hM hf => ?_)
      refine x_aload_n C dX9_text_73 (kk := ?_)
      refine x_dup C dX9_text_74 (kk := ?_)
      refine x_get C fl_X9_135 dX9_text_75 (hh := hM.1) (kk := ?_)
      refine x_top _ hSr.1 ?_
      refine x_iconst C dX9_text_78 (v := 1) (kk := ?_)
      refine x_iadd C dX9_text_79 ?_
      refine x_top _ (nI_1 acc.length) ?_
      refine x_mpi C 2 hM hf fp_X9_135 dX9_text_80 (kk := fun h hM hf => ?_)
      refine x_goto C dX9_text_83 7 ?_
      first | exact ih (i + 2) _ _ _ (acc ++ [(two (A 0 i) (A 0 (i + 1)), nI i, nI (i + 2))]) (by omega) (by have := ht.1; omega) (by simp; omega) hM ⟨hU, ⟨by rw [List.length_append]; rfl, by simp; omega, by rw [List.map_append]; exact fL_app hSr.2.2.1 (by simp), by rw [List.map_append]; exact fL_app hSr.2.2.2.1 (by simp), by rw [List.map_append]; exact fL_app hSr.2.2.2.2 (by simp)⟩, hFo, hPa, hZe, hRa, hSt, hCh, hOu⟩ (by rw [← heq]; simp) hf | exact ih (i + 1) _ _ _ (acc ++ [(A 0 i, nI i, nI (i + 1))]) (by omega) (by omega) (by simp; omega) hM ⟨hU, ⟨by rw [List.length_append]; rfl, by simp; omega, by rw [List.map_append]; exact fL_app hSr.2.2.1 (by simp), by rw [List.map_append]; exact fL_app hSr.2.2.2.1 (by simp), by rw [List.map_append]; exact fL_app hSr.2.2.2.2 (by simp)⟩, hFo, hPa, hZe, hRa, hSt, hCh, hOu⟩ (by rw [← heq]; simp) hf
  refine x_aload_n C dX9_text_0 (kk := ?_)
  refine x_iconst C dX9_text_1 (v := 0) (kk := ?_)
  refine x_mpi C 2 hM hf fp_X9_135 dX9_text_2 (kk := fun h hM hf => ?_)
  refine x_iconst C dX9_text_5 (v := 0) (kk := ?_)
  refine x_istore_n C dX9_text_6 (kk := ?_)
  exact loop (u.length + 1) 0 _ _ _ [] (by omega) (by omega) (by simp) hM ⟨hU, ⟨rfl, Nat.zero_le _, fL_nil _, fL_nil _, fL_nil _⟩, hFo, hPa, hZe, hRa, hSt, hCh, hOu⟩ rfl hf
