/-! STRINGS OF THE CLASS, III -/
theorem Sx_fin {G : xG} {h : xh} {z dy : Nat} {ss : List Sr} {f : Nat → Option Nat} {j q : Nat} {w : Sr} (hlen : ss.length ≤ 20) (hnd : (ss.map (·.1)).Nodup) (ho : h.1 z = some (eO 6 [.ref (z + 1), .int (nI ss.length)])) (hq : Rp G h q w) (hqd : dy ≤ q) (hzd : z + 2 ≤ dy) (hsz : q + 3 ≤ h.2) (hj : ss[j]? = some w) (hold : ∀ (i : Nat) (u : Sr), i ≠ j → ss[i]? = some u → ∃ q', f i = some q' ∧ dy ≤ q' ∧ q' + 3 ≤ h.2 ∧ Rp G h q' u) :
    Sx G (x_set h (z + 1) (eR G 2 20 (va_up f j (some q)))) z dy ss := by
  refine ⟨hlen, hnd, x_set_ne (by omega) ho, _, x_set_eq, fun i u hi => ?_⟩
  by_cases hij : i = j
  · subst hij
    rw [hj] at hi
    cases hi
    exact ⟨q, by simp [va_up], hqd, hsz, hq.same (fun b hb => x_set_ne (by unfold At at hb; omega) rfl)⟩
  · obtain ⟨q', a1, a2, a3, a4⟩ := hold i u hij hi
    exact ⟨q', by simp [va_up, hij, a1], a2, a3, a4.same (fun b hb => x_set_ne (by unfold At at hb; omega) rfl)⟩
set_option maxRecDepth 100000 in
set_option maxHeartbeats 4000000 in
theorem c_s_put (l : Launch) (G : xG) {h : xh} {z dy rb ra : Nat} {ss : List Sr} {yb ya : List Sg} (hbl : yb.length ≤ 100) (hb1 : 1 ≤ yb.length) (hal : ya.length ≤ 100) (hrbz : (z + 2 ≤ rb ∨ rb + 4 ≤ z) ∧ rb + 4 ≤ h.2) (hraz : (z + 2 ≤ ra ∨ ra + 4 ≤ z) ∧ ra + 4 ≤ h.2) (hzd : z + 2 ≤ dy) (hdy : dy ≤ h.2) (hz : Sx G h z dy ss) (hrb : Rw G h rb yb) (hra : Rw G h ra ya) : Ct l G yX6_put cX6_put 4 (Option.some Jvm.ClassFile.FieldType.boolean) { frames := 4, cells := 3, slots := 602, locals := 124 } [.ref z, .ref rb, .ref ra] h (fun v h' => ((yb.map (·.1) ∈ ss.map (·.1) ∨ ss.length < 20) ∧ v = some (.int 1) ∧ Sx G h' z dy (aput ss (yb.map (·.1)) (ya.map (·.1))) ∧ h'.2 = h.2 + 3 ∧ ∀ b, b < h.2 → ¬ At z 2 b → h'.1 b = h.1 b) ∨ (yb.map (·.1) ∉ ss.map (·.1) ∧ ss.length = 20 ∧ v = some (.int 0) ∧ h' = h)) := by
  have hz0 := hz
  obtain ⟨hn, hnd, g0, f, g1, g2⟩ := hz
  refine Ct.of [some (.ref z), some (.ref rb), some (.ref ra), none] (by decide +kernel) (Nat.le_of_ble_eq_true rfl) (fun p e s m args below meth c bs C hini => ?_)
  refine x_aload_n C dX6_put_0 (kk := ?_)
  refine x_aload_n C dX6_put_1 (kk := ?_)
  refine x_callV C ml_X6_slotOf lk_X6_21 (c_s_slotOf l G hz0 hrb) dX6_put_2 (fun r2 h2 hp2 => ?_)
  obtain ⟨x, rfl, hs, rfl⟩ := hp2
  refine x_istore_n C dX6_put_5 (kk := ?_)
  refine x_iload_n C dX6_put_6 (kk := ?_)
  refine x_iconst C dX6_put_7 (v := -1) (kk := ?_)
  rcases hs with ⟨rfl, hno⟩ | ⟨j, rfl, hj⟩
  rotate_left
  · have hjl : j < ss.length := by simpa using (List.getElem?_eq_some_iff.mp hj).1
    refine x_icmp_ne C dX6_put_8 37 (fun hc8 => ?_) (fun hc8 => absurd hc8 (nI_m1 (by omega)))
    have hrb7 := hrb
    have hra7 := hra
    have ho7 := g0
    have hz17 := g1
    have hnew : ∀ b, b ≠ z → h2.1 b = h2.1 b := fun _ _ => rfl
    refine x_aload_n C dX6_put_37 (kk := ?_)
    refine x_get C fl_X6_11 dX6_put_38 (kk := ?_)
    refine x_iload_n C dX6_put_41 (kk := ?_)
    refine x_obj C (fs := [.null, .null]) tyX4 (ci := 4) rfl inT4 tyX4_ok tw_76 tw_191 tw_9 (fun j hj => match j, hj with | 0, _ => rfl | 1, _ => rfl | k + 2, h => absurd h (by omega)) dX6_put_42 (kk := ?_)
    refine x_dup C dX6_put_45 (kk := ?_)
    refine x_aload_n C dX6_put_46 (kk := ?_)
    refine x_aload_n C dX6_put_47 (kk := ?_)
    refine x_callI C ml_X4_init lk_X6_25 (c_rp_init l G (q := h2.2) (rb := rb) (ra := ra) rfl (x_new_eq rfl) (by omega) (by omega) hbl hal hb1 (hrb7.same (fun b hb => x_new_ne (by show b ≠ h2.2; unfold At at hb; omega) rfl)) (hra7.same (fun b hb => x_new_ne (by show b ≠ h2.2; unfold At at hb; omega) rfl))) dX6_put_48 (fun r48 h48 hp48 => ?_)
    obtain ⟨rfl, hrp, hsz0, hsm⟩ := hp48
    have hsz : h48.2 = h2.2 + 3 := hsz0
    have hz148 := (hsm (z + 1) (by omega)).trans (x_new_ne (by show z + 1 ≠ h2.2; omega) hz17)
    have hz48 := (hsm z (by omega)).trans (x_new_ne (by show z ≠ h2.2; omega) ho7)
    have hrpo := hrp.2.2.2.1
    refine x_aast C _ dX6_put_51 (t := 2) (ci := 4) (r := (RX4, TX4, 2)) rfl rfl (hh := hz148) (hv := hrpo) (kk := ?_)
    refine x_iconst C dX6_put_52 (v := 1) (kk := ?_)
    refine x_zret C rfl dX6_put_53 (by first | exact Or.inl rfl | exact Or.inr rfl | assumption | exact ite01 _) (hp := ?_)
    first
    | exact Or.inl ⟨Or.inl (List.mem_of_getElem? hj), rfl, by rw [aput_old hnd hj]; exact Sx_fin (h := h48) (by simp; exact hn) (by rw [← aput_old hnd hj]; exact aput_keys hnd) (by rw [List.length_set]; exact hz48) hrp hdy hzd (by show h2.2 + 3 ≤ h48.2; omega) (List.getElem?_set_self hjl) (fun i u hij hu => by
        rw [List.getElem?_set_ne (Ne.symm hij)] at hu
        obtain ⟨q', a1, a2, a3, a4⟩ := g2 i u hu
        exact ⟨q', a1, a2, by omega, a4.same (fun b hb => (hsm b (by unfold At at hb; omega)).trans ((x_new_ne (by show b ≠ h2.2; unfold At at hb; omega) rfl).trans (hnew b (by unfold At at hb; omega))))⟩), hsz, fun b hb hb2 => (x_set_ne (by intro z9; apply hb2; unfold At; omega) rfl).trans ((hsm b hb).trans ((x_new_ne (by show b ≠ h2.2; omega) rfl).trans (hnew b (by intro z9; apply hb2; unfold At; omega))))⟩
    | exact Or.inr ⟨hno, by omega, rfl, rfl⟩
    | exact Or.inl ⟨Or.inr (by omega), rfl, by rw [aput_new hno]; exact Sx_fin (h := h48) (by simp; omega) (by rw [← aput_new hno]; exact aput_keys hnd) (by rw [List.length_append]; exact hz48) hrp hdy hzd (by show h2.2 + 3 ≤ h48.2; omega) (by simp) (fun i u hij hu => by
        have hil : i < ss.length := by
          have := (List.getElem?_eq_some_iff.mp hu).1
          simp at this
          omega
        rw [List.getElem?_append_left hil] at hu
        obtain ⟨q', a1, a2, a3, a4⟩ := g2 i u hu
        exact ⟨q', a1, a2, by omega, a4.same (fun b hb => (hsm b (by unfold At at hb; omega)).trans ((x_new_ne (by show b ≠ h2.2; unfold At at hb; omega) rfl).trans (hnew b (by unfold At at hb; omega))))⟩), hsz, fun b hb hb2 => (x_set_ne (by intro z9; apply hb2; unfold At; omega) rfl).trans ((hsm b hb).trans ((x_new_ne (by show b ≠ h2.2; omega) rfl).trans (hnew b (by intro z9; apply hb2; unfold At; omega))))⟩
  refine x_icmp_ne C dX6_put_8 37 (fun hc8 => absurd rfl hc8) (fun hc8 => ?_)
  refine x_aload_n C dX6_put_11 (kk := ?_)
  refine x_get C fl_X6_17 dX6_put_12 (kk := ?_)
  refine x_bipush C dX6_put_15 (v := 20) (kk := ?_)
  refine x_ncmp_lt C ss.length 20 dX6_put_17 22 (fun hc17 => ?_) (fun hc17 => ?_)
  · refine x_aload_n C dX6_put_22 (kk := ?_)
    refine x_get C fl_X6_17 dX6_put_23 (kk := ?_)
    refine x_istore_n C dX6_put_26 (kk := ?_)
    refine x_aload_n C dX6_put_27 (kk := ?_)
    refine x_dup C dX6_put_28 (kk := ?_)
    refine x_get C fl_X6_17 dX6_put_29 (kk := ?_)
    refine x_iconst C dX6_put_32 (v := 1) (kk := ?_)
    refine x_iadd C dX6_put_33 ?_
    refine x_top _ (nI_1 ss.length) ?_
    refine x_put C fp_X6_17 dX6_put_34 (kk := ?_)
    have hrb7 : Rw G (x_set h2 z (eO 6 ([.ref (z + 1), .int (nI ss.length)].set 1 (.int (nI (ss.length + 1)))))) rb yb := hrb.same (fun b hb => x_set_ne (by unfold At at hb; omega) rfl)
    have hra7 : Rw G (x_set h2 z (eO 6 ([.ref (z + 1), .int (nI ss.length)].set 1 (.int (nI (ss.length + 1)))))) ra ya := hra.same (fun b hb => x_set_ne (by unfold At at hb; omega) rfl)
    have ho7 : (x_set h2 z (eO 6 ([.ref (z + 1), .int (nI ss.length)].set 1 (.int (nI (ss.length + 1)))))).1 z = some (eO 6 [.ref (z + 1), .int (nI (ss.length + 1))]) := x_set_eq
    have hz17 : (x_set h2 z (eO 6 ([.ref (z + 1), .int (nI ss.length)].set 1 (.int (nI (ss.length + 1)))))).1 (z + 1) = _ := x_set_ne (by omega) g1
    have hnew : ∀ b, b ≠ z → (x_set h2 z (eO 6 ([.ref (z + 1), .int (nI ss.length)].set 1 (.int (nI (ss.length + 1)))))).1 b = h2.1 b := fun b hb => x_set_ne hb rfl
    refine x_aload_n C dX6_put_37 (kk := ?_)
    refine x_get C fl_X6_11 dX6_put_38 (kk := ?_)
    refine x_iload_n C dX6_put_41 (kk := ?_)
    refine x_obj C (fs := [.null, .null]) tyX4 (ci := 4) rfl inT4 tyX4_ok tw_76 tw_191 tw_9 (fun j hj => match j, hj with | 0, _ => rfl | 1, _ => rfl | k + 2, h => absurd h (by omega)) dX6_put_42 (kk := ?_)
    refine x_dup C dX6_put_45 (kk := ?_)
    refine x_aload_n C dX6_put_46 (kk := ?_)
    refine x_aload_n C dX6_put_47 (kk := ?_)
    refine x_callI C ml_X4_init lk_X6_25 (c_rp_init l G (q := h2.2) (rb := rb) (ra := ra) rfl (x_new_eq rfl) (by omega) (by omega) hbl hal hb1 (hrb7.same (fun b hb => x_new_ne (by show b ≠ h2.2; unfold At at hb; omega) rfl)) (hra7.same (fun b hb => x_new_ne (by show b ≠ h2.2; unfold At at hb; omega) rfl))) dX6_put_48 (fun r48 h48 hp48 => ?_)
    obtain ⟨rfl, hrp, hsz0, hsm⟩ := hp48
    have hsz : h48.2 = h2.2 + 3 := hsz0
    have hz148 := (hsm (z + 1) (by omega)).trans (x_new_ne (by show z + 1 ≠ h2.2; omega) hz17)
    have hz48 := (hsm z (by omega)).trans (x_new_ne (by show z ≠ h2.2; omega) ho7)
    have hrpo := hrp.2.2.2.1
    refine x_aast C _ dX6_put_51 (t := 2) (ci := 4) (r := (RX4, TX4, 2)) rfl rfl (hh := hz148) (hv := hrpo) (kk := ?_)
    refine x_iconst C dX6_put_52 (v := 1) (kk := ?_)
    refine x_zret C rfl dX6_put_53 (by first | exact Or.inl rfl | exact Or.inr rfl | assumption | exact ite01 _) (hp := ?_)
    first
    | exact Or.inl ⟨Or.inl (List.mem_of_getElem? hj), rfl, by rw [aput_old hnd hj]; exact Sx_fin (h := h48) (by simp; exact hn) (by rw [← aput_old hnd hj]; exact aput_keys hnd) (by rw [List.length_set]; exact hz48) hrp hdy hzd (by show h2.2 + 3 ≤ h48.2; omega) (List.getElem?_set_self hjl) (fun i u hij hu => by
        rw [List.getElem?_set_ne (Ne.symm hij)] at hu
        obtain ⟨q', a1, a2, a3, a4⟩ := g2 i u hu
        exact ⟨q', a1, a2, by omega, a4.same (fun b hb => (hsm b (by unfold At at hb; omega)).trans ((x_new_ne (by show b ≠ h2.2; unfold At at hb; omega) rfl).trans (hnew b (by unfold At at hb; omega))))⟩), hsz, fun b hb hb2 => (x_set_ne (by intro z9; apply hb2; unfold At; omega) rfl).trans ((hsm b hb).trans ((x_new_ne (by show b ≠ h2.2; omega) rfl).trans (hnew b (by intro z9; apply hb2; unfold At; omega))))⟩
    | exact Or.inr ⟨hno, by omega, rfl, rfl⟩
    | exact Or.inl ⟨Or.inr (by omega), rfl, by rw [aput_new hno]; exact Sx_fin (h := h48) (by simp; omega) (by rw [← aput_new hno]; exact aput_keys hnd) (by rw [List.length_append]; exact hz48) hrp hdy hzd (by show h2.2 + 3 ≤ h48.2; omega) (by simp) (fun i u hij hu => by
        have hil : i < ss.length := by
          have := (List.getElem?_eq_some_iff.mp hu).1
          simp at this
          omega
        rw [List.getElem?_append_left hil] at hu
        obtain ⟨q', a1, a2, a3, a4⟩ := g2 i u hu
        exact ⟨q', a1, a2, by omega, a4.same (fun b hb => (hsm b (by unfold At at hb; omega)).trans ((x_new_ne (by show b ≠ h2.2; unfold At at hb; omega) rfl).trans (hnew b (by unfold At at hb; omega))))⟩), hsz, fun b hb hb2 => (x_set_ne (by intro z9; apply hb2; unfold At; omega) rfl).trans ((hsm b hb).trans ((x_new_ne (by show b ≠ h2.2; omega) rfl).trans (hnew b (by intro z9; apply hb2; unfold At; omega))))⟩
  · refine x_iconst C dX6_put_20 (v := 0) (kk := ?_)
    refine x_zret C rfl dX6_put_21 (by first | exact Or.inl rfl | exact Or.inr rfl | assumption | exact ite01 _) (hp := ?_)
    first
    | exact Or.inl ⟨Or.inl (List.mem_of_getElem? hj), rfl, by rw [aput_old hnd hj]; exact Sx_fin (h := h48) (by simp; exact hn) (by rw [← aput_old hnd hj]; exact aput_keys hnd) (by rw [List.length_set]; exact hz48) hrp hdy hzd (by show h2.2 + 3 ≤ h48.2; omega) (List.getElem?_set_self hjl) (fun i u hij hu => by
        rw [List.getElem?_set_ne (Ne.symm hij)] at hu
        obtain ⟨q', a1, a2, a3, a4⟩ := g2 i u hu
        exact ⟨q', a1, a2, by omega, a4.same (fun b hb => (hsm b (by unfold At at hb; omega)).trans ((x_new_ne (by show b ≠ h2.2; unfold At at hb; omega) rfl).trans (hnew b (by unfold At at hb; omega))))⟩), hsz, fun b hb hb2 => (x_set_ne (by intro z9; apply hb2; unfold At; omega) rfl).trans ((hsm b hb).trans ((x_new_ne (by show b ≠ h2.2; omega) rfl).trans (hnew b (by intro z9; apply hb2; unfold At; omega))))⟩
    | exact Or.inr ⟨hno, by omega, rfl, rfl⟩
    | exact Or.inl ⟨Or.inr (by omega), rfl, by rw [aput_new hno]; exact Sx_fin (h := h48) (by simp; omega) (by rw [← aput_new hno]; exact aput_keys hnd) (by rw [List.length_append]; exact hz48) hrp hdy hzd (by show h2.2 + 3 ≤ h48.2; omega) (by simp) (fun i u hij hu => by
        have hil : i < ss.length := by
          have := (List.getElem?_eq_some_iff.mp hu).1
          simp at this
          omega
        rw [List.getElem?_append_left hil] at hu
        obtain ⟨q', a1, a2, a3, a4⟩ := g2 i u hu
        exact ⟨q', a1, a2, by omega, a4.same (fun b hb => (hsm b (by unfold At at hb; omega)).trans ((x_new_ne (by show b ≠ h2.2; unfold At at hb; omega) rfl).trans (hnew b (by unfold At at hb; omega))))⟩), hsz, fun b hb hb2 => (x_set_ne (by intro z9; apply hb2; unfold At; omega) rfl).trans ((hsm b hb).trans ((x_new_ne (by show b ≠ h2.2; omega) rfl).trans (hnew b (by intro z9; apply hb2; unfold At; omega))))⟩
set_option maxRecDepth 100000 in
set_option maxHeartbeats 4000000 in
theorem c_o_init (l : Launch) (G : xG) {h : xh} {r : Nat} (hr : h.1 r = some (eO 1 [.null, .null, .null, .null, .int 0])) (hn : h.2 = r + 1) : Ct l G yX1_init cX1_init 1 (Option.none : Option Jvm.ClassFile.FieldType) { frames := 1, cells := 4, slots := 160, locals := 16 } [.ref r] h (fun v h' => v = none ∧ Ft G h' r [] ∧ h'.2 = r + 5 ∧ ∀ b, b < r → h'.1 b = h.1 b) := by
  refine Ct.of [some (.ref r)] (by decide +kernel) (Nat.le_of_ble_eq_true rfl) (fun p e s m args below meth c bs C hini => ?_)
  refine x_aload_n C dX1_init_0 (kk := ?_)
  refine x_oinit C tw_26 dX1_init_1 tw_20 tw_21 (kk := ?_)
  refine x_aload_n C dX1_init_4 (kk := ?_)
  refine x_bipush C dX1_init_5 (v := 40) (kk := ?_)
  refine x_newi C 40 tw_37 dX1_init_7 (kk := ?_)
  refine x_putF C hini fp_X1_9 dX1_init_9 (kk := ?_)
  refine x_aload_n C dX1_init_12 (kk := ?_)
  refine x_bipush C dX1_init_13 (v := 40) (kk := ?_)
  refine x_newi C 40 tw_37 dX1_init_15 (kk := ?_)
  refine x_putF C hini fp_X1_15 dX1_init_17 (fs := [.ref (r + 1), .null, .null, .null, .int 0]) (hh := by simp [x_set, x_new, *] <;> omega) (kk := ?_)
  refine x_aload_n C dX1_init_20 (kk := ?_)
  refine x_bipush C dX1_init_21 (v := 40) (kk := ?_)
  refine x_newi C 40 tw_37 dX1_init_23 (kk := ?_)
  refine x_putF C hini fp_X1_18 dX1_init_25 (fs := [.ref (r + 1), .ref (r + 2), .null, .null, .int 0]) (hh := by simp [x_set, x_new, *] <;> omega) (kk := ?_)
  refine x_aload_n C dX1_init_28 (kk := ?_)
  refine x_bipush C dX1_init_29 (v := 40) (kk := ?_)
  refine x_newi C 40 tw_37 dX1_init_31 (kk := ?_)
  refine x_putF C hini fp_X1_21 dX1_init_33 (fs := [.ref (r + 1), .ref (r + 2), .ref (r + 3), .null, .int 0]) (hh := by simp [x_set, x_new, *] <;> omega) (kk := ?_)
  refine x_aload_n C dX1_init_36 (kk := ?_)
  refine x_iconst C dX1_init_37 (v := 0) (kk := ?_)
  refine x_put C fp_X1_24 dX1_init_38 (fs := [.ref (r + 1), .ref (r + 2), .ref (r + 3), .ref (r + 4), .int 0]) (hh := by simp [x_set, x_new, *] <;> omega) (kk := ?_)
  refine x_vret C rfl dX1_init_41 (hp := ?_)
  exact ⟨rfl, ⟨by simp, by simp, by simp, by simp [x_set, x_new, hn]; rfl, (fun _ => 0), (fun _ => 0), (fun _ => 0), (fun _ => 0), by simp [x_set, x_new, hn], by simp [x_set, x_new, hn], by simp [x_set, x_new, hn], by simp [x_set, x_new, hn], fL_nil _, fL_nil _, fL_nil _, fL_nil _⟩, by simp [x_set, x_new, hn], fun b hb => by simp [x_set, x_new, hn, show b ≠ r by omega, show b ≠ r + 1 by omega, show b ≠ r + 2 by omega, show b ≠ r + 3 by omega, show b ≠ r + 4 by omega]⟩
set_option maxRecDepth 100000 in
set_option maxHeartbeats 4000000 in
theorem c_p_init (l : Launch) (G : xG) {h : xh} {r : Nat} (hr : h.1 r = some (eO 2 [.null, .null, .null, .int 0])) (hn : h.2 = r + 1) : Ct l G yX2_init cX2_init 1 (Option.none : Option Jvm.ClassFile.FieldType) { frames := 1, cells := 3, slots := 60, locals := 16 } [.ref r] h (fun v h' => v = none ∧ Pt G h' r [] ∧ h'.2 = r + 4 ∧ ∀ b, b < r → h'.1 b = h.1 b) := by
  refine Ct.of [some (.ref r)] (by decide +kernel) (Nat.le_of_ble_eq_true rfl) (fun p e s m args below meth c bs C hini => ?_)
  refine x_aload_n C dX2_init_0 (kk := ?_)
  refine x_oinit C tw_42 dX2_init_1 tw_20 tw_21 (kk := ?_)
  refine x_aload_n C dX2_init_4 (kk := ?_)
  refine x_bipush C dX2_init_5 (v := 20) (kk := ?_)
  refine x_newi C 20 tw_37 dX2_init_7 (kk := ?_)
  refine x_putF C hini fp_X2_9 dX2_init_9 (kk := ?_)
  refine x_aload_n C dX2_init_12 (kk := ?_)
  refine x_bipush C dX2_init_13 (v := 20) (kk := ?_)
  refine x_newi C 20 tw_37 dX2_init_15 (kk := ?_)
  refine x_putF C hini fp_X2_15 dX2_init_17 (fs := [.ref (r + 1), .null, .null, .int 0]) (hh := by simp [x_set, x_new, *] <;> omega) (kk := ?_)
  refine x_aload_n C dX2_init_20 (kk := ?_)
  refine x_bipush C dX2_init_21 (v := 20) (kk := ?_)
  refine x_newi C 20 tw_37 dX2_init_23 (kk := ?_)
  refine x_putF C hini fp_X2_18 dX2_init_25 (fs := [.ref (r + 1), .ref (r + 2), .null, .int 0]) (hh := by simp [x_set, x_new, *] <;> omega) (kk := ?_)
  refine x_aload_n C dX2_init_28 (kk := ?_)
  refine x_iconst C dX2_init_29 (v := 0) (kk := ?_)
  refine x_put C fp_X2_21 dX2_init_30 (fs := [.ref (r + 1), .ref (r + 2), .ref (r + 3), .int 0]) (hh := by simp [x_set, x_new, *] <;> omega) (kk := ?_)
  refine x_vret C rfl dX2_init_33 (hp := ?_)
  exact ⟨rfl, ⟨by simp, by simp, by simp [x_set, x_new, hn]; rfl, (fun _ => 0), (fun _ => 0), (fun _ => 0), by simp [x_set, x_new, hn], by simp [x_set, x_new, hn], by simp [x_set, x_new, hn], fL_nil _, fL_nil _, fL_nil _⟩, by simp [x_set, x_new, hn], fun b hb => by simp [x_set, x_new, hn, show b ≠ r by omega, show b ≠ r + 1 by omega, show b ≠ r + 2 by omega, show b ≠ r + 3 by omega]⟩
set_option maxRecDepth 100000 in
set_option maxHeartbeats 4000000 in
theorem c_r_init (l : Launch) (G : xG) {h : xh} {r : Nat} (hr : h.1 r = some (eO 3 [.null, .null, .int 0])) (hn : h.2 = r + 1) : Ct l G yX3_init cX3_init 1 (Option.none : Option Jvm.ClassFile.FieldType) { frames := 1, cells := 2, slots := 16, locals := 16 } [.ref r] h (fun v h' => v = none ∧ Rt G h' r [] ∧ h'.2 = r + 3 ∧ ∀ b, b < r → h'.1 b = h.1 b) := by
  refine Ct.of [some (.ref r)] (by decide +kernel) (Nat.le_of_ble_eq_true rfl) (fun p e s m args below meth c bs C hini => ?_)
  refine x_aload_n C dX3_init_0 (kk := ?_)
  refine x_oinit C tw_64 dX3_init_1 tw_20 tw_21 (kk := ?_)
  refine x_aload_n C dX3_init_4 (kk := ?_)
  refine x_bipush C dX3_init_5 (v := 8) (kk := ?_)
  refine x_newi C 8 tw_37 dX3_init_7 (kk := ?_)
  refine x_putF C hini fp_X3_9 dX3_init_9 (kk := ?_)
  refine x_aload_n C dX3_init_12 (kk := ?_)
  refine x_bipush C dX3_init_13 (v := 8) (kk := ?_)
  refine x_newi C 8 tw_37 dX3_init_15 (kk := ?_)
  refine x_putF C hini fp_X3_15 dX3_init_17 (fs := [.ref (r + 1), .null, .int 0]) (hh := by simp [x_set, x_new, *] <;> omega) (kk := ?_)
  refine x_aload_n C dX3_init_20 (kk := ?_)
  refine x_iconst C dX3_init_21 (v := 0) (kk := ?_)
  refine x_put C fp_X3_18 dX3_init_22 (fs := [.ref (r + 1), .ref (r + 2), .int 0]) (hh := by simp [x_set, x_new, *] <;> omega) (kk := ?_)
  refine x_vret C rfl dX3_init_25 (hp := ?_)
  exact ⟨rfl, ⟨by simp, by simp [x_set, x_new, hn]; rfl, (fun _ => 0), (fun _ => 0), by simp [x_set, x_new, hn], by simp [x_set, x_new, hn], fL_nil _, fL_nil _⟩, by simp [x_set, x_new, hn], fun b hb => by simp [x_set, x_new, hn, show b ≠ r by omega, show b ≠ r + 1 by omega, show b ≠ r + 2 by omega]⟩
set_option maxRecDepth 100000 in
set_option maxHeartbeats 4000000 in
theorem c_z_init (l : Launch) (G : xG) {h : xh} {r : Nat} (hr : h.1 r = some (eO 7 [.null, .int 0])) (hn : h.2 = r + 1) : Ct l G yX7_init cX7_init 1 (Option.none : Option Jvm.ClassFile.FieldType) { frames := 1, cells := 1, slots := 10, locals := 16 } [.ref r] h (fun v h' => v = none ∧ Zt G h' r [] ∧ h'.2 = r + 2 ∧ ∀ b, b < r → h'.1 b = h.1 b) := by
  refine Ct.of [some (.ref r)] (by decide +kernel) (Nat.le_of_ble_eq_true rfl) (fun p e s m args below meth c bs C hini => ?_)
  refine x_aload_n C dX7_init_0 (kk := ?_)
  refine x_oinit C tw_55 dX7_init_1 tw_20 tw_21 (kk := ?_)
  refine x_aload_n C dX7_init_4 (kk := ?_)
  refine x_bipush C dX7_init_5 (v := 10) (kk := ?_)
  refine x_newi C 10 tw_37 dX7_init_7 (kk := ?_)
  refine x_putF C hini fp_X7_9 dX7_init_9 (kk := ?_)
  refine x_aload_n C dX7_init_12 (kk := ?_)
  refine x_iconst C dX7_init_13 (v := 0) (kk := ?_)
  refine x_put C fp_X7_15 dX7_init_14 (fs := [.ref (r + 1), .int 0]) (hh := by simp [x_set, x_new, *] <;> omega) (kk := ?_)
  refine x_vret C rfl dX7_init_17 (hp := ?_)
  exact ⟨rfl, ⟨by simp, by simp [x_set, x_new, hn]; rfl, (fun _ => 0), by simp [x_set, x_new, hn], fL_nil _⟩, by simp [x_set, x_new, hn], fun b hb => by simp [x_set, x_new, hn, show b ≠ r by omega, show b ≠ r + 1 by omega]⟩
set_option maxRecDepth 100000 in
set_option maxHeartbeats 4000000 in
theorem c_s_init (l : Launch) (G : xG) {h : xh} {r dy : Nat} (hr : h.1 r = some (eO 6 [.null, .int 0])) (hn : h.2 = r + 1) : Ct l G yX6_init cX6_init 1 (Option.none : Option Jvm.ClassFile.FieldType) { frames := 1, cells := 1, slots := 20, locals := 16 } [.ref r] h (fun v h' => v = none ∧ Sx G h' r dy [] ∧ h'.2 = r + 2 ∧ ∀ b, b < r → h'.1 b = h.1 b) := by
  refine Ct.of [some (.ref r)] (by decide +kernel) (Nat.le_of_ble_eq_true rfl) (fun p e s m args below meth c bs C hini => ?_)
  refine x_aload_n C dX6_init_0 (kk := ?_)
  refine x_oinit C tw_75 dX6_init_1 tw_20 tw_21 (kk := ?_)
  refine x_aload_n C dX6_init_4 (kk := ?_)
  refine x_bipush C dX6_init_5 (v := 20) (kk := ?_)
  refine x_newr C (t := 2) (cn := RX4) 20 rfl (fun U k => k.2.2.2) tw_76 dX6_init_7 (kk := ?_)
  refine x_putF C hini fp_X6_11 dX6_init_10 (kk := ?_)
  refine x_aload_n C dX6_init_13 (kk := ?_)
  refine x_iconst C dX6_init_14 (v := 0) (kk := ?_)
  refine x_put C fp_X6_17 dX6_init_15 (fs := [.ref (r + 1), .int 0]) (hh := by simp [x_set, x_new, *] <;> omega) (kk := ?_)
  refine x_vret C rfl dX6_init_18 (hp := ?_)
  exact ⟨rfl, ⟨by simp, by simp, by simp [x_set, x_new, hn]; rfl, (fun _ => none), by simp [x_set, x_new, hn], fun j w hw => by simp at hw⟩, by simp [x_set, x_new, hn], fun b hb => by simp [x_set, x_new, hn, show b ≠ r by omega, show b ≠ r + 1 by omega]⟩
