/-! THE LAW FROM ITS ENTRY -/
theorem lw_mem {w : Cond} (i : Nat) (h : tables_1[i]? = some w) : w ∈ lw_tbl := List.mem_append_right _ (List.mem_of_getElem? h)
theorem lw_nw0 : Cond.methodLinkNest RX8 22 yX1_init "SignTables" ∈ lw_tbl := lw_mem 24 (by decide +kernel)
theorem lw_nw1 : Cond.methodLinkNest RX8 29 yX2_init "SignTables" ∈ lw_tbl := lw_mem 47 (by decide +kernel)
theorem lw_nw2 : Cond.methodLinkNest RX8 36 yX7_init "SignTables" ∈ lw_tbl := lw_mem 66 (by decide +kernel)
theorem lw_nw3 : Cond.methodLinkNest RX8 43 yX3_init "SignTables" ∈ lw_tbl := lw_mem 79 (by decide +kernel)
theorem lw_nw4 : Cond.methodLinkNest RX8 50 yX6_init "SignTables" ∈ lw_tbl := lw_mem 95 (by decide +kernel)
theorem lw_nw5 : Cond.methodLinkNest RX8 63 yX5_init "SignTables" ∈ lw_tbl := lw_mem 112 (by decide +kernel)
theorem lw_nw6 : Cond.methodLinkNest RX1 39 yX8_unitsOf "SignTables" ∈ lw_tbl := lw_mem 440 (by decide +kernel)
theorem lw_ao0 : Cond.arrayOver (.object RX0) ∈ lw_tbl := lw_mem 109 (by decide +kernel)
theorem lw_ao4 : Cond.arrayOver (.object RX4) ∈ lw_tbl := lw_mem 100 (by decide +kernel)
theorem lw_arr {s : State} {b : Nat} {C : String} (h : (Cond.arrayOver (.object C)).before #[Value.ref b] s = true) : ∃ cA : ClassId, ArrOfT s cA (.object C) ∧ va_RA s cA (.object C) := by
  obtain ⟨comp, cA, kA, g1, g2, g3, g4, g5⟩ := Cond.arrayOver_spec h
  exact ⟨cA, fun N z => ⟨(fun k h => by cases h), kA, g3, comp, g4⟩, kA, comp, g3, g4, g1, g5⟩
theorem lw_int {s : State} {b : Nat} (h : (Cond.arrayClass .int).before #[Value.ref b] s = true) : ∃ cA : ClassId, ArrOfT s cA .int ∧ va_RA s cA .int := by
  obtain ⟨cA, kA, comp, g1, g2, g3⟩ := Cond.arrayClass_spec h
  exact ⟨cA, fun N z => ⟨(fun k h => by cases h), kA, g2, comp, g3⟩, g1⟩
theorem lw_K {s : State} {b : Nat} (hts : ∀ w ∈ lw_tbl, w.before #[Value.ref b] s = true) : ∃ G : xG, x_K G s := by
  have hT : ∀ w ∈ TB, w.before #[Value.ref b] s = true := fun w hw => hts w (List.mem_filter.mp hw).1
  obtain ⟨c0, i0, k0⟩ := u_known (C := RX0) (T := TX0) (N := 6) (n := 6) hT inT0 (hT _ tw_295)
  obtain ⟨c1, i1, k1⟩ := u_known (C := RX1) (T := TX1) (N := 5) (n := 5) hT inT1 (hT _ tw_23)
  obtain ⟨c2, i2, k2⟩ := u_known (C := RX2) (T := TX2) (N := 4) (n := 4) hT inT2 (hT _ tw_39)
  obtain ⟨c3, i3, k3⟩ := u_known (C := RX3) (T := TX3) (N := 3) (n := 3) hT inT3 (hT _ tw_61)
  obtain ⟨c4, i4, k4⟩ := u_known (C := RX4) (T := TX4) (N := 2) (n := 2) hT inT4 (hT _ tw_191)
  obtain ⟨c5, i5, k5⟩ := u_known (C := RX5) (T := TX5) (N := 4) (n := 4) hT inT5 (hT _ tw_83)
  obtain ⟨c6, i6, k6⟩ := u_known (C := RX6) (T := TX6) (N := 2) (n := 2) hT inT6 (hT _ tw_72)
  obtain ⟨c7, i7, k7⟩ := u_known (C := RX7) (T := TX7) (N := 2) (n := 2) hT inT7 (hT _ tw_52)
  obtain ⟨c8, i8, k8⟩ := u_known (C := RX8) (T := TX8) (N := 13) (n := 13) hT inT8 (hT _ tw_15)
  obtain ⟨c9, i9, k9⟩ := u_known (C := RX9) (T := TX9) (N := 43) (n := 43) hT inT9 (hT _ tw_493)
  obtain ⟨a0, p0, q0⟩ := lw_int (hT _ tw_37)
  obtain ⟨a1, p1, q1⟩ := lw_arr (hts _ lw_ao0)
  obtain ⟨a2, p2, q2⟩ := lw_arr (hts _ lw_ao4)
  refine ⟨((fun k => match k with | 0 => c0 | 1 => c1 | 2 => c2 | 3 => c3 | 4 => c4 | 5 => c5 | 6 => c6 | 7 => c7 | 8 => c8 | _ => c9, fun k => match k with | 0 => i0 | 1 => i1 | 2 => i2 | 3 => i3 | 4 => i4 | 5 => i5 | 6 => i6 | 7 => i7 | 8 => i8 | _ => i9), fun k => match k with | 0 => a0 | 1 => a1 | _ => a2), ⟨fun k q hq => ?_, fun k q hq => ?_⟩, ?_, va_AO.of (hts _ lw_ao0), va_AO.of (hts _ lw_ao4)⟩
  · match k, hq with
    | 0, hq => cases hq; exact k0
    | 1, hq => cases hq; exact k1
    | 2, hq => cases hq; exact k2
    | 3, hq => cases hq; exact k3
    | 4, hq => cases hq; exact k4
    | 5, hq => cases hq; exact k5
    | 6, hq => cases hq; exact k6
    | 7, hq => cases hq; exact k7
    | 8, hq => cases hq; exact k8
    | 9, hq => cases hq; exact k9
    | k + 10, hq => simp [vwCl] at hq
  · match k, hq with
    | 0, hq => cases hq; exact ⟨p0, q0⟩
    | 1, hq => cases hq; exact ⟨p1, q1⟩
    | 2, hq => cases hq; exact ⟨p2, q2⟩
    | k + 3, hq => simp [x_tys] at hq
  · unfold x_nw
    simp only [List.forall_mem_cons]
    exact ⟨va_Nw.of rfl (hts _ lw_nw0), va_Nw.of rfl (hts _ lw_nw1), va_Nw.of rfl (hts _ lw_nw2), va_Nw.of rfl (hts _ lw_nw3), va_Nw.of rfl (hts _ lw_nw4), va_Nw.of rfl (hts _ lw_nw5), va_Nw.of rfl (hts _ lw_nw6), fun _ h => absurd h List.not_mem_nil⟩
/-- the empty class keeps, when more cells lie behind it -/
theorem Cs.up {G : xG} {h h2 : xh} {x : Nat} (k : Cs G h x (x + 35) a0) (hk : ∀ b, b < x + 35 → h2.1 b = h.1 b) (hz : x + 68 ≤ h2.2) : Cs G h2 x (x + 68) a0 := by
  obtain ⟨la, s1, s2, hO, hul, hmu, ⟨f, hf, hfu⟩, hFt, hPt, hZt, hRt, ⟨t1, t2, t3, t4, t5, t6⟩, ⟨n1, n2, n3, n4, n5, n6⟩, hSr, hsl, hpm, hLa, ⟨w1, hS1⟩, ⟨w2, hS2⟩, hxd, hdh⟩ := k
  have hR : ∀ r, isR x r → ∀ b, At r 4 b → h2.1 b = h.1 b := fun r hr b z => hk b (by unfold isR At at *; omega)
  refine ⟨la, s1, s2, (hk _ (by omega)).trans hO, hul, hmu, ⟨f, (hk _ (by omega)).trans hf, hfu⟩, hFt.kn (fun b z => hk b (by unfold At at z; omega)), hPt.kn (fun b z => hk b (by unfold At at z; omega)), hZt.kn (fun b z => hk b (by unfold At at z; omega)), hRt.kn (fun b z => hk b (by unfold At at z; omega)), ⟨t1, t2, (hk _ (by omega)).trans t3, t4, (hk _ (by omega)).trans t5, fun j w z => by simp [a0] at z⟩, ⟨n1, n2, (hk _ (by omega)).trans n3, n4, fun y fi z => ?_, fun y y2 fi fi2 z => ?_⟩, hSr.same (fun b z => hk b (by unfold At at z; omega)), hsl, hpm, hLa.same (hR _ hpm.1), ⟨w1, hS1.same (hR _ hpm.2.1)⟩, ⟨w2, hS2.same (hR _ hpm.2.2.1)⟩, by omega, hz⟩
  · have := List.mem_replicate.mp (List.mem_of_getElem? (show (List.replicate 8 (none : Option Fi))[y]? = _ from z))
    exact absurd this.2 (by simp)
  · have := List.mem_replicate.mp (List.mem_of_getElem? (show (List.replicate 8 (none : Option Fi))[y]? = _ from z))
    exact absurd this.2 (by simp)
section XS
variable {p : Program} {l : Launch} {e : Env} {s : State} {m : MethodId} {below : List Frame} {meth : Method} {c : Code} {G : xG}
theorem law_loop {b n x : Nat} (C : Cx p s m #[Value.ref b] meth c G RL code 4 ret) {xs : Nat → Int32} (hX : va_X b n xs s s.heap) (hbl : b < s.heap.size) (hn : n ≤ 2560) : ∀ (f j : Nat) (h : xh) (a : Ab), n < 5 * j + f → 5 * j ≤ n → Cs G h x (x + 68) a → Ms G h (x + 35) a → X p l e room_1 s m #[Value.ref b] below meth c G s.heap.size (lw_Z below #[Value.ref b] s) (68 + 3 * j) (12732 + 602 * j) 18 [some (.ref b), some (.ref x), some (.ref (x + 35)), some (.int (nI (5 * j)))] [] h := by
  intro f
  induction f with
  | zero => intro j h a h1 h2; omega
  | succ f ih =>
    intro j h a h1 h2 hC hM
    refine x_iload_n C dL_law_18 (kk := ?_)
    refine x_aload_n C dL_law_19 (kk := ?_)
    refine x_slen C hX hbl hbl dL_law_20 ?_
    refine x_iconst C dL_law_21 (v := 5) (kk := ?_)
    refine x_isub C dL_law_22 ?_
    refine x_icmp_gt C dL_law_23 704 (fun hc => ?_) (fun hc => ?_)
    · refine x_iconst C dL_law_704 (v := 1) (kk := ?_)
      exact x_lret C (by omega) (by omega)
    · have h5 : 5 * j + 5 ≤ n := lw_sub5 (by omega) hn hc
      refine law_sw C hX hbl hbl h5 hn hC hM (fun h' a' hC' hM' => ?_)
      refine x_iinc C dL_law_698 (v := nI (5 * (j + 1))) (hv := nI_add (5 * j) 5) (kk := ?_)
      refine x_goto C dL_law_701 18 ?_
      exact ih (j + 1) h' a' (by omega) (by omega) hC' hM'
set_option maxRecDepth 100000 in
set_option maxHeartbeats 4000000 in
theorem law_enter {b n : Nat} (C : Cx p s m #[Value.ref b] meth c G RL code 4 ret) {xs : Nat → Int32} (hX : va_X b n xs s s.heap) (hbl : b < s.heap.size) (hn : n ≤ 2560) : X p l e room_1 s m #[Value.ref b] below meth c G s.heap.size (lw_Z below #[Value.ref b] s) (0) (0) 0 [some (.ref b), none, none, none] [] (fun _ => none, s.heap.size) := by
  refine x_obj C (fs := [.null, .int 0, .int 0, .null, .null, .null, .null, .null, .null, .null, .null, .null, .null]) tyX8 (ci := 8) rfl inT8 tyX8_ok tw_14 tw_15 tw_1 (fun j hj => match j, hj with | 0, _ => rfl | 1, _ => rfl | 2, _ => rfl | 3, _ => rfl | 4, _ => rfl | 5, _ => rfl | 6, _ => rfl | 7, _ => rfl | 8, _ => rfl | 9, _ => rfl | 10, _ => rfl | 11, _ => rfl | 12, _ => rfl | k + 13, h => absurd h (by omega)) dL_law_0 (kk := ?_)
  refine x_dup C dL_law_3 (kk := ?_)
  refine x_callI C ml_X8_init lk_L_9 (c_init l G (x := s.heap.size) (x_new_eq rfl) rfl) dL_law_4 (fun r1 h1 hp1 => ?_)
  obtain ⟨rfl, hC, hz1, -⟩ := hp1
  refine x_astore_n C dL_law_7 (kk := ?_)
  refine x_obj C (fs := [.int 0, .int 0, .null, .int 0, .null, .null, .null, .int 0, .null, .null, .null, .int 0, .null, .null, .null, .int 0, .null, .int 0, .null, .null, .int 0, .null, .null, .null, .null, .null, .null, .null, .null, .null, .null, .int 0, .null, .null, .null, .int 0, .null, .null, .null, .int 0, .null, .null, .null]) tyX9 (ci := 9) rfl inT9 tyX9_ok tw_492 tw_493 tw_8 (fun j hj => match j, hj with | 0, _ => rfl | 1, _ => rfl | 2, _ => rfl | 3, _ => rfl | 4, _ => rfl | 5, _ => rfl | 6, _ => rfl | 7, _ => rfl | 8, _ => rfl | 9, _ => rfl | 10, _ => rfl | 11, _ => rfl | 12, _ => rfl | 13, _ => rfl | 14, _ => rfl | 15, _ => rfl | 16, _ => rfl | 17, _ => rfl | 18, _ => rfl | 19, _ => rfl | 20, _ => rfl | 21, _ => rfl | 22, _ => rfl | 23, _ => rfl | 24, _ => rfl | 25, _ => rfl | 26, _ => rfl | 27, _ => rfl | 28, _ => rfl | 29, _ => rfl | 30, _ => rfl | 31, _ => rfl | 32, _ => rfl | 33, _ => rfl | 34, _ => rfl | 35, _ => rfl | 36, _ => rfl | 37, _ => rfl | 38, _ => rfl | 39, _ => rfl | 40, _ => rfl | 41, _ => rfl | 42, _ => rfl | k + 43, h => absurd h (by omega)) dL_law_8 (kk := ?_)
  refine x_refq hz1 ?_
  refine x_dup C dL_law_11 (kk := ?_)
  refine x_callI C ml_X9_init lk_L_12 (m_init l G (o := s.heap.size + 35) (x_new_eq hz1.symm) (by show h1.2 + 1 = _; omega)) dL_law_12 (fun r2 h2 hp2 => ?_)
  obtain ⟨rfl, hMO, hz2, hold⟩ := hp2
  refine x_astore_n C dL_law_15 (kk := ?_)
  refine x_iconst C dL_law_16 (v := 0) (kk := ?_)
  refine x_istore_n C dL_law_17 (kk := ?_)
  have hC2 : Cs G h2 s.heap.size (s.heap.size + 68) a0 := hC.up (fun b hb => (hold b hb).trans (x_new_ne (by omega) rfl)) (by omega)
  refine x_wd C (k := 68 + 3 * 0) (n := 12732 + 602 * 0) (Nat.le_of_ble_eq_true rfl) (Nat.le_of_ble_eq_true rfl) ?_
  exact law_loop C hX hbl hn (n + 1) 0 h2 a0 (by omega) (by omega) hC2 (Ms.zero hMO)
end XS
/-- THE LAW, from its entry -/
theorem whole_start {p : Program} {e : Env} {s : State} {m : MethodId} {below : List Frame} {meth : Method} {c : Code} (l : Launch) (hflags : l.flags = flags0) {b L : Nat} {xs : Nat → Int32} (hL : L ≤ 2560) (C0 : lw_At p s m meth c b L xs) : W p l e room_1 s m #[Value.ref b] below meth c s.heap [] 0 0 (lw_Z below #[Value.ref b] s) (entryFrame m ([Value.ref b] : List Value).toArray 4) := by
  obtain ⟨hx, hb, hr, hml, hown, hts, hX, hbl, hlocks, hgv⟩ := id C0
  obtain ⟨G, hK⟩ := lw_K hts
  have C : Cx p s m #[Value.ref b] meth c G RL code 4 ret := ⟨hx, hb, hml, hr, fun w hw => hts w (List.mem_filter.mp hw).1, hown, hlocks, hK⟩
  rw [lg_entry_eq]
  have hl := lv_entry ([.ref b]) (n := 4) (Nat.le_of_ble_eq_true rfl)
  have hH : x_H G s.heap.size (fun _ => none, s.heap.size) s.heap := ⟨rfl, Nat.le_refl _, fun a e9 h9 => by cases h9⟩
  exact law_enter (l := l) (e := e) (below := below) C hX hbl hL s.heap _ [] hH va_S.rf (by rw [hml]; exact x_L.entry hl (fun v hv => by rcases List.mem_singleton.mp hv with rfl; rfl) (fun i v h9 => x_L0 (av := [.ref b]) (k := 3) h9))
