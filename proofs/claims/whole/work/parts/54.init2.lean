/-! THE CONSTRUCTOR OF THE CLASS -/
theorem frNe {h h2 : xh} : Fr (fun b => ¬ h2.1 b = h.1 b) h (h2.1, h.2) := ⟨rfl, fun b hb => Classical.byContradiction hb⟩
theorem Ft.kn {G : xG} {h h2 : xh} {z : Nat} {fo : List Fo} (k : Ft G h z fo) (hk : ∀ b, At z 5 b → h2.1 b = h.1 b) : Ft G h2 z fo := by
  have := k.fr frNe (fun b hb hne => hne (hk b hb))
  exact this
theorem Pt.kn {G : xG} {h h2 : xh} {z : Nat} {pa : List Pr} (k : Pt G h z pa) (hk : ∀ b, At z 4 b → h2.1 b = h.1 b) : Pt G h2 z pa := by
  have := k.fr frNe (fun b hb hne => hne (hk b hb))
  exact this
theorem Zt.kn {G : xG} {h h2 : xh} {z : Nat} {ze : List Int32} (k : Zt G h z ze) (hk : ∀ b, At z 2 b → h2.1 b = h.1 b) : Zt G h2 z ze := by
  have := k.fr frNe (fun b hb hne => hne (hk b hb))
  exact this
theorem Rt.kn {G : xG} {h h2 : xh} {z : Nat} {ra : List Rg} (k : Rt G h z ra) (hk : ∀ b, At z 3 b → h2.1 b = h.1 b) : Rt G h2 z ra := by
  have := k.fr frNe (fun b hb hne => hne (hk b hb))
  exact this
def CI (h0 h : xh) (x n : Nat) (fs : List Value) : Prop := h.1 x = some (eO 8 fs) ∧ h.2 = x + n ∧ ∀ b, b < x → h.1 b = h0.1 b
/-- a fact that speaks of the cells x + 1 .. x + n - 1 alone -/
def Kq (x n : Nat) (P : xh → Prop) : Prop := ∀ h h' : xh, h.2 ≤ h'.2 → (∀ b, x < b → b < x + n → h'.1 b = h.1 b) → P h → P h'
theorem Kq.up {x n k : Nat} {P : xh → Prop} (h : Kq x n P) (hk : n ≤ k) : Kq x k P := fun a b h1 h2 h3 => h a b h1 (fun q z1 z2 => h2 q z1 (by omega)) h3
theorem Kq.and {x n : Nat} {P Q : xh → Prop} (h : Kq x n P) (g : Kq x n Q) : Kq x n (fun q => P q ∧ Q q) := fun a b h1 h2 h3 => ⟨h a b h1 h2 h3.1, g a b h1 h2 h3.2⟩
theorem Kq.cell {x n : Nat} {e : va_E} (hn : 1 ≤ n) : Kq x (n + 1) (fun q => q.1 (x + n) = some e) := fun a b h1 h2 h3 => (h2 _ (by omega) (by omega)).trans h3
theorem Kq.ft {G : xG} {x n : Nat} (hn : 1 ≤ n) : Kq x (n + 5) (fun q => Ft G q (x + n) []) := fun a b h1 h2 h3 => h3.kn (fun q z => h2 q (by unfold At at z; omega) (by unfold At at z; omega))
theorem Kq.pt {G : xG} {x n : Nat} (hn : 1 ≤ n) : Kq x (n + 4) (fun q => Pt G q (x + n) []) := fun a b h1 h2 h3 => h3.kn (fun q z => h2 q (by unfold At at z; omega) (by unfold At at z; omega))
theorem Kq.zt {G : xG} {x n : Nat} (hn : 1 ≤ n) : Kq x (n + 2) (fun q => Zt G q (x + n) []) := fun a b h1 h2 h3 => h3.kn (fun q z => h2 q (by unfold At at z; omega) (by unfold At at z; omega))
theorem Kq.rt {G : xG} {x n : Nat} (hn : 1 ≤ n) : Kq x (n + 3) (fun q => Rt G q (x + n) []) := fun a b h1 h2 h3 => h3.kn (fun q z => h2 q (by unfold At at z; omega) (by unfold At at z; omega))
theorem Kq.rw {G : xG} {x n : Nat} (hn : 1 ≤ n) : Kq x (n + 4) (fun q => Rw G q (x + n) []) := fun a b h1 h2 h3 => h3.same (fun q z => h2 q (by unfold At at z; omega) (by unfold At at z; omega))
theorem Kq.sx {G : xG} {x n dy : Nat} (hn : 1 ≤ n) : Kq x (n + 2) (fun q => Sx G q (x + n) dy []) := fun a b h1 h2 h3 => by
  obtain ⟨k1, k2, k3, f, k4, k5⟩ := h3
  exact ⟨k1, k2, (h2 _ (by omega) (by omega)).trans k3, f, (h2 _ (by omega) (by omega)).trans k4, fun j w z => by simp at z⟩
def SI (h0 h : xh) (x n : Nat) (fs : List Value) (P : xh → Prop) : Prop := CI h0 h x n fs ∧ P h ∧ Kq x n P ∧ 1 ≤ n
/-- behind a 'new': one cell more, of which no fact speaks -/
def SN (h0 h : xh) (x n : Nat) (fs : List Value) (P : xh → Prop) (e : va_E) : Prop := CI h0 h x (n + 1) fs ∧ P h ∧ Kq x n P ∧ 1 ≤ n ∧ h.1 (x + n) = some e
theorem S_put {h0 h : xh} {x n : Nat} {fs fs2 : List Value} {P : xh → Prop} (k : SI h0 h x n fs P) : SI h0 (x_set h x (eO 8 fs2)) x n fs2 P := by
  obtain ⟨⟨h1, h2, h3⟩, h4, h5, h6⟩ := k
  exact ⟨⟨x_set_eq, h2, fun b hb => x_set_ne (by omega) (h3 b hb)⟩, h5 h _ (Nat.le_refl _) (fun b z1 z2 => x_set_ne (by omega) rfl) h4, h5, h6⟩
theorem S_new {h0 h : xh} {x n : Nat} {fs : List Value} {P : xh → Prop} {e : va_E} (k : SI h0 h x n fs P) : SN h0 (x_new h e) x n fs P e := by
  obtain ⟨⟨h1, h2, h3⟩, h4, h5, h6⟩ := k
  exact ⟨⟨x_new_ne (by omega) h1, by show h.2 + 1 = _; omega, fun b hb => x_new_ne (by omega) (h3 b hb)⟩, h5 h _ (Nat.le_succ _) (fun b z1 z2 => x_new_ne (by omega) rfl) h4, h5, h6, x_new_eq (by omega)⟩
theorem S_cell {h0 h : xh} {x n : Nat} {fs : List Value} {P : xh → Prop} {e : va_E} (k : SN h0 h x n fs P e) : SI h0 h x (n + 1) fs (fun q => P q ∧ q.1 (x + n) = some e) :=
  ⟨k.1, ⟨k.2.1, k.2.2.2.2⟩, (k.2.2.1.up (Nat.le_succ _)).and (Kq.cell k.2.2.2.1), Nat.succ_le_succ (Nat.zero_le _)⟩
theorem S_obj {h0 h h2 : xh} {x n sz : Nat} {fs : List Value} {P F : xh → Prop} {e : va_E} (k : SN h0 h x n fs P e) (hF : F h2) (kF : Kq x (n + sz) F) (hsz : h2.2 = x + n + sz) (hs1 : 1 ≤ sz) (hold : ∀ b, b < x + n → h2.1 b = h.1 b) : SI h0 h2 x (n + sz) fs (fun q => P q ∧ F q) := by
  obtain ⟨⟨h1, hh, h3⟩, h4, h5, h6, -⟩ := k
  exact ⟨⟨(hold x (by omega)).trans h1, by omega, fun b hb => (hold b (by omega)).trans (h3 b hb)⟩, ⟨h5 h h2 (by omega) (fun b z1 z2 => hold b z2) h4, hF⟩, (h5.up (by omega)).and kF, by omega⟩
section XI
variable {p : Program} {l : Launch} {e : Env} {R : Room} {s : State} {m : MethodId} {args : Array Value} {below : List Frame} {meth : Method} {c : Code} {G : xG} {bs : Nat} {Q : State → Prop} {cells slots pc : Nat} {L : List (Option Value)} {st : List Value} {h h0 : xh} {x n : Nat} {fs : List Value} {P : xh → Prop} {en : va_E}
theorem x_hpI (hS : SI h0 h x n fs P) (kk : ∀ h', SI h0 h' x n fs P → X p l e R s m args below meth c G bs Q cells slots pc L st h') : X p l e R s m args below meth c G bs Q cells slots pc L st h := kk h hS
theorem x_hpN (hS : SI h0 h x n fs P) (kk : ∀ h', SN h0 h' x n fs P en → X p l e R s m args below meth c G bs Q cells slots pc L (.ref (x + n) :: st) h') : X p l e R s m args below meth c G bs Q cells slots pc L (.ref h.2 :: st) (x_new h en) := by
  have e : h.2 = x + n := hS.1.2.1
  rw [e]
  exact kk _ (S_new hS)
theorem x_hpA (hS : SI h0 h x n fs P) (kk : ∀ h', SI h0 h' x (n + 1) fs (fun q => P q ∧ q.1 (x + n) = some en) → X p l e R s m args below meth c G bs Q cells slots pc L (.ref (x + n) :: st) h') : X p l e R s m args below meth c G bs Q cells slots pc L (.ref h.2 :: st) (x_new h en) := x_hpN hS (fun h' k => kk h' (S_cell k))
end XI
set_option maxRecDepth 100000 in
set_option maxHeartbeats 4000000 in
theorem c_init (l : Launch) (G : xG) {h : xh} {x : Nat} (hr : h.1 x = some (eO 8 [.null, .int 0, .int 0, .null, .null, .null, .null, .null, .null, .null, .null, .null, .null])) (hn : h.2 = x + 1) : Ct l G yX8_init cX8_init 1 (Option.none : Option Jvm.ClassFile.FieldType) { frames := 2, cells := 34, slots := 5000, locals := 36 } [.ref x] h (fun v h' => v = none ∧ Cs G h' x (x + 35) a0 ∧ h'.2 = x + 35 ∧ ∀ b, b < x → h'.1 b = h.1 b) := by
  have hS : SI h h x 1 [.null, .int 0, .int 0, .null, .null, .null, .null, .null, .null, .null, .null, .null, .null] (fun _ => True) := ⟨⟨hr, by omega, fun _ _ => rfl⟩, trivial, fun _ _ _ _ _ => trivial, Nat.le_refl _⟩
  refine Ct.of [some (.ref x)] (by decide +kernel) (Nat.le_of_ble_eq_true rfl) (fun p e s m args below meth c bs C hini => ?_)
  refine x_aload_n C dX8_init_0 (kk := ?_)
  refine x_oinit C tw_19 dX8_init_1 tw_20 tw_21 (kk := ?_)
  refine x_aload_n C dX8_init_4 (kk := ?_)
  refine x_bipush C dX8_init_5 (v := 100) (kk := ?_)
  refine x_newi C 100 tw_37 dX8_init_7 (kk := ?_)
  refine x_hpA hS (fun h7 hS => ?_)
  have hS : SI h h7 x 2 _ _ := hS
  refine x_putF C hini fp_X8_9 dX8_init_9 (hh := hS.1.1) (kk := ?_)
  refine x_hpI (S_put hS (fs2 := [.ref (x + 1), .int 0, .int 0, .null, .null, .null, .null, .null, .null, .null, .null, .null, .null])) (fun h9 hS => ?_)
  refine x_aload_n C dX8_init_12 (kk := ?_)
  refine x_iconst C dX8_init_13 (v := 0) (kk := ?_)
  refine x_put C fp_X8_13 dX8_init_14 (hh := hS.1.1) (kk := ?_)
  refine x_hpI (S_put hS (fs2 := [.ref (x + 1), .int 0, .int 0, .null, .null, .null, .null, .null, .null, .null, .null, .null, .null])) (fun h14 hS => ?_)
  refine x_aload_n C dX8_init_17 (kk := ?_)
  refine x_iconst C dX8_init_18 (v := 0) (kk := ?_)
  refine x_put C fp_X8_17 dX8_init_19 (hh := hS.1.1) (kk := ?_)
  refine x_hpI (S_put hS (fs2 := [.ref (x + 1), .int 0, .int 0, .null, .null, .null, .null, .null, .null, .null, .null, .null, .null])) (fun h19 hS => ?_)
  refine x_aload_n C dX8_init_22 (kk := ?_)
  refine x_obj C (fs := [.null, .null, .null, .null, .int 0]) tyX1 (ci := 1) rfl inT1 tyX1_ok tw_22 tw_23 tw_2 (fun j hj => match j, hj with | 0, _ => rfl | 1, _ => rfl | 2, _ => rfl | 3, _ => rfl | 4, _ => rfl | k + 5, h => absurd h (by omega)) dX8_init_23 (kk := ?_)
  refine x_hpN hS (fun h23 hN => ?_)
  refine x_dup C dX8_init_26 (kk := ?_)
  refine x_callIN C ml_X1_init nl_X8_22 ⟨rfl, tw_24⟩ (c_o_init l G hN.2.2.2.2 hN.1.2.1) dX8_init_27 (fun r27 h27 hp27 => ?_)
  obtain ⟨rfl, hF, hsz, hold⟩ := hp27
  have hS : SI h h27 x 7 _ _ := S_obj (sz := 5) hN hF (Kq.ft (by omega)) hsz (by omega) hold
  clear hF hsz hold hN
  refine x_putF C hini fp_X8_23 dX8_init_30 (hh := hS.1.1) (kk := ?_)
  refine x_hpI (S_put hS (fs2 := [.ref (x + 1), .int 0, .int 0, .ref (x + 2), .null, .null, .null, .null, .null, .null, .null, .null, .null])) (fun h30 hS => ?_)
  refine x_aload_n C dX8_init_33 (kk := ?_)
  refine x_obj C (fs := [.null, .null, .null, .int 0]) tyX2 (ci := 2) rfl inT2 tyX2_ok tw_38 tw_39 tw_3 (fun j hj => match j, hj with | 0, _ => rfl | 1, _ => rfl | 2, _ => rfl | 3, _ => rfl | k + 4, h => absurd h (by omega)) dX8_init_34 (kk := ?_)
  refine x_hpN hS (fun h34 hN => ?_)
  refine x_dup C dX8_init_37 (kk := ?_)
  refine x_callIN C ml_X2_init nl_X8_29 ⟨rfl, tw_40⟩ (c_p_init l G hN.2.2.2.2 hN.1.2.1) dX8_init_38 (fun r38 h38 hp38 => ?_)
  obtain ⟨rfl, hF, hsz, hold⟩ := hp38
  have hS : SI h h38 x 11 _ _ := S_obj (sz := 4) hN hF (Kq.pt (by omega)) hsz (by omega) hold
  clear hF hsz hold hN
  refine x_putF C hini fp_X8_30 dX8_init_41 (hh := hS.1.1) (kk := ?_)
  refine x_hpI (S_put hS (fs2 := [.ref (x + 1), .int 0, .int 0, .ref (x + 2), .ref (x + 7), .null, .null, .null, .null, .null, .null, .null, .null])) (fun h41 hS => ?_)
  refine x_aload_n C dX8_init_44 (kk := ?_)
  refine x_obj C (fs := [.null, .int 0]) tyX7 (ci := 7) rfl inT7 tyX7_ok tw_51 tw_52 tw_4 (fun j hj => match j, hj with | 0, _ => rfl | 1, _ => rfl | k + 2, h => absurd h (by omega)) dX8_init_45 (kk := ?_)
  refine x_hpN hS (fun h45 hN => ?_)
  refine x_dup C dX8_init_48 (kk := ?_)
  refine x_callIN C ml_X7_init nl_X8_36 ⟨rfl, tw_53⟩ (c_z_init l G hN.2.2.2.2 hN.1.2.1) dX8_init_49 (fun r49 h49 hp49 => ?_)
  obtain ⟨rfl, hF, hsz, hold⟩ := hp49
  have hS : SI h h49 x 13 _ _ := S_obj (sz := 2) hN hF (Kq.zt (by omega)) hsz (by omega) hold
  clear hF hsz hold hN
  refine x_putF C hini fp_X8_37 dX8_init_52 (hh := hS.1.1) (kk := ?_)
  refine x_hpI (S_put hS (fs2 := [.ref (x + 1), .int 0, .int 0, .ref (x + 2), .ref (x + 7), .ref (x + 11), .null, .null, .null, .null, .null, .null, .null])) (fun h52 hS => ?_)
  refine x_aload_n C dX8_init_55 (kk := ?_)
  refine x_obj C (fs := [.null, .null, .int 0]) tyX3 (ci := 3) rfl inT3 tyX3_ok tw_60 tw_61 tw_5 (fun j hj => match j, hj with | 0, _ => rfl | 1, _ => rfl | 2, _ => rfl | k + 3, h => absurd h (by omega)) dX8_init_56 (kk := ?_)
  refine x_hpN hS (fun h56 hN => ?_)
  refine x_dup C dX8_init_59 (kk := ?_)
  refine x_callIN C ml_X3_init nl_X8_43 ⟨rfl, tw_62⟩ (c_r_init l G hN.2.2.2.2 hN.1.2.1) dX8_init_60 (fun r60 h60 hp60 => ?_)
  obtain ⟨rfl, hF, hsz, hold⟩ := hp60
  have hS : SI h h60 x 16 _ _ := S_obj (sz := 3) hN hF (Kq.rt (by omega)) hsz (by omega) hold
  clear hF hsz hold hN
  refine x_putF C hini fp_X8_44 dX8_init_63 (hh := hS.1.1) (kk := ?_)
  refine x_hpI (S_put hS (fs2 := [.ref (x + 1), .int 0, .int 0, .ref (x + 2), .ref (x + 7), .ref (x + 11), .ref (x + 13), .null, .null, .null, .null, .null, .null])) (fun h63 hS => ?_)
  refine x_aload_n C dX8_init_66 (kk := ?_)
  refine x_obj C (fs := [.null, .int 0]) tyX6 (ci := 6) rfl inT6 tyX6_ok tw_71 tw_72 tw_6 (fun j hj => match j, hj with | 0, _ => rfl | 1, _ => rfl | k + 2, h => absurd h (by omega)) dX8_init_67 (kk := ?_)
  refine x_hpN hS (fun h67 hN => ?_)
  refine x_dup C dX8_init_70 (kk := ?_)
  refine x_callIN C ml_X6_init nl_X8_50 ⟨rfl, tw_73⟩ (c_s_init (dy := x + 35) l G hN.2.2.2.2 hN.1.2.1) dX8_init_71 (fun r71 h71 hp71 => ?_)
  obtain ⟨rfl, hF, hsz, hold⟩ := hp71
  have hS : SI h h71 x 18 _ _ := S_obj (sz := 2) hN hF (Kq.sx (by omega)) hsz (by omega) hold
  clear hF hsz hold hN
  refine x_putF C hini fp_X8_51 dX8_init_74 (hh := hS.1.1) (kk := ?_)
  refine x_hpI (S_put hS (fs2 := [.ref (x + 1), .int 0, .int 0, .ref (x + 2), .ref (x + 7), .ref (x + 11), .ref (x + 13), .ref (x + 16), .null, .null, .null, .null, .null])) (fun h74 hS => ?_)
  refine x_aload_n C dX8_init_77 (kk := ?_)
  refine x_bipush C dX8_init_78 (v := 8) (kk := ?_)
  refine x_newr C (t := 1) (cn := RX0) 8 rfl (fun U k => k.2.2.1) tw_81 dX8_init_80 (kk := ?_)
  refine x_hpA hS (fun h80 hS => ?_)
  have hS : SI h h80 x 19 _ _ := hS
  refine x_putF C hini fp_X8_57 dX8_init_83 (hh := hS.1.1) (kk := ?_)
  refine x_hpI (S_put hS (fs2 := [.ref (x + 1), .int 0, .int 0, .ref (x + 2), .ref (x + 7), .ref (x + 11), .ref (x + 13), .ref (x + 16), .ref (x + 18), .null, .null, .null, .null])) (fun h83 hS => ?_)
  refine x_aload_n C dX8_init_86 (kk := ?_)
  refine x_obj C (fs := [.null, .null, .null, .int 0]) tyX5 (ci := 5) rfl inT5 tyX5_ok tw_82 tw_83 tw_7 (fun j hj => match j, hj with | 0, _ => rfl | 1, _ => rfl | 2, _ => rfl | 3, _ => rfl | k + 4, h => absurd h (by omega)) dX8_init_87 (kk := ?_)
  refine x_hpN hS (fun h87 hN => ?_)
  refine x_dup C dX8_init_90 (kk := ?_)
  refine x_callIN C ml_X5_init nl_X8_63 ⟨rfl, tw_84⟩ (c_row_init l G hN.2.2.2.2 hN.1.2.1) dX8_init_91 (fun r91 h91 hp91 => ?_)
  obtain ⟨rfl, hF, hsz, hold⟩ := hp91
  have hS : SI h h91 x 23 _ _ := S_obj (sz := 4) hN hF (Kq.rw (by omega)) hsz (by omega) hold
  clear hF hsz hold hN
  refine x_putF C hini fp_X8_64 dX8_init_94 (hh := hS.1.1) (kk := ?_)
  refine x_hpI (S_put hS (fs2 := [.ref (x + 1), .int 0, .int 0, .ref (x + 2), .ref (x + 7), .ref (x + 11), .ref (x + 13), .ref (x + 16), .ref (x + 18), .ref (x + 19), .null, .null, .null])) (fun h94 hS => ?_)
  refine x_aload_n C dX8_init_97 (kk := ?_)
  refine x_obj C (fs := [.null, .null, .null, .int 0]) tyX5 (ci := 5) rfl inT5 tyX5_ok tw_82 tw_83 tw_7 (fun j hj => match j, hj with | 0, _ => rfl | 1, _ => rfl | 2, _ => rfl | 3, _ => rfl | k + 4, h => absurd h (by omega)) dX8_init_98 (kk := ?_)
  refine x_hpN hS (fun h98 hN => ?_)
  refine x_dup C dX8_init_101 (kk := ?_)
  refine x_callIN C ml_X5_init nl_X8_63 ⟨rfl, tw_84⟩ (c_row_init l G hN.2.2.2.2 hN.1.2.1) dX8_init_102 (fun r102 h102 hp102 => ?_)
  obtain ⟨rfl, hF, hsz, hold⟩ := hp102
  have hS : SI h h102 x 27 _ _ := S_obj (sz := 4) hN hF (Kq.rw (by omega)) hsz (by omega) hold
  clear hF hsz hold hN
  refine x_put C fp_X8_68 dX8_init_105 (hh := hS.1.1) (kk := ?_)
  refine x_hpI (S_put hS (fs2 := [.ref (x + 1), .int 0, .int 0, .ref (x + 2), .ref (x + 7), .ref (x + 11), .ref (x + 13), .ref (x + 16), .ref (x + 18), .ref (x + 19), .ref (x + 23), .null, .null])) (fun h105 hS => ?_)
  refine x_aload_n C dX8_init_108 (kk := ?_)
  refine x_obj C (fs := [.null, .null, .null, .int 0]) tyX5 (ci := 5) rfl inT5 tyX5_ok tw_82 tw_83 tw_7 (fun j hj => match j, hj with | 0, _ => rfl | 1, _ => rfl | 2, _ => rfl | 3, _ => rfl | k + 4, h => absurd h (by omega)) dX8_init_109 (kk := ?_)
  refine x_hpN hS (fun h109 hN => ?_)
  refine x_dup C dX8_init_112 (kk := ?_)
  refine x_callIN C ml_X5_init nl_X8_63 ⟨rfl, tw_84⟩ (c_row_init l G hN.2.2.2.2 hN.1.2.1) dX8_init_113 (fun r113 h113 hp113 => ?_)
  obtain ⟨rfl, hF, hsz, hold⟩ := hp113
  have hS : SI h h113 x 31 _ _ := S_obj (sz := 4) hN hF (Kq.rw (by omega)) hsz (by omega) hold
  clear hF hsz hold hN
  refine x_put C fp_X8_71 dX8_init_116 (hh := hS.1.1) (kk := ?_)
  refine x_hpI (S_put hS (fs2 := [.ref (x + 1), .int 0, .int 0, .ref (x + 2), .ref (x + 7), .ref (x + 11), .ref (x + 13), .ref (x + 16), .ref (x + 18), .ref (x + 19), .ref (x + 23), .ref (x + 27), .null])) (fun h116 hS => ?_)
  refine x_aload_n C dX8_init_119 (kk := ?_)
  refine x_obj C (fs := [.null, .null, .null, .int 0]) tyX5 (ci := 5) rfl inT5 tyX5_ok tw_82 tw_83 tw_7 (fun j hj => match j, hj with | 0, _ => rfl | 1, _ => rfl | 2, _ => rfl | 3, _ => rfl | k + 4, h => absurd h (by omega)) dX8_init_120 (kk := ?_)
  refine x_hpN hS (fun h120 hN => ?_)
  refine x_dup C dX8_init_123 (kk := ?_)
  refine x_callIN C ml_X5_init nl_X8_63 ⟨rfl, tw_84⟩ (c_row_init l G hN.2.2.2.2 hN.1.2.1) dX8_init_124 (fun r124 h124 hp124 => ?_)
  obtain ⟨rfl, hF, hsz, hold⟩ := hp124
  have hS : SI h h124 x 35 _ _ := S_obj (sz := 4) hN hF (Kq.rw (by omega)) hsz (by omega) hold
  clear hF hsz hold hN
  refine x_put C fp_X8_74 dX8_init_127 (hh := hS.1.1) (kk := ?_)
  refine x_hpI (S_put hS (fs2 := [.ref (x + 1), .int 0, .int 0, .ref (x + 2), .ref (x + 7), .ref (x + 11), .ref (x + 13), .ref (x + 16), .ref (x + 18), .ref (x + 19), .ref (x + 23), .ref (x + 27), .ref (x + 31)])) (fun h127 hS => ?_)
  refine x_vret C rfl dX8_init_130 (hp := ?_)
  obtain ⟨hC, ⟨⟨⟨⟨⟨⟨⟨⟨⟨⟨⟨_, hU⟩, hFt⟩, hPt⟩, hZt⟩, hRt⟩, hSx⟩, hG⟩, hR1⟩, hR2⟩, hR3⟩, hR4⟩, -, -⟩ := hS
  exact ⟨rfl, ⟨x + 23, x + 27, x + 31, hC.1, Nat.zero_le _, Nat.le_refl _, ⟨_, hU, fL_nil _⟩, hFt, hPt, hZt, hRt, hSx, ⟨rfl, _, hG, fun y hy => rfl, fun y fi hy => by have := List.mem_replicate.mp (List.mem_of_getElem? hy); exact absurd this.2 (by simp), fun y y2 fi fi2 hy => by have := List.mem_replicate.mp (List.mem_of_getElem? hy); exact absurd this.2 (by simp)⟩, hR1, Nat.zero_le _, by unfold isR; omega, hR2, ⟨_, hR3⟩, ⟨_, hR4⟩, Nat.le_refl _, Nat.le_of_eq hC.2.1.symm⟩, hC.2.1, hC.2.2⟩
