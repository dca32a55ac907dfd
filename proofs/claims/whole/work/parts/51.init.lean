/-! THE CONSTRUCTORS -/
def NI (G : xG) (h0 h : xh) (o k : Nat) (fs : List Value) : Prop := h.1 o = some (eO 9 fs) ∧ h.2 = o + 1 + k ∧ (∀ j, j < k → h.1 (o + 1 + j) = some (eI G (mlen j) (fun _ => 0))) ∧ ∀ b, b < o → h.1 b = h0.1 b
theorem NI.arr {G : xG} {h0 h : xh} {o k N : Nat} {fs : List Value} (hn : NI G h0 h o k fs) (hl : mlen k = N) : NI G h0 (x_new h (eI G N (fun _ => 0))) o (k + 1) fs := by
  obtain ⟨h1, h2, h3, h4⟩ := hn
  refine ⟨x_new_ne (by omega) h1, by show h.2 + 1 = _; omega, fun j hj => ?_, fun b hb => x_new_ne (by omega) (h4 b hb)⟩
  by_cases z : j = k
  · subst z
    rw [hl]
    exact x_new_eq (by omega)
  · exact x_new_ne (by omega) (h3 j (by omega))
theorem NI.put {G : xG} {h0 h : xh} {o k : Nat} {fs fs2 : List Value} (hn : NI G h0 h o k fs) : NI G h0 (x_set h o (eO 9 fs2)) o k fs2 := by
  obtain ⟨h1, h2, h3, h4⟩ := hn
  exact ⟨x_set_eq, h2, fun j hj => x_set_ne (by omega) (h3 j hj), fun b hb => x_set_ne (by omega) (h4 b hb)⟩
set_option maxRecDepth 100000 in
set_option maxHeartbeats 4000000 in
theorem m_init (l : Launch) (G : xG) {h : xh} {o : Nat} (hr : h.1 o = some (eO 9 [.int 0, .int 0, .null, .int 0, .null, .null, .null, .int 0, .null, .null, .null, .int 0, .null, .null, .null, .int 0, .null, .int 0, .null, .null, .int 0, .null, .null, .null, .null, .null, .null, .null, .null, .null, .null, .int 0, .null, .null, .null, .int 0, .null, .null, .null, .int 0, .null, .null, .null])) (hn : h.2 = o + 1) : Ct l G yX9_init cX9_init 1 (Option.none : Option Jvm.ClassFile.FieldType) { frames := 1, cells := 32, slots := 7676, locals := 16 } [.ref o] h (fun v h' => v = none ∧ MO G h' o (fun _ => 0) (fun _ _ => 0) ∧ h'.2 = o + 33 ∧ ∀ b, b < o → h'.1 b = h.1 b) := by
  have hN : NI G h h o 0 [.int 0, .int 0, .null, .int 0, .null, .null, .null, .int 0, .null, .null, .null, .int 0, .null, .null, .null, .int 0, .null, .int 0, .null, .null, .int 0, .null, .null, .null, .null, .null, .null, .null, .null, .null, .null, .int 0, .null, .null, .null, .int 0, .null, .null, .null, .int 0, .null, .null, .null] := ⟨hr, by omega, fun j hj => absurd hj (Nat.not_lt_zero j), fun _ _ => rfl⟩
  refine Ct.of [some (.ref o)] (by decide +kernel) (Nat.le_of_ble_eq_true rfl) (fun p e s m args below meth c bs C hini => ?_)
  refine x_aload_n C dX9_init_0 (kk := ?_)
  refine x_oinit C tw_497 dX9_init_1 tw_20 tw_21 (kk := ?_)
  refine x_aload_n C dX9_init_4 (kk := ?_)
  refine x_bipush C dX9_init_5 (v := 100) (kk := ?_)
  refine x_newi C 100 tw_37 dX9_init_7 (kk := ?_)
  rw [hN.2.1]
  have hN := hN.arr (N := 100) rfl
  refine x_hpG (fun h8 e8 => ?_)
  rw [← e8] at hN
  clear e8
  refine x_putF C hini fp_X9_7 dX9_init_9 (hh := hN.1) (kk := ?_)
  refine x_hpG (fun h8 e8 => ?_)
  have hN : NI G h h8 o 1 [.int 0, .int 0, .ref (o + 1 + 0), .int 0, .null, .null, .null, .int 0, .null, .null, .null, .int 0, .null, .null, .null, .int 0, .null, .int 0, .null, .null, .int 0, .null, .null, .null, .null, .null, .null, .null, .null, .null, .null, .int 0, .null, .null, .null, .int 0, .null, .null, .null, .int 0, .null, .null, .null] := by rw [e8]; exact hN.put
  clear e8
  refine x_aload_n C dX9_init_12 (kk := ?_)
  refine x_bipush C dX9_init_13 (v := 100) (kk := ?_)
  refine x_newi C 100 tw_37 dX9_init_15 (kk := ?_)
  rw [hN.2.1]
  have hN := hN.arr (N := 100) rfl
  refine x_hpG (fun h8 e8 => ?_)
  rw [← e8] at hN
  clear e8
  refine x_putF C hini fp_X9_13 dX9_init_17 (hh := hN.1) (kk := ?_)
  refine x_hpG (fun h8 e8 => ?_)
  have hN : NI G h h8 o 2 [.int 0, .int 0, .ref (o + 1 + 0), .int 0, .ref (o + 1 + 1), .null, .null, .int 0, .null, .null, .null, .int 0, .null, .null, .null, .int 0, .null, .int 0, .null, .null, .int 0, .null, .null, .null, .null, .null, .null, .null, .null, .null, .null, .int 0, .null, .null, .null, .int 0, .null, .null, .null, .int 0, .null, .null, .null] := by rw [e8]; exact hN.put
  clear e8
  refine x_aload_n C dX9_init_20 (kk := ?_)
  refine x_bipush C dX9_init_21 (v := 100) (kk := ?_)
  refine x_newi C 100 tw_37 dX9_init_23 (kk := ?_)
  rw [hN.2.1]
  have hN := hN.arr (N := 100) rfl
  refine x_hpG (fun h8 e8 => ?_)
  rw [← e8] at hN
  clear e8
  refine x_putF C hini fp_X9_16 dX9_init_25 (hh := hN.1) (kk := ?_)
  refine x_hpG (fun h8 e8 => ?_)
  have hN : NI G h h8 o 3 [.int 0, .int 0, .ref (o + 1 + 0), .int 0, .ref (o + 1 + 1), .ref (o + 1 + 2), .null, .int 0, .null, .null, .null, .int 0, .null, .null, .null, .int 0, .null, .int 0, .null, .null, .int 0, .null, .null, .null, .null, .null, .null, .null, .null, .null, .null, .int 0, .null, .null, .null, .int 0, .null, .null, .null, .int 0, .null, .null, .null] := by rw [e8]; exact hN.put
  clear e8
  refine x_aload_n C dX9_init_28 (kk := ?_)
  refine x_bipush C dX9_init_29 (v := 100) (kk := ?_)
  refine x_newi C 100 tw_37 dX9_init_31 (kk := ?_)
  rw [hN.2.1]
  have hN := hN.arr (N := 100) rfl
  refine x_hpG (fun h8 e8 => ?_)
  rw [← e8] at hN
  clear e8
  refine x_putF C hini fp_X9_19 dX9_init_33 (hh := hN.1) (kk := ?_)
  refine x_hpG (fun h8 e8 => ?_)
  have hN : NI G h h8 o 4 [.int 0, .int 0, .ref (o + 1 + 0), .int 0, .ref (o + 1 + 1), .ref (o + 1 + 2), .ref (o + 1 + 3), .int 0, .null, .null, .null, .int 0, .null, .null, .null, .int 0, .null, .int 0, .null, .null, .int 0, .null, .null, .null, .null, .null, .null, .null, .null, .null, .null, .int 0, .null, .null, .null, .int 0, .null, .null, .null, .int 0, .null, .null, .null] := by rw [e8]; exact hN.put
  clear e8
  refine x_aload_n C dX9_init_36 (kk := ?_)
  refine x_bipush C dX9_init_37 (v := 40) (kk := ?_)
  refine x_newi C 40 tw_37 dX9_init_39 (kk := ?_)
  rw [hN.2.1]
  have hN := hN.arr (N := 40) rfl
  refine x_hpG (fun h8 e8 => ?_)
  rw [← e8] at hN
  clear e8
  refine x_putF C hini fp_X9_22 dX9_init_41 (hh := hN.1) (kk := ?_)
  refine x_hpG (fun h8 e8 => ?_)
  have hN : NI G h h8 o 5 [.int 0, .int 0, .ref (o + 1 + 0), .int 0, .ref (o + 1 + 1), .ref (o + 1 + 2), .ref (o + 1 + 3), .int 0, .ref (o + 1 + 4), .null, .null, .int 0, .null, .null, .null, .int 0, .null, .int 0, .null, .null, .int 0, .null, .null, .null, .null, .null, .null, .null, .null, .null, .null, .int 0, .null, .null, .null, .int 0, .null, .null, .null, .int 0, .null, .null, .null] := by rw [e8]; exact hN.put
  clear e8
  refine x_aload_n C dX9_init_44 (kk := ?_)
  refine x_bipush C dX9_init_45 (v := 40) (kk := ?_)
  refine x_newi C 40 tw_37 dX9_init_47 (kk := ?_)
  rw [hN.2.1]
  have hN := hN.arr (N := 40) rfl
  refine x_hpG (fun h8 e8 => ?_)
  rw [← e8] at hN
  clear e8
  refine x_putF C hini fp_X9_25 dX9_init_49 (hh := hN.1) (kk := ?_)
  refine x_hpG (fun h8 e8 => ?_)
  have hN : NI G h h8 o 6 [.int 0, .int 0, .ref (o + 1 + 0), .int 0, .ref (o + 1 + 1), .ref (o + 1 + 2), .ref (o + 1 + 3), .int 0, .ref (o + 1 + 4), .ref (o + 1 + 5), .null, .int 0, .null, .null, .null, .int 0, .null, .int 0, .null, .null, .int 0, .null, .null, .null, .null, .null, .null, .null, .null, .null, .null, .int 0, .null, .null, .null, .int 0, .null, .null, .null, .int 0, .null, .null, .null] := by rw [e8]; exact hN.put
  clear e8
  refine x_aload_n C dX9_init_52 (kk := ?_)
  refine x_bipush C dX9_init_53 (v := 120) (kk := ?_)
  refine x_newi C 120 tw_37 dX9_init_55 (kk := ?_)
  rw [hN.2.1]
  have hN := hN.arr (N := 120) rfl
  refine x_hpG (fun h8 e8 => ?_)
  rw [← e8] at hN
  clear e8
  refine x_putF C hini fp_X9_28 dX9_init_57 (hh := hN.1) (kk := ?_)
  refine x_hpG (fun h8 e8 => ?_)
  have hN : NI G h h8 o 7 [.int 0, .int 0, .ref (o + 1 + 0), .int 0, .ref (o + 1 + 1), .ref (o + 1 + 2), .ref (o + 1 + 3), .int 0, .ref (o + 1 + 4), .ref (o + 1 + 5), .ref (o + 1 + 6), .int 0, .null, .null, .null, .int 0, .null, .int 0, .null, .null, .int 0, .null, .null, .null, .null, .null, .null, .null, .null, .null, .null, .int 0, .null, .null, .null, .int 0, .null, .null, .null, .int 0, .null, .null, .null] := by rw [e8]; exact hN.put
  clear e8
  refine x_aload_n C dX9_init_60 (kk := ?_)
  refine x_bipush C dX9_init_61 (v := 20) (kk := ?_)
  refine x_newi C 20 tw_37 dX9_init_63 (kk := ?_)
  rw [hN.2.1]
  have hN := hN.arr (N := 20) rfl
  refine x_hpG (fun h8 e8 => ?_)
  rw [← e8] at hN
  clear e8
  refine x_putF C hini fp_X9_31 dX9_init_65 (hh := hN.1) (kk := ?_)
  refine x_hpG (fun h8 e8 => ?_)
  have hN : NI G h h8 o 8 [.int 0, .int 0, .ref (o + 1 + 0), .int 0, .ref (o + 1 + 1), .ref (o + 1 + 2), .ref (o + 1 + 3), .int 0, .ref (o + 1 + 4), .ref (o + 1 + 5), .ref (o + 1 + 6), .int 0, .ref (o + 1 + 7), .null, .null, .int 0, .null, .int 0, .null, .null, .int 0, .null, .null, .null, .null, .null, .null, .null, .null, .null, .null, .int 0, .null, .null, .null, .int 0, .null, .null, .null, .int 0, .null, .null, .null] := by rw [e8]; exact hN.put
  clear e8
  refine x_aload_n C dX9_init_68 (kk := ?_)
  refine x_bipush C dX9_init_69 (v := 20) (kk := ?_)
  refine x_newi C 20 tw_37 dX9_init_71 (kk := ?_)
  rw [hN.2.1]
  have hN := hN.arr (N := 20) rfl
  refine x_hpG (fun h8 e8 => ?_)
  rw [← e8] at hN
  clear e8
  refine x_putF C hini fp_X9_34 dX9_init_73 (hh := hN.1) (kk := ?_)
  refine x_hpG (fun h8 e8 => ?_)
  have hN : NI G h h8 o 9 [.int 0, .int 0, .ref (o + 1 + 0), .int 0, .ref (o + 1 + 1), .ref (o + 1 + 2), .ref (o + 1 + 3), .int 0, .ref (o + 1 + 4), .ref (o + 1 + 5), .ref (o + 1 + 6), .int 0, .ref (o + 1 + 7), .ref (o + 1 + 8), .null, .int 0, .null, .int 0, .null, .null, .int 0, .null, .null, .null, .null, .null, .null, .null, .null, .null, .null, .int 0, .null, .null, .null, .int 0, .null, .null, .null, .int 0, .null, .null, .null] := by rw [e8]; exact hN.put
  clear e8
  refine x_aload_n C dX9_init_76 (kk := ?_)
  refine x_bipush C dX9_init_77 (v := 20) (kk := ?_)
  refine x_newi C 20 tw_37 dX9_init_79 (kk := ?_)
  rw [hN.2.1]
  have hN := hN.arr (N := 20) rfl
  refine x_hpG (fun h8 e8 => ?_)
  rw [← e8] at hN
  clear e8
  refine x_putF C hini fp_X9_37 dX9_init_81 (hh := hN.1) (kk := ?_)
  refine x_hpG (fun h8 e8 => ?_)
  have hN : NI G h h8 o 10 [.int 0, .int 0, .ref (o + 1 + 0), .int 0, .ref (o + 1 + 1), .ref (o + 1 + 2), .ref (o + 1 + 3), .int 0, .ref (o + 1 + 4), .ref (o + 1 + 5), .ref (o + 1 + 6), .int 0, .ref (o + 1 + 7), .ref (o + 1 + 8), .ref (o + 1 + 9), .int 0, .null, .int 0, .null, .null, .int 0, .null, .null, .null, .null, .null, .null, .null, .null, .null, .null, .int 0, .null, .null, .null, .int 0, .null, .null, .null, .int 0, .null, .null, .null] := by rw [e8]; exact hN.put
  clear e8
  refine x_aload_n C dX9_init_84 (kk := ?_)
  refine x_bipush C dX9_init_85 (v := 10) (kk := ?_)
  refine x_newi C 10 tw_37 dX9_init_87 (kk := ?_)
  rw [hN.2.1]
  have hN := hN.arr (N := 10) rfl
  refine x_hpG (fun h8 e8 => ?_)
  rw [← e8] at hN
  clear e8
  refine x_putF C hini fp_X9_40 dX9_init_89 (hh := hN.1) (kk := ?_)
  refine x_hpG (fun h8 e8 => ?_)
  have hN : NI G h h8 o 11 [.int 0, .int 0, .ref (o + 1 + 0), .int 0, .ref (o + 1 + 1), .ref (o + 1 + 2), .ref (o + 1 + 3), .int 0, .ref (o + 1 + 4), .ref (o + 1 + 5), .ref (o + 1 + 6), .int 0, .ref (o + 1 + 7), .ref (o + 1 + 8), .ref (o + 1 + 9), .int 0, .ref (o + 1 + 10), .int 0, .null, .null, .int 0, .null, .null, .null, .null, .null, .null, .null, .null, .null, .null, .int 0, .null, .null, .null, .int 0, .null, .null, .null, .int 0, .null, .null, .null] := by rw [e8]; exact hN.put
  clear e8
  refine x_aload_n C dX9_init_92 (kk := ?_)
  refine x_bipush C dX9_init_93 (v := 8) (kk := ?_)
  refine x_newi C 8 tw_37 dX9_init_95 (kk := ?_)
  rw [hN.2.1]
  have hN := hN.arr (N := 8) rfl
  refine x_hpG (fun h8 e8 => ?_)
  rw [← e8] at hN
  clear e8
  refine x_putF C hini fp_X9_43 dX9_init_97 (hh := hN.1) (kk := ?_)
  refine x_hpG (fun h8 e8 => ?_)
  have hN : NI G h h8 o 12 [.int 0, .int 0, .ref (o + 1 + 0), .int 0, .ref (o + 1 + 1), .ref (o + 1 + 2), .ref (o + 1 + 3), .int 0, .ref (o + 1 + 4), .ref (o + 1 + 5), .ref (o + 1 + 6), .int 0, .ref (o + 1 + 7), .ref (o + 1 + 8), .ref (o + 1 + 9), .int 0, .ref (o + 1 + 10), .int 0, .ref (o + 1 + 11), .null, .int 0, .null, .null, .null, .null, .null, .null, .null, .null, .null, .null, .int 0, .null, .null, .null, .int 0, .null, .null, .null, .int 0, .null, .null, .null] := by rw [e8]; exact hN.put
  clear e8
  refine x_aload_n C dX9_init_100 (kk := ?_)
  refine x_bipush C dX9_init_101 (v := 8) (kk := ?_)
  refine x_newi C 8 tw_37 dX9_init_103 (kk := ?_)
  rw [hN.2.1]
  have hN := hN.arr (N := 8) rfl
  refine x_hpG (fun h8 e8 => ?_)
  rw [← e8] at hN
  clear e8
  refine x_putF C hini fp_X9_46 dX9_init_105 (hh := hN.1) (kk := ?_)
  refine x_hpG (fun h8 e8 => ?_)
  have hN : NI G h h8 o 13 [.int 0, .int 0, .ref (o + 1 + 0), .int 0, .ref (o + 1 + 1), .ref (o + 1 + 2), .ref (o + 1 + 3), .int 0, .ref (o + 1 + 4), .ref (o + 1 + 5), .ref (o + 1 + 6), .int 0, .ref (o + 1 + 7), .ref (o + 1 + 8), .ref (o + 1 + 9), .int 0, .ref (o + 1 + 10), .int 0, .ref (o + 1 + 11), .ref (o + 1 + 12), .int 0, .null, .null, .null, .null, .null, .null, .null, .null, .null, .null, .int 0, .null, .null, .null, .int 0, .null, .null, .null, .int 0, .null, .null, .null] := by rw [e8]; exact hN.put
  clear e8
  refine x_aload_n C dX9_init_108 (kk := ?_)
  refine x_bipush C dX9_init_109 (v := 21) (kk := ?_)
  refine x_newi C 21 tw_37 dX9_init_111 (kk := ?_)
  rw [hN.2.1]
  have hN := hN.arr (N := 21) rfl
  refine x_hpG (fun h8 e8 => ?_)
  rw [← e8] at hN
  clear e8
  refine x_putF C hini fp_X9_49 dX9_init_113 (hh := hN.1) (kk := ?_)
  refine x_hpG (fun h8 e8 => ?_)
  have hN : NI G h h8 o 14 [.int 0, .int 0, .ref (o + 1 + 0), .int 0, .ref (o + 1 + 1), .ref (o + 1 + 2), .ref (o + 1 + 3), .int 0, .ref (o + 1 + 4), .ref (o + 1 + 5), .ref (o + 1 + 6), .int 0, .ref (o + 1 + 7), .ref (o + 1 + 8), .ref (o + 1 + 9), .int 0, .ref (o + 1 + 10), .int 0, .ref (o + 1 + 11), .ref (o + 1 + 12), .int 0, .ref (o + 1 + 13), .null, .null, .null, .null, .null, .null, .null, .null, .null, .int 0, .null, .null, .null, .int 0, .null, .null, .null, .int 0, .null, .null, .null] := by rw [e8]; exact hN.put
  clear e8
  refine x_aload_n C dX9_init_116 (kk := ?_)
  refine x_bipush C dX9_init_117 (v := 21) (kk := ?_)
  refine x_newi C 21 tw_37 dX9_init_119 (kk := ?_)
  rw [hN.2.1]
  have hN := hN.arr (N := 21) rfl
  refine x_hpG (fun h8 e8 => ?_)
  rw [← e8] at hN
  clear e8
  refine x_putF C hini fp_X9_52 dX9_init_121 (hh := hN.1) (kk := ?_)
  refine x_hpG (fun h8 e8 => ?_)
  have hN : NI G h h8 o 15 [.int 0, .int 0, .ref (o + 1 + 0), .int 0, .ref (o + 1 + 1), .ref (o + 1 + 2), .ref (o + 1 + 3), .int 0, .ref (o + 1 + 4), .ref (o + 1 + 5), .ref (o + 1 + 6), .int 0, .ref (o + 1 + 7), .ref (o + 1 + 8), .ref (o + 1 + 9), .int 0, .ref (o + 1 + 10), .int 0, .ref (o + 1 + 11), .ref (o + 1 + 12), .int 0, .ref (o + 1 + 13), .ref (o + 1 + 14), .null, .null, .null, .null, .null, .null, .null, .null, .int 0, .null, .null, .null, .int 0, .null, .null, .null, .int 0, .null, .null, .null] := by rw [e8]; exact hN.put
  clear e8
  refine x_aload_n C dX9_init_124 (kk := ?_)
  refine x_sipush C dX9_init_125 (v := 2100) (kk := ?_)
  refine x_newi C 2100 tw_37 dX9_init_128 (kk := ?_)
  rw [hN.2.1]
  have hN := hN.arr (N := 2100) rfl
  refine x_hpG (fun h8 e8 => ?_)
  rw [← e8] at hN
  clear e8
  refine x_putF C hini fp_X9_55 dX9_init_130 (hh := hN.1) (kk := ?_)
  refine x_hpG (fun h8 e8 => ?_)
  have hN : NI G h h8 o 16 [.int 0, .int 0, .ref (o + 1 + 0), .int 0, .ref (o + 1 + 1), .ref (o + 1 + 2), .ref (o + 1 + 3), .int 0, .ref (o + 1 + 4), .ref (o + 1 + 5), .ref (o + 1 + 6), .int 0, .ref (o + 1 + 7), .ref (o + 1 + 8), .ref (o + 1 + 9), .int 0, .ref (o + 1 + 10), .int 0, .ref (o + 1 + 11), .ref (o + 1 + 12), .int 0, .ref (o + 1 + 13), .ref (o + 1 + 14), .ref (o + 1 + 15), .null, .null, .null, .null, .null, .null, .null, .int 0, .null, .null, .null, .int 0, .null, .null, .null, .int 0, .null, .null, .null] := by rw [e8]; exact hN.put
  clear e8
  refine x_aload_n C dX9_init_133 (kk := ?_)
  refine x_sipush C dX9_init_134 (v := 2100) (kk := ?_)
  refine x_newi C 2100 tw_37 dX9_init_137 (kk := ?_)
  rw [hN.2.1]
  have hN := hN.arr (N := 2100) rfl
  refine x_hpG (fun h8 e8 => ?_)
  rw [← e8] at hN
  clear e8
  refine x_putF C hini fp_X9_58 dX9_init_139 (hh := hN.1) (kk := ?_)
  refine x_hpG (fun h8 e8 => ?_)
  have hN : NI G h h8 o 17 [.int 0, .int 0, .ref (o + 1 + 0), .int 0, .ref (o + 1 + 1), .ref (o + 1 + 2), .ref (o + 1 + 3), .int 0, .ref (o + 1 + 4), .ref (o + 1 + 5), .ref (o + 1 + 6), .int 0, .ref (o + 1 + 7), .ref (o + 1 + 8), .ref (o + 1 + 9), .int 0, .ref (o + 1 + 10), .int 0, .ref (o + 1 + 11), .ref (o + 1 + 12), .int 0, .ref (o + 1 + 13), .ref (o + 1 + 14), .ref (o + 1 + 15), .ref (o + 1 + 16), .null, .null, .null, .null, .null, .null, .int 0, .null, .null, .null, .int 0, .null, .null, .null, .int 0, .null, .null, .null] := by rw [e8]; exact hN.put
  clear e8
  refine x_aload_n C dX9_init_142 (kk := ?_)
  refine x_bipush C dX9_init_143 (v := 8) (kk := ?_)
  refine x_newi C 8 tw_37 dX9_init_145 (kk := ?_)
  rw [hN.2.1]
  have hN := hN.arr (N := 8) rfl
  refine x_hpG (fun h8 e8 => ?_)
  rw [← e8] at hN
  clear e8
  refine x_putF C hini fp_X9_61 dX9_init_147 (hh := hN.1) (kk := ?_)
  refine x_hpG (fun h8 e8 => ?_)
  have hN : NI G h h8 o 18 [.int 0, .int 0, .ref (o + 1 + 0), .int 0, .ref (o + 1 + 1), .ref (o + 1 + 2), .ref (o + 1 + 3), .int 0, .ref (o + 1 + 4), .ref (o + 1 + 5), .ref (o + 1 + 6), .int 0, .ref (o + 1 + 7), .ref (o + 1 + 8), .ref (o + 1 + 9), .int 0, .ref (o + 1 + 10), .int 0, .ref (o + 1 + 11), .ref (o + 1 + 12), .int 0, .ref (o + 1 + 13), .ref (o + 1 + 14), .ref (o + 1 + 15), .ref (o + 1 + 16), .ref (o + 1 + 17), .null, .null, .null, .null, .null, .int 0, .null, .null, .null, .int 0, .null, .null, .null, .int 0, .null, .null, .null] := by rw [e8]; exact hN.put
  clear e8
  refine x_aload_n C dX9_init_150 (kk := ?_)
  refine x_bipush C dX9_init_151 (v := 8) (kk := ?_)
  refine x_newi C 8 tw_37 dX9_init_153 (kk := ?_)
  rw [hN.2.1]
  have hN := hN.arr (N := 8) rfl
  refine x_hpG (fun h8 e8 => ?_)
  rw [← e8] at hN
  clear e8
  refine x_putF C hini fp_X9_64 dX9_init_155 (hh := hN.1) (kk := ?_)
  refine x_hpG (fun h8 e8 => ?_)
  have hN : NI G h h8 o 19 [.int 0, .int 0, .ref (o + 1 + 0), .int 0, .ref (o + 1 + 1), .ref (o + 1 + 2), .ref (o + 1 + 3), .int 0, .ref (o + 1 + 4), .ref (o + 1 + 5), .ref (o + 1 + 6), .int 0, .ref (o + 1 + 7), .ref (o + 1 + 8), .ref (o + 1 + 9), .int 0, .ref (o + 1 + 10), .int 0, .ref (o + 1 + 11), .ref (o + 1 + 12), .int 0, .ref (o + 1 + 13), .ref (o + 1 + 14), .ref (o + 1 + 15), .ref (o + 1 + 16), .ref (o + 1 + 17), .ref (o + 1 + 18), .null, .null, .null, .null, .int 0, .null, .null, .null, .int 0, .null, .null, .null, .int 0, .null, .null, .null] := by rw [e8]; exact hN.put
  clear e8
  refine x_aload_n C dX9_init_158 (kk := ?_)
  refine x_bipush C dX9_init_159 (v := 8) (kk := ?_)
  refine x_newi C 8 tw_37 dX9_init_161 (kk := ?_)
  rw [hN.2.1]
  have hN := hN.arr (N := 8) rfl
  refine x_hpG (fun h8 e8 => ?_)
  rw [← e8] at hN
  clear e8
  refine x_putF C hini fp_X9_67 dX9_init_163 (hh := hN.1) (kk := ?_)
  refine x_hpG (fun h8 e8 => ?_)
  have hN : NI G h h8 o 20 [.int 0, .int 0, .ref (o + 1 + 0), .int 0, .ref (o + 1 + 1), .ref (o + 1 + 2), .ref (o + 1 + 3), .int 0, .ref (o + 1 + 4), .ref (o + 1 + 5), .ref (o + 1 + 6), .int 0, .ref (o + 1 + 7), .ref (o + 1 + 8), .ref (o + 1 + 9), .int 0, .ref (o + 1 + 10), .int 0, .ref (o + 1 + 11), .ref (o + 1 + 12), .int 0, .ref (o + 1 + 13), .ref (o + 1 + 14), .ref (o + 1 + 15), .ref (o + 1 + 16), .ref (o + 1 + 17), .ref (o + 1 + 18), .ref (o + 1 + 19), .null, .null, .null, .int 0, .null, .null, .null, .int 0, .null, .null, .null, .int 0, .null, .null, .null] := by rw [e8]; exact hN.put
  clear e8
  refine x_aload_n C dX9_init_166 (kk := ?_)
  refine x_bipush C dX9_init_167 (v := 8) (kk := ?_)
  refine x_newi C 8 tw_37 dX9_init_169 (kk := ?_)
  rw [hN.2.1]
  have hN := hN.arr (N := 8) rfl
  refine x_hpG (fun h8 e8 => ?_)
  rw [← e8] at hN
  clear e8
  refine x_putF C hini fp_X9_70 dX9_init_171 (hh := hN.1) (kk := ?_)
  refine x_hpG (fun h8 e8 => ?_)
  have hN : NI G h h8 o 21 [.int 0, .int 0, .ref (o + 1 + 0), .int 0, .ref (o + 1 + 1), .ref (o + 1 + 2), .ref (o + 1 + 3), .int 0, .ref (o + 1 + 4), .ref (o + 1 + 5), .ref (o + 1 + 6), .int 0, .ref (o + 1 + 7), .ref (o + 1 + 8), .ref (o + 1 + 9), .int 0, .ref (o + 1 + 10), .int 0, .ref (o + 1 + 11), .ref (o + 1 + 12), .int 0, .ref (o + 1 + 13), .ref (o + 1 + 14), .ref (o + 1 + 15), .ref (o + 1 + 16), .ref (o + 1 + 17), .ref (o + 1 + 18), .ref (o + 1 + 19), .ref (o + 1 + 20), .null, .null, .int 0, .null, .null, .null, .int 0, .null, .null, .null, .int 0, .null, .null, .null] := by rw [e8]; exact hN.put
  clear e8
  refine x_aload_n C dX9_init_174 (kk := ?_)
  refine x_bipush C dX9_init_175 (v := 8) (kk := ?_)
  refine x_newi C 8 tw_37 dX9_init_177 (kk := ?_)
  rw [hN.2.1]
  have hN := hN.arr (N := 8) rfl
  refine x_hpG (fun h8 e8 => ?_)
  rw [← e8] at hN
  clear e8
  refine x_putF C hini fp_X9_73 dX9_init_179 (hh := hN.1) (kk := ?_)
  refine x_hpG (fun h8 e8 => ?_)
  have hN : NI G h h8 o 22 [.int 0, .int 0, .ref (o + 1 + 0), .int 0, .ref (o + 1 + 1), .ref (o + 1 + 2), .ref (o + 1 + 3), .int 0, .ref (o + 1 + 4), .ref (o + 1 + 5), .ref (o + 1 + 6), .int 0, .ref (o + 1 + 7), .ref (o + 1 + 8), .ref (o + 1 + 9), .int 0, .ref (o + 1 + 10), .int 0, .ref (o + 1 + 11), .ref (o + 1 + 12), .int 0, .ref (o + 1 + 13), .ref (o + 1 + 14), .ref (o + 1 + 15), .ref (o + 1 + 16), .ref (o + 1 + 17), .ref (o + 1 + 18), .ref (o + 1 + 19), .ref (o + 1 + 20), .ref (o + 1 + 21), .null, .int 0, .null, .null, .null, .int 0, .null, .null, .null, .int 0, .null, .null, .null] := by rw [e8]; exact hN.put
  clear e8
  refine x_aload_n C dX9_init_182 (kk := ?_)
  refine x_bipush C dX9_init_183 (v := 8) (kk := ?_)
  refine x_newi C 8 tw_37 dX9_init_185 (kk := ?_)
  rw [hN.2.1]
  have hN := hN.arr (N := 8) rfl
  refine x_hpG (fun h8 e8 => ?_)
  rw [← e8] at hN
  clear e8
  refine x_putF C hini fp_X9_76 dX9_init_187 (hh := hN.1) (kk := ?_)
  refine x_hpG (fun h8 e8 => ?_)
  have hN : NI G h h8 o 23 [.int 0, .int 0, .ref (o + 1 + 0), .int 0, .ref (o + 1 + 1), .ref (o + 1 + 2), .ref (o + 1 + 3), .int 0, .ref (o + 1 + 4), .ref (o + 1 + 5), .ref (o + 1 + 6), .int 0, .ref (o + 1 + 7), .ref (o + 1 + 8), .ref (o + 1 + 9), .int 0, .ref (o + 1 + 10), .int 0, .ref (o + 1 + 11), .ref (o + 1 + 12), .int 0, .ref (o + 1 + 13), .ref (o + 1 + 14), .ref (o + 1 + 15), .ref (o + 1 + 16), .ref (o + 1 + 17), .ref (o + 1 + 18), .ref (o + 1 + 19), .ref (o + 1 + 20), .ref (o + 1 + 21), .ref (o + 1 + 22), .int 0, .null, .null, .null, .int 0, .null, .null, .null, .int 0, .null, .null, .null] := by rw [e8]; exact hN.put
  clear e8
  refine x_aload_n C dX9_init_190 (kk := ?_)
  refine x_sipush C dX9_init_191 (v := 300) (kk := ?_)
  refine x_newi C 300 tw_37 dX9_init_194 (kk := ?_)
  rw [hN.2.1]
  have hN := hN.arr (N := 300) rfl
  refine x_hpG (fun h8 e8 => ?_)
  rw [← e8] at hN
  clear e8
  refine x_putF C hini fp_X9_79 dX9_init_196 (hh := hN.1) (kk := ?_)
  refine x_hpG (fun h8 e8 => ?_)
  have hN : NI G h h8 o 24 [.int 0, .int 0, .ref (o + 1 + 0), .int 0, .ref (o + 1 + 1), .ref (o + 1 + 2), .ref (o + 1 + 3), .int 0, .ref (o + 1 + 4), .ref (o + 1 + 5), .ref (o + 1 + 6), .int 0, .ref (o + 1 + 7), .ref (o + 1 + 8), .ref (o + 1 + 9), .int 0, .ref (o + 1 + 10), .int 0, .ref (o + 1 + 11), .ref (o + 1 + 12), .int 0, .ref (o + 1 + 13), .ref (o + 1 + 14), .ref (o + 1 + 15), .ref (o + 1 + 16), .ref (o + 1 + 17), .ref (o + 1 + 18), .ref (o + 1 + 19), .ref (o + 1 + 20), .ref (o + 1 + 21), .ref (o + 1 + 22), .int 0, .ref (o + 1 + 23), .null, .null, .int 0, .null, .null, .null, .int 0, .null, .null, .null] := by rw [e8]; exact hN.put
  clear e8
  refine x_aload_n C dX9_init_199 (kk := ?_)
  refine x_sipush C dX9_init_200 (v := 300) (kk := ?_)
  refine x_newi C 300 tw_37 dX9_init_203 (kk := ?_)
  rw [hN.2.1]
  have hN := hN.arr (N := 300) rfl
  refine x_hpG (fun h8 e8 => ?_)
  rw [← e8] at hN
  clear e8
  refine x_putF C hini fp_X9_82 dX9_init_205 (hh := hN.1) (kk := ?_)
  refine x_hpG (fun h8 e8 => ?_)
  have hN : NI G h h8 o 25 [.int 0, .int 0, .ref (o + 1 + 0), .int 0, .ref (o + 1 + 1), .ref (o + 1 + 2), .ref (o + 1 + 3), .int 0, .ref (o + 1 + 4), .ref (o + 1 + 5), .ref (o + 1 + 6), .int 0, .ref (o + 1 + 7), .ref (o + 1 + 8), .ref (o + 1 + 9), .int 0, .ref (o + 1 + 10), .int 0, .ref (o + 1 + 11), .ref (o + 1 + 12), .int 0, .ref (o + 1 + 13), .ref (o + 1 + 14), .ref (o + 1 + 15), .ref (o + 1 + 16), .ref (o + 1 + 17), .ref (o + 1 + 18), .ref (o + 1 + 19), .ref (o + 1 + 20), .ref (o + 1 + 21), .ref (o + 1 + 22), .int 0, .ref (o + 1 + 23), .ref (o + 1 + 24), .null, .int 0, .null, .null, .null, .int 0, .null, .null, .null] := by rw [e8]; exact hN.put
  clear e8
  refine x_aload_n C dX9_init_208 (kk := ?_)
  refine x_sipush C dX9_init_209 (v := 300) (kk := ?_)
  refine x_newi C 300 tw_37 dX9_init_212 (kk := ?_)
  rw [hN.2.1]
  have hN := hN.arr (N := 300) rfl
  refine x_hpG (fun h8 e8 => ?_)
  rw [← e8] at hN
  clear e8
  refine x_putF C hini fp_X9_85 dX9_init_214 (hh := hN.1) (kk := ?_)
  refine x_hpG (fun h8 e8 => ?_)
  have hN : NI G h h8 o 26 [.int 0, .int 0, .ref (o + 1 + 0), .int 0, .ref (o + 1 + 1), .ref (o + 1 + 2), .ref (o + 1 + 3), .int 0, .ref (o + 1 + 4), .ref (o + 1 + 5), .ref (o + 1 + 6), .int 0, .ref (o + 1 + 7), .ref (o + 1 + 8), .ref (o + 1 + 9), .int 0, .ref (o + 1 + 10), .int 0, .ref (o + 1 + 11), .ref (o + 1 + 12), .int 0, .ref (o + 1 + 13), .ref (o + 1 + 14), .ref (o + 1 + 15), .ref (o + 1 + 16), .ref (o + 1 + 17), .ref (o + 1 + 18), .ref (o + 1 + 19), .ref (o + 1 + 20), .ref (o + 1 + 21), .ref (o + 1 + 22), .int 0, .ref (o + 1 + 23), .ref (o + 1 + 24), .ref (o + 1 + 25), .int 0, .null, .null, .null, .int 0, .null, .null, .null] := by rw [e8]; exact hN.put
  clear e8
  refine x_aload_n C dX9_init_217 (kk := ?_)
  refine x_sipush C dX9_init_218 (v := 300) (kk := ?_)
  refine x_newi C 300 tw_37 dX9_init_221 (kk := ?_)
  rw [hN.2.1]
  have hN := hN.arr (N := 300) rfl
  refine x_hpG (fun h8 e8 => ?_)
  rw [← e8] at hN
  clear e8
  refine x_putF C hini fp_X9_88 dX9_init_223 (hh := hN.1) (kk := ?_)
  refine x_hpG (fun h8 e8 => ?_)
  have hN : NI G h h8 o 27 [.int 0, .int 0, .ref (o + 1 + 0), .int 0, .ref (o + 1 + 1), .ref (o + 1 + 2), .ref (o + 1 + 3), .int 0, .ref (o + 1 + 4), .ref (o + 1 + 5), .ref (o + 1 + 6), .int 0, .ref (o + 1 + 7), .ref (o + 1 + 8), .ref (o + 1 + 9), .int 0, .ref (o + 1 + 10), .int 0, .ref (o + 1 + 11), .ref (o + 1 + 12), .int 0, .ref (o + 1 + 13), .ref (o + 1 + 14), .ref (o + 1 + 15), .ref (o + 1 + 16), .ref (o + 1 + 17), .ref (o + 1 + 18), .ref (o + 1 + 19), .ref (o + 1 + 20), .ref (o + 1 + 21), .ref (o + 1 + 22), .int 0, .ref (o + 1 + 23), .ref (o + 1 + 24), .ref (o + 1 + 25), .int 0, .ref (o + 1 + 26), .null, .null, .int 0, .null, .null, .null] := by rw [e8]; exact hN.put
  clear e8
  refine x_aload_n C dX9_init_226 (kk := ?_)
  refine x_sipush C dX9_init_227 (v := 300) (kk := ?_)
  refine x_newi C 300 tw_37 dX9_init_230 (kk := ?_)
  rw [hN.2.1]
  have hN := hN.arr (N := 300) rfl
  refine x_hpG (fun h8 e8 => ?_)
  rw [← e8] at hN
  clear e8
  refine x_putF C hini fp_X9_91 dX9_init_232 (hh := hN.1) (kk := ?_)
  refine x_hpG (fun h8 e8 => ?_)
  have hN : NI G h h8 o 28 [.int 0, .int 0, .ref (o + 1 + 0), .int 0, .ref (o + 1 + 1), .ref (o + 1 + 2), .ref (o + 1 + 3), .int 0, .ref (o + 1 + 4), .ref (o + 1 + 5), .ref (o + 1 + 6), .int 0, .ref (o + 1 + 7), .ref (o + 1 + 8), .ref (o + 1 + 9), .int 0, .ref (o + 1 + 10), .int 0, .ref (o + 1 + 11), .ref (o + 1 + 12), .int 0, .ref (o + 1 + 13), .ref (o + 1 + 14), .ref (o + 1 + 15), .ref (o + 1 + 16), .ref (o + 1 + 17), .ref (o + 1 + 18), .ref (o + 1 + 19), .ref (o + 1 + 20), .ref (o + 1 + 21), .ref (o + 1 + 22), .int 0, .ref (o + 1 + 23), .ref (o + 1 + 24), .ref (o + 1 + 25), .int 0, .ref (o + 1 + 26), .ref (o + 1 + 27), .null, .int 0, .null, .null, .null] := by rw [e8]; exact hN.put
  clear e8
  refine x_aload_n C dX9_init_235 (kk := ?_)
  refine x_sipush C dX9_init_236 (v := 300) (kk := ?_)
  refine x_newi C 300 tw_37 dX9_init_239 (kk := ?_)
  rw [hN.2.1]
  have hN := hN.arr (N := 300) rfl
  refine x_hpG (fun h8 e8 => ?_)
  rw [← e8] at hN
  clear e8
  refine x_putF C hini fp_X9_94 dX9_init_241 (hh := hN.1) (kk := ?_)
  refine x_hpG (fun h8 e8 => ?_)
  have hN : NI G h h8 o 29 [.int 0, .int 0, .ref (o + 1 + 0), .int 0, .ref (o + 1 + 1), .ref (o + 1 + 2), .ref (o + 1 + 3), .int 0, .ref (o + 1 + 4), .ref (o + 1 + 5), .ref (o + 1 + 6), .int 0, .ref (o + 1 + 7), .ref (o + 1 + 8), .ref (o + 1 + 9), .int 0, .ref (o + 1 + 10), .int 0, .ref (o + 1 + 11), .ref (o + 1 + 12), .int 0, .ref (o + 1 + 13), .ref (o + 1 + 14), .ref (o + 1 + 15), .ref (o + 1 + 16), .ref (o + 1 + 17), .ref (o + 1 + 18), .ref (o + 1 + 19), .ref (o + 1 + 20), .ref (o + 1 + 21), .ref (o + 1 + 22), .int 0, .ref (o + 1 + 23), .ref (o + 1 + 24), .ref (o + 1 + 25), .int 0, .ref (o + 1 + 26), .ref (o + 1 + 27), .ref (o + 1 + 28), .int 0, .null, .null, .null] := by rw [e8]; exact hN.put
  clear e8
  refine x_aload_n C dX9_init_244 (kk := ?_)
  refine x_sipush C dX9_init_245 (v := 300) (kk := ?_)
  refine x_newi C 300 tw_37 dX9_init_248 (kk := ?_)
  rw [hN.2.1]
  have hN := hN.arr (N := 300) rfl
  refine x_hpG (fun h8 e8 => ?_)
  rw [← e8] at hN
  clear e8
  refine x_putF C hini fp_X9_97 dX9_init_250 (hh := hN.1) (kk := ?_)
  refine x_hpG (fun h8 e8 => ?_)
  have hN : NI G h h8 o 30 [.int 0, .int 0, .ref (o + 1 + 0), .int 0, .ref (o + 1 + 1), .ref (o + 1 + 2), .ref (o + 1 + 3), .int 0, .ref (o + 1 + 4), .ref (o + 1 + 5), .ref (o + 1 + 6), .int 0, .ref (o + 1 + 7), .ref (o + 1 + 8), .ref (o + 1 + 9), .int 0, .ref (o + 1 + 10), .int 0, .ref (o + 1 + 11), .ref (o + 1 + 12), .int 0, .ref (o + 1 + 13), .ref (o + 1 + 14), .ref (o + 1 + 15), .ref (o + 1 + 16), .ref (o + 1 + 17), .ref (o + 1 + 18), .ref (o + 1 + 19), .ref (o + 1 + 20), .ref (o + 1 + 21), .ref (o + 1 + 22), .int 0, .ref (o + 1 + 23), .ref (o + 1 + 24), .ref (o + 1 + 25), .int 0, .ref (o + 1 + 26), .ref (o + 1 + 27), .ref (o + 1 + 28), .int 0, .ref (o + 1 + 29), .null, .null] := by rw [e8]; exact hN.put
  clear e8
  refine x_aload_n C dX9_init_253 (kk := ?_)
  refine x_sipush C dX9_init_254 (v := 300) (kk := ?_)
  refine x_newi C 300 tw_37 dX9_init_257 (kk := ?_)
  rw [hN.2.1]
  have hN := hN.arr (N := 300) rfl
  refine x_hpG (fun h8 e8 => ?_)
  rw [← e8] at hN
  clear e8
  refine x_putF C hini fp_X9_100 dX9_init_259 (hh := hN.1) (kk := ?_)
  refine x_hpG (fun h8 e8 => ?_)
  have hN : NI G h h8 o 31 [.int 0, .int 0, .ref (o + 1 + 0), .int 0, .ref (o + 1 + 1), .ref (o + 1 + 2), .ref (o + 1 + 3), .int 0, .ref (o + 1 + 4), .ref (o + 1 + 5), .ref (o + 1 + 6), .int 0, .ref (o + 1 + 7), .ref (o + 1 + 8), .ref (o + 1 + 9), .int 0, .ref (o + 1 + 10), .int 0, .ref (o + 1 + 11), .ref (o + 1 + 12), .int 0, .ref (o + 1 + 13), .ref (o + 1 + 14), .ref (o + 1 + 15), .ref (o + 1 + 16), .ref (o + 1 + 17), .ref (o + 1 + 18), .ref (o + 1 + 19), .ref (o + 1 + 20), .ref (o + 1 + 21), .ref (o + 1 + 22), .int 0, .ref (o + 1 + 23), .ref (o + 1 + 24), .ref (o + 1 + 25), .int 0, .ref (o + 1 + 26), .ref (o + 1 + 27), .ref (o + 1 + 28), .int 0, .ref (o + 1 + 29), .ref (o + 1 + 30), .null] := by rw [e8]; exact hN.put
  clear e8
  refine x_aload_n C dX9_init_262 (kk := ?_)
  refine x_sipush C dX9_init_263 (v := 300) (kk := ?_)
  refine x_newi C 300 tw_37 dX9_init_266 (kk := ?_)
  rw [hN.2.1]
  have hN := hN.arr (N := 300) rfl
  refine x_hpG (fun h8 e8 => ?_)
  rw [← e8] at hN
  clear e8
  refine x_putF C hini fp_X9_103 dX9_init_268 (hh := hN.1) (kk := ?_)
  refine x_hpG (fun h8 e8 => ?_)
  have hN : NI G h h8 o 32 [.int 0, .int 0, .ref (o + 1 + 0), .int 0, .ref (o + 1 + 1), .ref (o + 1 + 2), .ref (o + 1 + 3), .int 0, .ref (o + 1 + 4), .ref (o + 1 + 5), .ref (o + 1 + 6), .int 0, .ref (o + 1 + 7), .ref (o + 1 + 8), .ref (o + 1 + 9), .int 0, .ref (o + 1 + 10), .int 0, .ref (o + 1 + 11), .ref (o + 1 + 12), .int 0, .ref (o + 1 + 13), .ref (o + 1 + 14), .ref (o + 1 + 15), .ref (o + 1 + 16), .ref (o + 1 + 17), .ref (o + 1 + 18), .ref (o + 1 + 19), .ref (o + 1 + 20), .ref (o + 1 + 21), .ref (o + 1 + 22), .int 0, .ref (o + 1 + 23), .ref (o + 1 + 24), .ref (o + 1 + 25), .int 0, .ref (o + 1 + 26), .ref (o + 1 + 27), .ref (o + 1 + 28), .int 0, .ref (o + 1 + 29), .ref (o + 1 + 30), .ref (o + 1 + 31)] := by rw [e8]; exact hN.put
  clear e8
  refine x_aload_n C dX9_init_271 (kk := ?_)
  refine x_iconst C dX9_init_272 (v := 0) (kk := ?_)
  refine x_put C fp_X9_106 dX9_init_273 (hh := hN.1) (kk := ?_)
  refine x_hpG (fun h8 e8 => ?_)
  have hN : NI G h h8 o 32 [.int 0, .int 0, .ref (o + 1 + 0), .int 0, .ref (o + 1 + 1), .ref (o + 1 + 2), .ref (o + 1 + 3), .int 0, .ref (o + 1 + 4), .ref (o + 1 + 5), .ref (o + 1 + 6), .int 0, .ref (o + 1 + 7), .ref (o + 1 + 8), .ref (o + 1 + 9), .int 0, .ref (o + 1 + 10), .int 0, .ref (o + 1 + 11), .ref (o + 1 + 12), .int 0, .ref (o + 1 + 13), .ref (o + 1 + 14), .ref (o + 1 + 15), .ref (o + 1 + 16), .ref (o + 1 + 17), .ref (o + 1 + 18), .ref (o + 1 + 19), .ref (o + 1 + 20), .ref (o + 1 + 21), .ref (o + 1 + 22), .int 0, .ref (o + 1 + 23), .ref (o + 1 + 24), .ref (o + 1 + 25), .int 0, .ref (o + 1 + 26), .ref (o + 1 + 27), .ref (o + 1 + 28), .int 0, .ref (o + 1 + 29), .ref (o + 1 + 30), .ref (o + 1 + 31)] := by rw [e8]; exact hN.put
  clear e8
  refine x_vret C rfl dX9_init_276 (hp := ?_)
  exact ⟨rfl, ⟨hN.1, hN.2.2.1⟩, hN.2.1, hN.2.2.2⟩
