/-! THE TABLES AND FILTERS OF THE CLASS -/
def Zt (G : xG) (h : xh) (z : Nat) (zs : List Int32) : Prop := zs.length ≤ 10 ∧ h.1 z = some (eO 7 [.ref (z + 1), .int (nI zs.length)]) ∧ ∃ f : Nat → Int32, h.1 (z + 1) = some (eI G 10 f) ∧ fL f zs
theorem Zt.fr {G : xG} {h h' : xh} {z : Nat} {zs : List Int32} {A : Nat → Prop} (k : Zt G h z zs) (f : Fr A h h') (hd : ∀ b, At z 2 b → ¬ A b) : Zt G h' z zs := by
  obtain ⟨h0, h1, g, h2, h3⟩ := k
  exact ⟨h0, f.at (hd _ ⟨by omega, by omega⟩) h1, g, f.at (hd _ ⟨by omega, by omega⟩) h2, h3⟩
set_option maxRecDepth 100000 in
set_option maxHeartbeats 4000000 in
theorem c_z_size (l : Launch) (G : xG) {h : xh} {z : Nat} {zs : List Int32} (hz : Zt G h z zs) : Ct l G yX7_size cX7_size 1 (Option.some Jvm.ClassFile.FieldType.int) { frames := 0, cells := 0, slots := 0, locals := 0 } [.ref z] h (fun v h' => v = some (.int (nI zs.length)) ∧ h' = h) := by
  obtain ⟨hn, g0, f, g1, k0⟩ := hz
  refine Ct.of [some (.ref z)] (by decide +kernel) (Nat.le_of_ble_eq_true rfl) (fun p e s m args below meth c bs C hini => ?_)
  refine x_aload_n C dX7_size_0 (kk := ?_)
  refine x_get C fl_X7_15 dX7_size_1 (kk := ?_)
  refine x_iret C rfl dX7_size_4 (hp := ?_)
  exact ⟨rfl, rfl⟩
set_option maxRecDepth 100000 in
set_option maxHeartbeats 4000000 in
theorem c_z_add (l : Launch) (G : xG) {h : xh} {z : Nat} {zs : List Int32} (x : Int32) (hz : Zt G h z zs) : Ct l G yX7_add cX7_add 2 (Option.some Jvm.ClassFile.FieldType.boolean) { frames := 0, cells := 0, slots := 0, locals := 0 } [.ref z, .int x] h (fun v h' => (zs.length < 10 ∧ v = some (.int 1) ∧ Zt G h' z (zs ++ [x]) ∧ Fr (At z 2) h h') ∨ (zs.length = 10 ∧ v = some (.int 0) ∧ h' = h)) := by
  obtain ⟨hn, g0, f, g1, k0⟩ := hz
  refine Ct.of [some (.ref z), some (.int x)] (by decide +kernel) (Nat.le_of_ble_eq_true rfl) (fun p e s m args below meth c bs C hini => ?_)
  refine x_aload_n C dX7_add_0 (kk := ?_)
  refine x_get C fl_X7_15 dX7_add_1 (kk := ?_)
  refine x_bipush C dX7_add_4 (v := 10) (kk := ?_)
  refine x_ncmp_lt C zs.length 10 dX7_add_6 11 (fun hc6 => ?_) (fun hc6 => ?_)
  · refine x_aload_n C dX7_add_11 (kk := ?_)
    refine x_get C fl_X7_9 dX7_add_12 (kk := ?_)
    refine x_aload_n C dX7_add_15 (kk := ?_)
    refine x_get C fl_X7_15 dX7_add_16 (kk := ?_)
    refine x_iload_n C dX7_add_19 (kk := ?_)
    refine x_iast C _ dX7_add_20 (kk := ?_)
    refine x_aload_n C dX7_add_21 (kk := ?_)
    refine x_dup C dX7_add_22 (kk := ?_)
    refine x_get C fl_X7_15 dX7_add_23 (kk := ?_)
    refine x_iconst C dX7_add_26 (v := 1) (kk := ?_)
    refine x_iadd C dX7_add_27 ?_
    refine x_top _ (nI_1 zs.length) ?_
    refine x_put C fp_X7_15 dX7_add_28 (kk := ?_)
    refine x_iconst C dX7_add_31 (v := 1) (kk := ?_)
    refine x_zret C rfl dX7_add_32 (by first | exact Or.inl rfl | exact Or.inr rfl | assumption | exact ite01 _) (hp := ?_)
    first | exact Or.inr ⟨by omega, rfl, rfl⟩ | exact Or.inl ⟨by omega, rfl, ⟨by simp; omega, by rw [List.length_append]; exact x_set_eq, _, x_set_ne (by omega) x_set_eq, fL_app k0 rfl⟩, (Fr.rf.set ⟨by omega, by omega⟩).set ⟨by omega, by omega⟩⟩
  · refine x_iconst C dX7_add_9 (v := 0) (kk := ?_)
    refine x_zret C rfl dX7_add_10 (by first | exact Or.inl rfl | exact Or.inr rfl | assumption | exact ite01 _) (hp := ?_)
    first | exact Or.inr ⟨by omega, rfl, rfl⟩ | exact Or.inl ⟨by omega, rfl, ⟨by simp; omega, by rw [List.length_append]; exact x_set_eq, _, x_set_ne (by omega) x_set_eq, fL_app k0 rfl⟩, (Fr.rf.set ⟨by omega, by omega⟩).set ⟨by omega, by omega⟩⟩
set_option maxRecDepth 100000 in
set_option maxHeartbeats 4000000 in
theorem c_z_digitOf (l : Launch) (G : xG) {h : xh} {z : Nat} {zs : List Int32} (x : Int32) (hz : Zt G h z zs) : Ct l G yX7_digitOf cX7_digitOf 3 (Option.some Jvm.ClassFile.FieldType.int) { frames := 0, cells := 0, slots := 0, locals := 0 } [.ref z, .int x] h (fun v h' => v = some (.int (zdig zs x)) ∧ h' = h) := by
  obtain ⟨hn, g0, f, g1, k0⟩ := hz
  refine Ct.of [some (.ref z), some (.int x), none] (by decide +kernel) (Nat.le_of_ble_eq_true rfl) (fun p e s m args below meth c bs C hini => ?_)
  have loop : ∀ (n i : Nat), zs.length - i < n → i ≤ zs.length → zdig zs x = zdig (zs.drop i) x → X p l e { frames := 0, cells := 0, slots := 0, locals := 0 } s m args below meth c G bs (MQ below (x_Q G bs (fun v h' => v = some (.int (zdig zs x)) ∧ h' = h)) args s 0 0 (fun q => bs ≤ q)) 0 0 2 [some (.ref z), some (.int x), some (.int (nI i))] [] h := by
    intro n
    induction n with
    | zero => intro i hn; omega
    | succ n ih =>
      intro i hn hi hd
      refine x_iload_n C dX7_digitOf_2 (kk := ?_)
      refine x_aload_n C dX7_digitOf_3 (kk := ?_)
      refine x_get C fl_X7_15 dX7_digitOf_4 (kk := ?_)
      refine x_ncmp_ge C i zs.length dX7_digitOf_7 48 (fun hc7 => ?_) (fun hc7 => ?_)
      · refine x_bipush C dX7_digitOf_48 (kk := ?_)
        refine x_iret C rfl dX7_digitOf_50 (hp := ?_)
        exact ⟨by rw [hd, List.drop_eq_nil_of_le hc7]; rfl, rfl⟩
      obtain ⟨v, hv⟩ : ∃ v, zs[i]? = some v := ⟨zs[i], List.getElem?_eq_getElem hc7⟩
      have hf := k0 i v hv
      subst hf
      rw [drop_at hv, zdig_cons] at hd
      refine x_iload_n C dX7_digitOf_10 (kk := ?_)
      refine x_aload_n C dX7_digitOf_11 (kk := ?_)
      refine x_get C fl_X7_9 dX7_digitOf_12 (kk := ?_)
      refine x_iload_n C dX7_digitOf_15 (kk := ?_)
      refine x_iald C _ dX7_digitOf_16 (kk := ?_)
      refine x_icmp_lt C dX7_digitOf_17 42 (fun hc17 => ?_) (fun hc17 => ?_)
      · refine x_iinc1 C dX7_digitOf_42 (kk := ?_)
        refine x_goto C dX7_digitOf_45 2 ?_
        exact ih (i + 1) (by omega) (by omega) (by rw [hd, if_neg (fun z => Int32.not_le.mpr hc17 z.1)])
      · refine x_iload_n C dX7_digitOf_20 (kk := ?_)
        refine x_aload_n C dX7_digitOf_21 (kk := ?_)
        refine x_get C fl_X7_9 dX7_digitOf_22 (kk := ?_)
        refine x_iload_n C dX7_digitOf_25 (kk := ?_)
        refine x_iald C _ dX7_digitOf_26 (kk := ?_)
        refine x_bipush C dX7_digitOf_27 (v := 9) (kk := ?_)
        refine x_iadd C dX7_digitOf_29 ?_
        refine x_icmp_gt C dX7_digitOf_30 42 (fun hc30 => ?_) (fun hc30 => ?_)
        · refine x_iinc1 C dX7_digitOf_42 (kk := ?_)
          refine x_goto C dX7_digitOf_45 2 ?_
          exact ih (i + 1) (by omega) (by omega) (by rw [hd, if_neg (fun z => Int32.not_le.mpr hc30 z.2)])
        · refine x_iload_n C dX7_digitOf_33 (kk := ?_)
          refine x_aload_n C dX7_digitOf_34 (kk := ?_)
          refine x_get C fl_X7_9 dX7_digitOf_35 (kk := ?_)
          refine x_iload_n C dX7_digitOf_38 (kk := ?_)
          refine x_iald C _ dX7_digitOf_39 (kk := ?_)
          refine x_isub C dX7_digitOf_40 ?_
          refine x_iret C rfl dX7_digitOf_41 (hp := ?_)
          exact ⟨by rw [hd, if_pos ⟨Int32.not_lt.mp hc17, Int32.not_lt.mp hc30⟩], rfl⟩
  refine x_iconst C dX7_digitOf_0 (v := 0) (kk := ?_)
  refine x_istore_n C dX7_digitOf_1 (kk := ?_)
  exact loop (zs.length + 1) 0 (by omega) (by omega) rfl
def Rt (G : xG) (h : xh) (z : Nat) (rs : List Rg) : Prop := rs.length ≤ 8 ∧ h.1 z = some (eO 3 [.ref (z + 1), .ref (z + 2), .int (nI rs.length)]) ∧ ∃ f g : Nat → Int32, h.1 (z + 1) = some (eI G 8 f) ∧ h.1 (z + 2) = some (eI G 8 g) ∧ fL f (rs.map (·.1)) ∧ fL g (rs.map (·.2))
theorem Rt.fr {G : xG} {h h' : xh} {z : Nat} {rs : List Rg} {A : Nat → Prop} (k : Rt G h z rs) (f : Fr A h h') (hd : ∀ b, At z 3 b → ¬ A b) : Rt G h' z rs := by
  obtain ⟨h0, h1, g, g', h2, h3, h4⟩ := k
  exact ⟨h0, f.at (hd _ ⟨by omega, by omega⟩) h1, g, g', f.at (hd _ ⟨by omega, by omega⟩) h2, f.at (hd _ ⟨by omega, by omega⟩) h3, h4⟩
set_option maxRecDepth 100000 in
set_option maxHeartbeats 4000000 in
theorem c_r_size (l : Launch) (G : xG) {h : xh} {z : Nat} {rs : List Rg} (hz : Rt G h z rs) : Ct l G yX3_size cX3_size 1 (Option.some Jvm.ClassFile.FieldType.int) { frames := 0, cells := 0, slots := 0, locals := 0 } [.ref z] h (fun v h' => v = some (.int (nI rs.length)) ∧ h' = h) := by
  obtain ⟨hn, g0, f, g, g1, g2, k0, k1⟩ := hz
  refine Ct.of [some (.ref z)] (by decide +kernel) (Nat.le_of_ble_eq_true rfl) (fun p e s m args below meth c bs C hini => ?_)
  refine x_aload_n C dX3_size_0 (kk := ?_)
  refine x_get C fl_X3_18 dX3_size_1 (kk := ?_)
  refine x_iret C rfl dX3_size_4 (hp := ?_)
  exact ⟨rfl, rfl⟩
set_option maxRecDepth 100000 in
set_option maxHeartbeats 4000000 in
theorem c_r_add (l : Launch) (G : xG) {h : xh} {z : Nat} {rs : List Rg} (x y : Int32) (hz : Rt G h z rs) : Ct l G yX3_add cX3_add 3 (Option.some Jvm.ClassFile.FieldType.boolean) { frames := 0, cells := 0, slots := 0, locals := 0 } [.ref z, .int x, .int y] h (fun v h' => (rs.length < 8 ∧ v = some (.int 1) ∧ Rt G h' z (rs ++ [(x, y)]) ∧ Fr (At z 3) h h') ∨ (rs.length = 8 ∧ v = some (.int 0) ∧ h' = h)) := by
  obtain ⟨hn, g0, f, g, g1, g2, k0, k1⟩ := hz
  refine Ct.of [some (.ref z), some (.int x), some (.int y)] (by decide +kernel) (Nat.le_of_ble_eq_true rfl) (fun p e s m args below meth c bs C hini => ?_)
  refine x_aload_n C dX3_add_0 (kk := ?_)
  refine x_get C fl_X3_18 dX3_add_1 (kk := ?_)
  refine x_bipush C dX3_add_4 (v := 8) (kk := ?_)
  refine x_ncmp_lt C rs.length 8 dX3_add_6 11 (fun hc6 => ?_) (fun hc6 => ?_)
  · refine x_aload_n C dX3_add_11 (kk := ?_)
    refine x_get C fl_X3_9 dX3_add_12 (kk := ?_)
    refine x_aload_n C dX3_add_15 (kk := ?_)
    refine x_get C fl_X3_18 dX3_add_16 (kk := ?_)
    refine x_iload_n C dX3_add_19 (kk := ?_)
    refine x_iast C _ dX3_add_20 (kk := ?_)
    refine x_aload_n C dX3_add_21 (kk := ?_)
    refine x_get C fl_X3_15 dX3_add_22 (kk := ?_)
    refine x_aload_n C dX3_add_25 (kk := ?_)
    refine x_get C fl_X3_18 dX3_add_26 (kk := ?_)
    refine x_iload_n C dX3_add_29 (kk := ?_)
    refine x_iast C _ dX3_add_30 (kk := ?_)
    refine x_aload_n C dX3_add_31 (kk := ?_)
    refine x_dup C dX3_add_32 (kk := ?_)
    refine x_get C fl_X3_18 dX3_add_33 (kk := ?_)
    refine x_iconst C dX3_add_36 (v := 1) (kk := ?_)
    refine x_iadd C dX3_add_37 ?_
    refine x_top _ (nI_1 rs.length) ?_
    refine x_put C fp_X3_18 dX3_add_38 (kk := ?_)
    refine x_iconst C dX3_add_41 (v := 1) (kk := ?_)
    refine x_zret C rfl dX3_add_42 (by first | exact Or.inl rfl | exact Or.inr rfl | assumption | exact ite01 _) (hp := ?_)
    first | exact Or.inr ⟨by omega, rfl, rfl⟩ | exact Or.inl ⟨by omega, rfl, ⟨by simp; omega, by rw [List.length_append]; exact x_set_eq, _, _, x_set_ne (by omega) (x_set_ne (by omega) x_set_eq), x_set_ne (by omega) x_set_eq, by rw [List.map_append]; exact fL_app k0 (by simp), by rw [List.map_append]; exact fL_app k1 (by simp)⟩, ((Fr.rf.set ⟨by omega, by omega⟩).set ⟨by omega, by omega⟩).set ⟨by omega, by omega⟩⟩
  · refine x_iconst C dX3_add_9 (v := 0) (kk := ?_)
    refine x_zret C rfl dX3_add_10 (by first | exact Or.inl rfl | exact Or.inr rfl | assumption | exact ite01 _) (hp := ?_)
    first | exact Or.inr ⟨by omega, rfl, rfl⟩ | exact Or.inl ⟨by omega, rfl, ⟨by simp; omega, by rw [List.length_append]; exact x_set_eq, _, _, x_set_ne (by omega) (x_set_ne (by omega) x_set_eq), x_set_ne (by omega) x_set_eq, by rw [List.map_append]; exact fL_app k0 (by simp), by rw [List.map_append]; exact fL_app k1 (by simp)⟩, ((Fr.rf.set ⟨by omega, by omega⟩).set ⟨by omega, by omega⟩).set ⟨by omega, by omega⟩⟩
set_option maxRecDepth 100000 in
set_option maxHeartbeats 4000000 in
theorem c_r_holds (l : Launch) (G : xG) {h : xh} {z : Nat} {rs : List Rg} (x : Int32) (hz : Rt G h z rs) : Ct l G yX3_holds cX3_holds 3 (Option.some Jvm.ClassFile.FieldType.boolean) { frames := 0, cells := 0, slots := 0, locals := 0 } [.ref z, .int x] h (fun v h' => v = some (.int (if rhas rs x = true then 1 else 0)) ∧ h' = h) := by
  obtain ⟨hn, g0, f, g, g1, g2, k0, k1⟩ := hz
  refine Ct.of [some (.ref z), some (.int x), none] (by decide +kernel) (Nat.le_of_ble_eq_true rfl) (fun p e s m args below meth c bs C hini => ?_)
  have loop : ∀ (n i : Nat), rs.length - i < n → i ≤ rs.length → rhas rs x = rhas (rs.drop i) x → X p l e { frames := 0, cells := 0, slots := 0, locals := 0 } s m args below meth c G bs (MQ below (x_Q G bs (fun v h' => v = some (.int (if rhas rs x = true then 1 else 0)) ∧ h' = h)) args s 0 0 (fun q => bs ≤ q)) 0 0 2 [some (.ref z), some (.int x), some (.int (nI i))] [] h := by
    intro n
    induction n with
    | zero => intro i hn; omega
    | succ n ih =>
      intro i hn hi hd
      refine x_iload_n C dX3_holds_2 (kk := ?_)
      refine x_aload_n C dX3_holds_3 (kk := ?_)
      refine x_get C fl_X3_18 dX3_holds_4 (kk := ?_)
      refine x_ncmp_ge C i rs.length dX3_holds_7 38 (fun hc7 => ?_) (fun hc7 => ?_)
      · refine x_iconst C dX3_holds_38 (kk := ?_)
        refine x_zret C rfl dX3_holds_39 (Or.inl rfl) (hp := ?_)
        exact ⟨by rw [hd, List.drop_eq_nil_of_le hc7]; rfl, rfl⟩
      obtain ⟨v, hv⟩ : ∃ v, rs[i]? = some v := ⟨rs[i], List.getElem?_eq_getElem hc7⟩
      have hf := fL_at k0 hv
      have hg := fL_at k1 hv
      obtain ⟨v1, v2⟩ := v
      dsimp only at hf hg
      subst hf
      subst hg
      rw [drop_at hv, rhas_cons] at hd
      refine x_iload_n C dX3_holds_10 (kk := ?_)
      refine x_aload_n C dX3_holds_11 (kk := ?_)
      refine x_get C fl_X3_9 dX3_holds_12 (kk := ?_)
      refine x_iload_n C dX3_holds_15 (kk := ?_)
      refine x_iald C _ dX3_holds_16 (kk := ?_)
      refine x_icmp_lt C dX3_holds_17 32 (fun hc17 => ?_) (fun hc17 => ?_)
      · refine x_iinc1 C dX3_holds_32 (kk := ?_)
        refine x_goto C dX3_holds_35 2 ?_
        exact ih (i + 1) (by omega) (by omega) (by rw [hd, if_neg (fun z => Int32.not_le.mpr hc17 z.1)])
      · refine x_iload_n C dX3_holds_20 (kk := ?_)
        refine x_aload_n C dX3_holds_21 (kk := ?_)
        refine x_get C fl_X3_15 dX3_holds_22 (kk := ?_)
        refine x_iload_n C dX3_holds_25 (kk := ?_)
        refine x_iald C _ dX3_holds_26 (kk := ?_)
        refine x_icmp_gt C dX3_holds_27 32 (fun hc27 => ?_) (fun hc27 => ?_)
        · refine x_iinc1 C dX3_holds_32 (kk := ?_)
          refine x_goto C dX3_holds_35 2 ?_
          exact ih (i + 1) (by omega) (by omega) (by rw [hd, if_neg (fun z => Int32.not_le.mpr hc27 z.2)])
        · refine x_iconst C dX3_holds_30 (v := 1) (kk := ?_)
          refine x_zret C rfl dX3_holds_31 (by first | exact Or.inl rfl | exact Or.inr rfl | assumption | exact ite01 _) (hp := ?_)
          refine ⟨?_, rfl⟩
          rw [hd, if_pos (And.intro (Int32.not_lt.mp hc17) (Int32.not_lt.mp hc27))]
          rfl
  refine x_iconst C dX3_holds_0 (v := 0) (kk := ?_)
  refine x_istore_n C dX3_holds_1 (kk := ?_)
  exact loop (rs.length + 1) 0 (by omega) (by omega) rfl
def Fa (h : xh) (a : Nat) (kd rl sm sg rm rg : Int32) : Prop := h.1 a = some (eO 0 [.int kd, .int rl, .int sm, .int sg, .int rm, .int rg])
set_option maxRecDepth 100000 in
set_option maxHeartbeats 4000000 in
theorem c_f_begin (l : Launch) (G : xG) {h : xh} {a : Nat} {kd rl sm sg rm rg : Int32} (hf : Fa h a kd rl sm sg rm rg) : Ct l G yX0_beginRun cX0_beginRun 1 (Option.none : Option Jvm.ClassFile.FieldType) { frames := 0, cells := 0, slots := 0, locals := 0 } [.ref a] h (fun v h' => v = none ∧ Fa h' a kd rl sm sg 0 0 ∧ Fr (At a 1) h h') := by
  unfold Fa at hf
  refine Ct.of [some (.ref a)] (by decide +kernel) (Nat.le_of_ble_eq_true rfl) (fun p e s m args below meth c bs C hini => ?_)
  refine x_aload_n C dX0_beginRun_0 (kk := ?_)
  refine x_iconst C dX0_beginRun_1 (v := 0) (kk := ?_)
  refine x_put C fp_X0_21 dX0_beginRun_2 (kk := ?_)
  refine x_aload_n C dX0_beginRun_5 (kk := ?_)
  refine x_iconst C dX0_beginRun_6 (v := 0) (kk := ?_)
  refine x_put C fp_X0_24 dX0_beginRun_7 (kk := ?_)
  refine x_vret C rfl dX0_beginRun_10 (hp := ?_)
  exact ⟨rfl, x_set_eq, (Fr.rf.set ⟨by omega, by omega⟩).set ⟨by omega, by omega⟩⟩
set_option maxRecDepth 100000 in
set_option maxHeartbeats 4000000 in
theorem c_f_meet (l : Launch) (G : xG) {h : xh} {a : Nat} {kd rl sm sg rm rg : Int32} (hf : Fa h a kd rl sm sg rm rg) : Ct l G yX0_meetOne cX0_meetOne 1 (Option.none : Option Jvm.ClassFile.FieldType) { frames := 0, cells := 0, slots := 0, locals := 0 } [.ref a] h (fun v h' => v = none ∧ Fa h' a kd rl sm sg (rm + 1) rg ∧ Fr (At a 1) h h') := by
  unfold Fa at hf
  refine Ct.of [some (.ref a)] (by decide +kernel) (Nat.le_of_ble_eq_true rfl) (fun p e s m args below meth c bs C hini => ?_)
  refine x_aload_n C dX0_meetOne_0 (kk := ?_)
  refine x_dup C dX0_meetOne_1 (kk := ?_)
  refine x_get C fl_X0_21 dX0_meetOne_2 (kk := ?_)
  refine x_iconst C dX0_meetOne_5 (v := 1) (kk := ?_)
  refine x_iadd C dX0_meetOne_6 ?_
  refine x_put C fp_X0_21 dX0_meetOne_7 (kk := ?_)
  refine x_vret C rfl dX0_meetOne_10 (hp := ?_)
  exact ⟨rfl, x_set_eq, (Fr.rf.set ⟨by omega, by omega⟩)⟩
set_option maxRecDepth 100000 in
set_option maxHeartbeats 4000000 in
theorem c_f_grow (l : Launch) (G : xG) {h : xh} {a : Nat} {kd rl sm sg rm rg : Int32} (x : Int32) (hf : Fa h a kd rl sm sg rm rg) : Ct l G yX0_growBy cX0_growBy 2 (Option.none : Option Jvm.ClassFile.FieldType) { frames := 0, cells := 0, slots := 0, locals := 0 } [.ref a, .int x] h (fun v h' => v = none ∧ Fa h' a kd rl sm sg rm (rg + x) ∧ Fr (At a 1) h h') := by
  unfold Fa at hf
  refine Ct.of [some (.ref a), some (.int x)] (by decide +kernel) (Nat.le_of_ble_eq_true rfl) (fun p e s m args below meth c bs C hini => ?_)
  refine x_aload_n C dX0_growBy_0 (kk := ?_)
  refine x_dup C dX0_growBy_1 (kk := ?_)
  refine x_get C fl_X0_24 dX0_growBy_2 (kk := ?_)
  refine x_iload_n C dX0_growBy_5 (kk := ?_)
  refine x_iadd C dX0_growBy_6 ?_
  refine x_put C fp_X0_24 dX0_growBy_7 (kk := ?_)
  refine x_vret C rfl dX0_growBy_10 (hp := ?_)
  exact ⟨rfl, x_set_eq, (Fr.rf.set ⟨by omega, by omega⟩)⟩
set_option maxRecDepth 100000 in
set_option maxHeartbeats 4000000 in
theorem c_f_settle (l : Launch) (G : xG) {h : xh} {a : Nat} {kd rl sm sg rm rg : Int32} (hf : Fa h a kd rl sm sg rm rg) : Ct l G yX0_settleRun cX0_settleRun 1 (Option.none : Option Jvm.ClassFile.FieldType) { frames := 0, cells := 0, slots := 0, locals := 0 } [.ref a] h (fun v h' => v = none ∧ Fa h' a kd rl rm rg rm rg ∧ Fr (At a 1) h h') := by
  unfold Fa at hf
  refine Ct.of [some (.ref a)] (by decide +kernel) (Nat.le_of_ble_eq_true rfl) (fun p e s m args below meth c bs C hini => ?_)
  refine x_aload_n C dX0_settleRun_0 (kk := ?_)
  refine x_aload_n C dX0_settleRun_1 (kk := ?_)
  refine x_get C fl_X0_21 dX0_settleRun_2 (kk := ?_)
  refine x_put C fp_X0_15 dX0_settleRun_5 (kk := ?_)
  refine x_aload_n C dX0_settleRun_8 (kk := ?_)
  refine x_aload_n C dX0_settleRun_9 (kk := ?_)
  refine x_get C fl_X0_24 dX0_settleRun_10 (kk := ?_)
  refine x_put C fp_X0_18 dX0_settleRun_13 (kk := ?_)
  refine x_vret C rfl dX0_settleRun_16 (hp := ?_)
  exact ⟨rfl, x_set_eq, (Fr.rf.set ⟨by omega, by omega⟩).set ⟨by omega, by omega⟩⟩
set_option maxRecDepth 100000 in
set_option maxHeartbeats 4000000 in
theorem c_f_init (l : Launch) (G : xG) {h : xh} {a : Nat} (kd : Int32) (hf : Fa h a 0 0 0 0 0 0) : Ct l G yX0_init cX0_init 2 (Option.none : Option Jvm.ClassFile.FieldType) { frames := 1, cells := 0, slots := 0, locals := 16 } [.ref a, .int kd] h (fun v h' => v = none ∧ Fa h' a kd 0 0 0 0 0 ∧ Fr (At a 1) h h') := by
  unfold Fa at hf
  refine Ct.of [some (.ref a), some (.int kd)] (by decide +kernel) (Nat.le_of_ble_eq_true rfl) (fun p e s m args below meth c bs C hini => ?_)
  refine x_aload_n C dX0_init_0 (kk := ?_)
  refine x_oinit C tw_299 dX0_init_1 tw_20 tw_21 (kk := ?_)
  refine x_aload_n C dX0_init_4 (kk := ?_)
  refine x_iconst C dX0_init_5 (v := 0) (kk := ?_)
  refine x_put C fp_X0_9 dX0_init_6 (kk := ?_)
  refine x_aload_n C dX0_init_9 (kk := ?_)
  refine x_iconst C dX0_init_10 (v := 0) (kk := ?_)
  refine x_put C fp_X0_15 dX0_init_11 (kk := ?_)
  refine x_aload_n C dX0_init_14 (kk := ?_)
  refine x_iconst C dX0_init_15 (v := 0) (kk := ?_)
  refine x_put C fp_X0_18 dX0_init_16 (kk := ?_)
  refine x_aload_n C dX0_init_19 (kk := ?_)
  refine x_iconst C dX0_init_20 (v := 0) (kk := ?_)
  refine x_put C fp_X0_21 dX0_init_21 (kk := ?_)
  refine x_aload_n C dX0_init_24 (kk := ?_)
  refine x_iconst C dX0_init_25 (v := 0) (kk := ?_)
  refine x_put C fp_X0_24 dX0_init_26 (kk := ?_)
  refine x_aload_n C dX0_init_29 (kk := ?_)
  refine x_iload_n C dX0_init_30 (kk := ?_)
  refine x_putF C hini fp_X0_27 dX0_init_31 (kk := ?_)
  refine x_vret C rfl dX0_init_34 (hp := ?_)
  exact ⟨rfl, x_set_eq, ((((((Fr.rf.set ⟨by omega, by omega⟩).set ⟨by omega, by omega⟩).set ⟨by omega, by omega⟩).set ⟨by omega, by omega⟩).set ⟨by omega, by omega⟩).set ⟨by omega, by omega⟩)⟩
