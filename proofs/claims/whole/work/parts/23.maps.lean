/-! PAIRS AND FOLDS OF THE CLASS -/
theorem fL_put {f : Nat → Int32} {q : List Int32} {n : Nat} {v : Int32} (h : fL f q) (hn : q.length = n) : fL (upd f n v) (q ++ [v]) := fL_app h hn
def Pt (G : xG) (h : xh) (z : Nat) (ps : List Pr) : Prop := ps.length ≤ 20 ∧ (ps.map (·.1)).Nodup ∧ h.1 z = some (eO 2 [.ref (z + 1), .ref (z + 2), .ref (z + 3), .int (nI ps.length)]) ∧ ∃ f g k : Nat → Int32, h.1 (z + 1) = some (eI G 20 f) ∧ h.1 (z + 2) = some (eI G 20 g) ∧ h.1 (z + 3) = some (eI G 20 k) ∧ fL f (ps.map (·.1.1)) ∧ fL g (ps.map (·.1.2)) ∧ fL k (ps.map (·.2))
theorem Pt.fr {G : xG} {h h' : xh} {z : Nat} {ps : List Pr} {A : Nat → Prop} (k : Pt G h z ps) (f : Fr A h h') (hd : ∀ b, At z 4 b → ¬ A b) : Pt G h' z ps := by
  obtain ⟨h0, h1, h2, f0, g0, k0, h3, h4, h5, h6⟩ := k
  exact ⟨h0, h1, f.at (hd _ ⟨by omega, by omega⟩) h2, f0, g0, k0, f.at (hd _ ⟨by omega, by omega⟩) h3, f.at (hd _ ⟨by omega, by omega⟩) h4, f.at (hd _ ⟨by omega, by omega⟩) h5, h6⟩
set_option maxRecDepth 100000 in
set_option maxHeartbeats 4000000 in
theorem c_p_size (l : Launch) (G : xG) {h : xh} {z : Nat} {ps : List Pr} (hz : Pt G h z ps) : Ct l G yX2_size cX2_size 1 (Option.some Jvm.ClassFile.FieldType.int) { frames := 0, cells := 0, slots := 0, locals := 0 } [.ref z] h (fun v h' => v = some (.int (nI ps.length)) ∧ h' = h) := by
  obtain ⟨hn, hnd, g0, f, g, k, g1, g2, g3, k0, k1, k2⟩ := hz
  refine Ct.of [some (.ref z)] (by decide +kernel) (Nat.le_of_ble_eq_true rfl) (fun p e s m args below meth c bs C hini => ?_)
  refine x_aload_n C dX2_size_0 (kk := ?_)
  refine x_get C fl_X2_21 dX2_size_1 (kk := ?_)
  refine x_iret C rfl dX2_size_4 (hp := ?_)
  exact ⟨rfl, rfl⟩
set_option maxRecDepth 100000 in
set_option maxHeartbeats 4000000 in
theorem c_p_slotOf (l : Launch) (G : xG) {h : xh} {z : Nat} {ps : List Pr} (x y : Int32) (hz : Pt G h z ps) : Ct l G yX2_slotOf cX2_slotOf 4 (Option.some Jvm.ClassFile.FieldType.int) { frames := 0, cells := 0, slots := 0, locals := 0 } [.ref z, .int x, .int y] h (fun v h' => ∃ r, v = some (.int r) ∧ slotR (ps.map (·.1)) (x, y) r ∧ h' = h) := by
  obtain ⟨hn, hnd, g0, f, g, k, g1, g2, g3, k0, k1, k2⟩ := hz
  refine Ct.of [some (.ref z), some (.int x), some (.int y), none] (by decide +kernel) (Nat.le_of_ble_eq_true rfl) (fun p e s m args below meth c bs C hini => ?_)
  have loop : ∀ (n i : Nat), ps.length - i < n → i ≤ ps.length → (x, y) ∉ (ps.map (·.1)).take i → X p l e { frames := 0, cells := 0, slots := 0, locals := 0 } s m args below meth c G bs (MQ below (x_Q G bs (fun v h' => ∃ r, v = some (.int r) ∧ slotR (ps.map (·.1)) (x, y) r ∧ h' = h)) args s 0 0 (fun q => bs ≤ q)) 0 0 2 [some (.ref z), some (.int x), some (.int y), some (.int (nI i))] [] h := by
    intro n
    induction n with
    | zero => intro i hn; omega
    | succ n ih =>
      intro i hn hi hd
      refine x_iload_n C dX2_slotOf_2 (kk := ?_)
      refine x_aload_n C dX2_slotOf_3 (kk := ?_)
      refine x_get C fl_X2_21 dX2_slotOf_4 (kk := ?_)
      refine x_ncmp_ge C i ps.length dX2_slotOf_7 38 (fun hc7 => ?_) (fun hc7 => ?_)
      · refine x_iconst C dX2_slotOf_38 (v := -1) (kk := ?_)
        refine x_iret C rfl dX2_slotOf_39 (hp := ?_)
        exact ⟨_, rfl, Or.inl ⟨rfl, by rw [List.take_of_length_le (by simpa using hc7)] at hd; exact hd⟩, rfl⟩
      obtain ⟨⟨⟨v1, v2⟩, v3⟩, hv⟩ : ∃ v, ps[i]? = some v := ⟨ps[i], List.getElem?_eq_getElem hc7⟩
      have hf := fL_at k0 hv
      have hg := fL_at k1 hv
      dsimp only at hf hg
      have hk : (ps.map (·.1))[i]? = some (v1, v2) := by simp [hv]
      refine x_aload_n C dX2_slotOf_10 (kk := ?_)
      refine x_get C fl_X2_9 dX2_slotOf_11 (kk := ?_)
      refine x_iload_n C dX2_slotOf_14 (kk := ?_)
      refine x_iald C _ dX2_slotOf_15 (kk := ?_)
      refine x_iload_n C dX2_slotOf_16 (kk := ?_)
      refine x_icmp_ne C dX2_slotOf_17 32 (fun hc17 => ?_) (fun hc17 => ?_)
      · refine x_iinc1 C dX2_slotOf_32 (kk := ?_)
        refine x_goto C dX2_slotOf_35 2 ?_
        exact ih (i + 1) (by omega) (by omega) (by rw [take_at hk]; intro z; rcases List.mem_append.mp z with z | z; exact hd z; rw [List.mem_singleton, Prod.mk.injEq] at z; exact hc17 (hf.trans z.1.symm))
      · refine x_aload_n C dX2_slotOf_20 (kk := ?_)
        refine x_get C fl_X2_15 dX2_slotOf_21 (kk := ?_)
        refine x_iload_n C dX2_slotOf_24 (kk := ?_)
        refine x_iald C _ dX2_slotOf_25 (kk := ?_)
        refine x_iload_n C dX2_slotOf_26 (kk := ?_)
        refine x_icmp_ne C dX2_slotOf_27 32 (fun hc27 => ?_) (fun hc27 => ?_)
        · refine x_iinc1 C dX2_slotOf_32 (kk := ?_)
          refine x_goto C dX2_slotOf_35 2 ?_
          exact ih (i + 1) (by omega) (by omega) (by rw [take_at hk]; intro z; rcases List.mem_append.mp z with z | z; exact hd z; rw [List.mem_singleton, Prod.mk.injEq] at z; exact hc27 (hg.trans z.2.symm))
        · refine x_iload_n C dX2_slotOf_30 (kk := ?_)
          refine x_iret C rfl dX2_slotOf_31 (hp := ?_)
          exact ⟨_, rfl, Or.inr ⟨i, rfl, by rw [hk, ← hf, ← hg, hc17, hc27]⟩, rfl⟩
  refine x_iconst C dX2_slotOf_0 (v := 0) (kk := ?_)
  refine x_istore_n C dX2_slotOf_1 (kk := ?_)
  exact loop (ps.length + 1) 0 (by omega) (by omega) (by simp)
theorem slotR_some {α : Type} {ks : List α} {x : α} {r : Int32} {k : Nat} (h : slotR ks x r) (hk : ks[k]? = some x) (hn : ks.Nodup) (hl : ks.length < 2 ^ 31) : r = nI k := by
  rcases h with ⟨-, h⟩ | ⟨j, rfl, hj⟩
  · exact absurd (List.mem_of_getElem? hk) h
  · have hjl : j < ks.length := (List.getElem?_eq_some_iff.mp hj).1
    have : j = k := (List.getElem?_inj hjl hn).mp (hj.trans hk.symm)
    rw [this]
theorem nI_m1 {n : Nat} (h : n < 2 ^ 31) : nI n ≠ -1 := by
  intro z
  have h1 := nI_toInt h
  rw [z] at h1
  have : (-1 : Int32).toInt = -1 := by decide
  omega
set_option maxRecDepth 100000 in
set_option maxHeartbeats 4000000 in
theorem c_p_signAt (l : Launch) (G : xG) {h : xh} {z : Nat} {ps : List Pr} {k : Nat} {v : Pr} (hk : ps[k]? = some v) (hz : Pt G h z ps) : Ct l G yX2_signAt cX2_signAt 2 (Option.some Jvm.ClassFile.FieldType.int) { frames := 0, cells := 0, slots := 0, locals := 0 } [.ref z, .int (nI k)] h (fun r h' => r = some (.int v.2) ∧ h' = h) := by
  have hkl : k < ps.length := (List.getElem?_eq_some_iff.mp hk).1
  obtain ⟨hn, hnd, g0, f, g, k', g1, g2, g3, k0, k1, k2⟩ := hz
  refine Ct.of [some (.ref z), some (.int (nI k))] (by decide +kernel) (Nat.le_of_ble_eq_true rfl) (fun p e s m args below meth c bs C hini => ?_)
  refine x_iload_n C dX2_signAt_0 (kk := ?_)
  refine x_if_lt C dX2_signAt_1 21 (fun hc1 => ?_) (fun hc1 => ?_)
  · exact absurd hc1 (nI_pos (by omega))
  · refine x_iload_n C dX2_signAt_4 (kk := ?_)
    refine x_aload_n C dX2_signAt_5 (kk := ?_)
    refine x_get C fl_X2_21 dX2_signAt_6 (kk := ?_)
    refine x_ncmp_ge C k ps.length dX2_signAt_9 21 (fun hc9 => ?_) (fun hc9 => ?_)
    · omega
    · refine x_aload_n C dX2_signAt_12 (kk := ?_)
      refine x_get C fl_X2_18 dX2_signAt_13 (kk := ?_)
      refine x_iload_n C dX2_signAt_16 (kk := ?_)
      refine x_iald C _ dX2_signAt_17 (kk := ?_)
      refine x_goto C dX2_signAt_18 22 ?_
      refine x_iret C rfl dX2_signAt_22 (hp := ?_)
      exact ⟨by rw [fL_at k2 hk], rfl⟩
set_option maxRecDepth 100000 in
set_option maxHeartbeats 4000000 in
theorem c_p_put (l : Launch) (G : xG) {h : xh} {z : Nat} {ps : List Pr} (x y w : Int32) (hz : Pt G h z ps) : Ct l G yX2_put cX2_put 5 (Option.some Jvm.ClassFile.FieldType.boolean) { frames := 1, cells := 0, slots := 0, locals := 23 } [.ref z, .int x, .int y, .int w] h (fun v h' => (((x, y) ∈ ps.map (·.1) ∨ ps.length < 20) ∧ v = some (.int 1) ∧ Pt G h' z (aput ps (x, y) w) ∧ Fr (At z 4) h h') ∨ ((x, y) ∉ ps.map (·.1) ∧ ps.length = 20 ∧ v = some (.int 0) ∧ h' = h)) := by
  have hz0 := hz
  obtain ⟨hn, hnd, g0, f, g, k, g1, g2, g3, k0, k1, k2⟩ := hz
  refine Ct.of [some (.ref z), some (.int x), some (.int y), some (.int w), none] (by decide +kernel) (Nat.le_of_ble_eq_true rfl) (fun p e s m args below meth c bs C hini => ?_)
  refine x_aload_n C dX2_put_0 (kk := ?_)
  refine x_iload_n C dX2_put_1 (kk := ?_)
  refine x_iload_n C dX2_put_2 (kk := ?_)
  refine x_callV C ml_X2_slotOf lk_X2_25 (c_p_slotOf l G x y hz0) dX2_put_3 (fun r3 h3 hp3 => ?_)
  obtain ⟨r, rfl, hs, rfl⟩ := hp3
  refine x_istore C dX2_put_6 (kk := ?_)
  refine x_iload C dX2_put_8 (kk := ?_)
  refine x_iconst C dX2_put_10 (v := -1) (kk := ?_)
  rcases hs with ⟨rfl, hno⟩ | ⟨j, rfl, hj⟩
  rotate_left
  · have hjl : j < ps.length := by simpa using (List.getElem?_eq_some_iff.mp hj).1
    refine x_icmp_ne C dX2_put_11 41 (fun hc11 => ?_) (fun hc11 => absurd hc11 (nI_m1 (by omega)))
    refine x_aload_n C dX2_put_41 (kk := ?_)
    refine x_get C fl_X2_9 dX2_put_42 (kk := ?_)
    refine x_iload C dX2_put_45 (kk := ?_)
    refine x_iload_n C dX2_put_47 (kk := ?_)
    refine x_iast C _ dX2_put_48 (kk := ?_)
    refine x_aload_n C dX2_put_49 (kk := ?_)
    refine x_get C fl_X2_15 dX2_put_50 (kk := ?_)
    refine x_iload C dX2_put_53 (kk := ?_)
    refine x_iload_n C dX2_put_55 (kk := ?_)
    refine x_iast C _ dX2_put_56 (kk := ?_)
    refine x_aload_n C dX2_put_57 (kk := ?_)
    refine x_get C fl_X2_18 dX2_put_58 (kk := ?_)
    refine x_iload C dX2_put_61 (kk := ?_)
    refine x_iload_n C dX2_put_63 (kk := ?_)
    refine x_iast C _ dX2_put_64 (kk := ?_)
    refine x_iconst C dX2_put_65 (v := 1) (kk := ?_)
    refine x_zret C rfl dX2_put_66 (by first | exact Or.inl rfl | exact Or.inr rfl | assumption | exact ite01 _) (hp := ?_)
    first | exact Or.inl ⟨Or.inl (List.mem_of_getElem? hj), rfl, by rw [aput_old hnd hj]; exact ⟨by simp; exact hn, by rw [← aput_old (v := w) hnd hj]; exact aput_keys hnd, by rw [List.length_set]; exact x_set_ne (by omega) (x_set_ne (by omega) (x_set_ne (by omega) g0)), _, _, _, x_set_ne (by omega) (x_set_ne (by omega) x_set_eq), x_set_ne (by omega) x_set_eq, x_set_eq, by rw [List.map_set]; exact fL_set k0, by rw [List.map_set]; exact fL_set k1, by rw [List.map_set]; exact fL_set k2⟩, ((Fr.rf.set ⟨by omega, by omega⟩).set ⟨by omega, by omega⟩).set ⟨by omega, by omega⟩⟩ | exact Or.inr ⟨hno, by omega, rfl, rfl⟩ | exact Or.inl ⟨Or.inr (by omega), rfl, by rw [aput_new hno]; exact ⟨by simp; omega, by rw [← aput_new (v := w) hno]; exact aput_keys hnd, by rw [List.length_append]; exact x_set_ne (by omega) (x_set_ne (by omega) (x_set_ne (by omega) x_set_eq)), _, _, _, x_set_ne (by omega) (x_set_ne (by omega) x_set_eq), x_set_ne (by omega) x_set_eq, x_set_eq, by rw [List.map_append]; exact fL_app k0 (by simp), by rw [List.map_append]; exact fL_app k1 (by simp), by rw [List.map_append]; exact fL_app k2 (by simp)⟩, (((Fr.rf.set ⟨by omega, by omega⟩).set ⟨by omega, by omega⟩).set ⟨by omega, by omega⟩).set ⟨by omega, by omega⟩⟩
  refine x_icmp_ne C dX2_put_11 41 (fun hc11 => absurd rfl hc11) (fun hc11 => ?_)
  refine x_aload_n C dX2_put_14 (kk := ?_)
  refine x_get C fl_X2_21 dX2_put_15 (kk := ?_)
  refine x_bipush C dX2_put_18 (v := 20) (kk := ?_)
  refine x_ncmp_lt C ps.length 20 dX2_put_20 25 (fun hc20 => ?_) (fun hc20 => ?_)
  · refine x_aload_n C dX2_put_25 (kk := ?_)
    refine x_get C fl_X2_21 dX2_put_26 (kk := ?_)
    refine x_istore C dX2_put_29 (kk := ?_)
    refine x_aload_n C dX2_put_31 (kk := ?_)
    refine x_dup C dX2_put_32 (kk := ?_)
    refine x_get C fl_X2_21 dX2_put_33 (kk := ?_)
    refine x_iconst C dX2_put_36 (v := 1) (kk := ?_)
    refine x_iadd C dX2_put_37 ?_
    refine x_top _ (nI_1 ps.length) ?_
    refine x_put C fp_X2_21 dX2_put_38 (kk := ?_)
    refine x_aload_n C dX2_put_41 (kk := ?_)
    refine x_get C fl_X2_9 dX2_put_42 (kk := ?_)
    refine x_iload C dX2_put_45 (kk := ?_)
    refine x_iload_n C dX2_put_47 (kk := ?_)
    refine x_iast C _ dX2_put_48 (kk := ?_)
    refine x_aload_n C dX2_put_49 (kk := ?_)
    refine x_get C fl_X2_15 dX2_put_50 (kk := ?_)
    refine x_iload C dX2_put_53 (kk := ?_)
    refine x_iload_n C dX2_put_55 (kk := ?_)
    refine x_iast C _ dX2_put_56 (kk := ?_)
    refine x_aload_n C dX2_put_57 (kk := ?_)
    refine x_get C fl_X2_18 dX2_put_58 (kk := ?_)
    refine x_iload C dX2_put_61 (kk := ?_)
    refine x_iload_n C dX2_put_63 (kk := ?_)
    refine x_iast C _ dX2_put_64 (kk := ?_)
    refine x_iconst C dX2_put_65 (v := 1) (kk := ?_)
    refine x_zret C rfl dX2_put_66 (by first | exact Or.inl rfl | exact Or.inr rfl | assumption | exact ite01 _) (hp := ?_)
    first | exact Or.inl ⟨Or.inl (List.mem_of_getElem? hj), rfl, by rw [aput_old hnd hj]; exact ⟨by simp; exact hn, by rw [← aput_old (v := w) hnd hj]; exact aput_keys hnd, by rw [List.length_set]; exact x_set_ne (by omega) (x_set_ne (by omega) (x_set_ne (by omega) g0)), _, _, _, x_set_ne (by omega) (x_set_ne (by omega) x_set_eq), x_set_ne (by omega) x_set_eq, x_set_eq, by rw [List.map_set]; exact fL_set k0, by rw [List.map_set]; exact fL_set k1, by rw [List.map_set]; exact fL_set k2⟩, ((Fr.rf.set ⟨by omega, by omega⟩).set ⟨by omega, by omega⟩).set ⟨by omega, by omega⟩⟩ | exact Or.inr ⟨hno, by omega, rfl, rfl⟩ | exact Or.inl ⟨Or.inr (by omega), rfl, by rw [aput_new hno]; exact ⟨by simp; omega, by rw [← aput_new (v := w) hno]; exact aput_keys hnd, by rw [List.length_append]; exact x_set_ne (by omega) (x_set_ne (by omega) (x_set_ne (by omega) x_set_eq)), _, _, _, x_set_ne (by omega) (x_set_ne (by omega) x_set_eq), x_set_ne (by omega) x_set_eq, x_set_eq, by rw [List.map_append]; exact fL_app k0 (by simp), by rw [List.map_append]; exact fL_app k1 (by simp), by rw [List.map_append]; exact fL_app k2 (by simp)⟩, (((Fr.rf.set ⟨by omega, by omega⟩).set ⟨by omega, by omega⟩).set ⟨by omega, by omega⟩).set ⟨by omega, by omega⟩⟩
  · refine x_iconst C dX2_put_23 (v := 0) (kk := ?_)
    refine x_zret C rfl dX2_put_24 (by first | exact Or.inl rfl | exact Or.inr rfl | assumption | exact ite01 _) (hp := ?_)
    first | exact Or.inl ⟨Or.inl (List.mem_of_getElem? hj), rfl, by rw [aput_old hnd hj]; exact ⟨by simp; exact hn, by rw [← aput_old (v := w) hnd hj]; exact aput_keys hnd, by rw [List.length_set]; exact x_set_ne (by omega) (x_set_ne (by omega) (x_set_ne (by omega) g0)), _, _, _, x_set_ne (by omega) (x_set_ne (by omega) x_set_eq), x_set_ne (by omega) x_set_eq, x_set_eq, by rw [List.map_set]; exact fL_set k0, by rw [List.map_set]; exact fL_set k1, by rw [List.map_set]; exact fL_set k2⟩, ((Fr.rf.set ⟨by omega, by omega⟩).set ⟨by omega, by omega⟩).set ⟨by omega, by omega⟩⟩ | exact Or.inr ⟨hno, by omega, rfl, rfl⟩ | exact Or.inl ⟨Or.inr (by omega), rfl, by rw [aput_new hno]; exact ⟨by simp; omega, by rw [← aput_new (v := w) hno]; exact aput_keys hnd, by rw [List.length_append]; exact x_set_ne (by omega) (x_set_ne (by omega) (x_set_ne (by omega) x_set_eq)), _, _, _, x_set_ne (by omega) (x_set_ne (by omega) x_set_eq), x_set_ne (by omega) x_set_eq, x_set_eq, by rw [List.map_append]; exact fL_app k0 (by simp), by rw [List.map_append]; exact fL_app k1 (by simp), by rw [List.map_append]; exact fL_app k2 (by simp)⟩, (((Fr.rf.set ⟨by omega, by omega⟩).set ⟨by omega, by omega⟩).set ⟨by omega, by omega⟩).set ⟨by omega, by omega⟩⟩
