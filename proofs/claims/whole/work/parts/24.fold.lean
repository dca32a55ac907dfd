/-! FOLDS OF THE CLASS -/
def wfP (ps : List Int32) : Prop := ps.length ≤ 3 ∧ ∀ v ∈ ps, (0 : Int32) ≤ v
def Ft (G : xG) (h : xh) (z : Nat) (fo : List Fo) : Prop := fo.length ≤ 40 ∧ (fo.map (·.1)).Nodup ∧ (∀ e ∈ fo, wfP e.2) ∧ h.1 z = some (eO 1 [.ref (z + 1), .ref (z + 2), .ref (z + 3), .ref (z + 4), .int (nI fo.length)]) ∧ ∃ f0 f1 f2 f3 : Nat → Int32, h.1 (z + 1) = some (eI G 40 f0) ∧ h.1 (z + 2) = some (eI G 40 f1) ∧ h.1 (z + 3) = some (eI G 40 f2) ∧ h.1 (z + 4) = some (eI G 40 f3) ∧ fL f0 (fo.map (·.1)) ∧ fL f1 (fo.map (fun e => e.2.getD 0 (-1))) ∧ fL f2 (fo.map (fun e => e.2.getD 1 (-1))) ∧ fL f3 (fo.map (fun e => e.2.getD 2 (-1)))
theorem Ft.fr {G : xG} {h h' : xh} {z : Nat} {fo : List Fo} {A : Nat → Prop} (k : Ft G h z fo) (f : Fr A h h') (hd : ∀ b, At z 5 b → ¬ A b) : Ft G h' z fo := by
  obtain ⟨h0, h1, hw, h2, f0, f1, f2, f3, h3, h4, h5, h6, h7⟩ := k
  exact ⟨h0, h1, hw, f.at (hd _ ⟨by omega, by omega⟩) h2, f0, f1, f2, f3, f.at (hd _ ⟨by omega, by omega⟩) h3, f.at (hd _ ⟨by omega, by omega⟩) h4, f.at (hd _ ⟨by omega, by omega⟩) h5, f.at (hd _ ⟨by omega, by omega⟩) h6, h7⟩
theorem getD_ge {ps : List Int32} (h : ∀ v ∈ ps, (0 : Int32) ≤ v) {i : Nat} (hi : i < ps.length) : ps.getD i (-1) ≠ -1 := by
  have e : ps.getD i (-1) = ps[i] := by simp [hi]
  rw [e]
  intro z
  have := h _ (List.getElem_mem hi)
  rw [z] at this
  exact absurd this (by decide)
theorem getD_no {ps : List Int32} {i : Nat} (hi : ps.length ≤ i) : ps.getD i (-1) = -1 := by simp [hi]
theorem uSum_take {l : List Int32} {i : Nat} (hi : i < l.length) : uSum (l.take (i + 1)) = uSum (l.take i) + uOf (l.getD i (-1)) := by
  have hg : l[i]? = some (l.getD i (-1)) := by simp [hi]
  rw [take_at hg]
  simp [uSum, List.foldl_append]
set_option maxRecDepth 100000 in
set_option maxHeartbeats 4000000 in
theorem c_o_size (l : Launch) (G : xG) {h : xh} {z : Nat} {fo : List Fo} (hz : Ft G h z fo) : Ct l G yX1_size cX1_size 1 (Option.some Jvm.ClassFile.FieldType.int) { frames := 0, cells := 0, slots := 0, locals := 0 } [.ref z] h (fun v h' => v = some (.int (nI fo.length)) ∧ h' = h) := by
  obtain ⟨hn, hnd, hw, g0, f0, f1, f2, f3, g1, g2, g3, g4, k0, k1, k2, k3⟩ := hz
  refine Ct.of [some (.ref z)] (by decide +kernel) (Nat.le_of_ble_eq_true rfl) (fun p e s m args below meth c bs C hini => ?_)
  refine x_aload_n C dX1_size_0 (kk := ?_)
  refine x_get C fl_X1_24 dX1_size_1 (kk := ?_)
  refine x_iret C rfl dX1_size_4 (hp := ?_)
  exact ⟨rfl, rfl⟩
set_option maxRecDepth 100000 in
set_option maxHeartbeats 4000000 in
theorem c_o_slotOf (l : Launch) (G : xG) {h : xh} {z : Nat} {fo : List Fo} (x : Int32) (hz : Ft G h z fo) : Ct l G yX1_slotOf cX1_slotOf 3 (Option.some Jvm.ClassFile.FieldType.int) { frames := 0, cells := 0, slots := 0, locals := 0 } [.ref z, .int x] h (fun v h' => ∃ r, v = some (.int r) ∧ slotR (fo.map (·.1)) x r ∧ h' = h) := by
  obtain ⟨hn, hnd, hw, g0, f0, f1, f2, f3, g1, g2, g3, g4, k0, k1, k2, k3⟩ := hz
  refine Ct.of [some (.ref z), some (.int x), none] (by decide +kernel) (Nat.le_of_ble_eq_true rfl) (fun p e s m args below meth c bs C hini => ?_)
  have loop : ∀ (n i : Nat), fo.length - i < n → i ≤ fo.length → x ∉ (fo.map (·.1)).take i → X p l e { frames := 0, cells := 0, slots := 0, locals := 0 } s m args below meth c G bs (MQ below (x_Q G bs (fun v h' => ∃ r, v = some (.int r) ∧ slotR (fo.map (·.1)) x r ∧ h' = h)) args s 0 0 (fun q => bs ≤ q)) 0 0 2 [some (.ref z), some (.int x), some (.int (nI i))] [] h := by
    intro n
    induction n with
    | zero => intro i hn; omega
    | succ n ih =>
      intro i hn hi hd
      refine x_iload_n C dX1_slotOf_2 (kk := ?_)
      refine x_aload_n C dX1_slotOf_3 (kk := ?_)
      refine x_get C fl_X1_24 dX1_slotOf_4 (kk := ?_)
      refine x_ncmp_ge C i fo.length dX1_slotOf_7 28 (fun hc7 => ?_) (fun hc7 => ?_)
      · refine x_iconst C dX1_slotOf_28 (v := -1) (kk := ?_)
        refine x_iret C rfl dX1_slotOf_29 (hp := ?_)
        exact ⟨_, rfl, Or.inl ⟨rfl, by rw [List.take_of_length_le (by simpa using hc7)] at hd; exact hd⟩, rfl⟩
      obtain ⟨v, hv⟩ : ∃ v, fo[i]? = some v := ⟨fo[i], List.getElem?_eq_getElem hc7⟩
      have hf := fL_at k0 hv
      have hk : (fo.map (·.1))[i]? = some v.1 := by simp [hv]
      refine x_aload_n C dX1_slotOf_10 (kk := ?_)
      refine x_get C fl_X1_9 dX1_slotOf_11 (kk := ?_)
      refine x_iload_n C dX1_slotOf_14 (kk := ?_)
      refine x_iald C _ dX1_slotOf_15 (kk := ?_)
      refine x_iload_n C dX1_slotOf_16 (kk := ?_)
      refine x_icmp_ne C dX1_slotOf_17 22 (fun hc17 => ?_) (fun hc17 => ?_)
      · refine x_iinc1 C dX1_slotOf_22 (kk := ?_)
        refine x_goto C dX1_slotOf_25 2 ?_
        exact ih (i + 1) (by omega) (by omega) (by rw [take_at hk]; intro z; rcases List.mem_append.mp z with z | z; exact hd z; rw [List.mem_singleton] at z; exact hc17 (hf.trans z.symm))
      · refine x_iload_n C dX1_slotOf_20 (kk := ?_)
        refine x_iret C rfl dX1_slotOf_21 (hp := ?_)
        exact ⟨_, rfl, Or.inr ⟨i, rfl, by rw [hk, ← hf, hc17]⟩, rfl⟩
  refine x_iconst C dX1_slotOf_0 (v := 0) (kk := ?_)
  refine x_istore_n C dX1_slotOf_1 (kk := ?_)
  exact loop (fo.length + 1) 0 (by omega) (by omega) (by simp)
set_option maxRecDepth 100000 in
set_option maxHeartbeats 4000000 in
theorem c_o_partAt (l : Launch) (G : xG) {h : xh} {z : Nat} {fo : List Fo} {k j : Nat} {v : Fo} (hk : fo[k]? = some v) (hj : j < 3) (hz : Ft G h z fo) : Ct l G yX1_partAt cX1_partAt 3 (Option.some Jvm.ClassFile.FieldType.int) { frames := 0, cells := 0, slots := 0, locals := 0 } [.ref z, .int (nI k), .int (nI j)] h (fun r h' => r = some (.int (v.2.getD j (-1))) ∧ h' = h) := by
  have hkl : k < fo.length := (List.getElem?_eq_some_iff.mp hk).1
  obtain ⟨hn, hnd, hw, g0, f0, f1, f2, f3, g1, g2, g3, g4, k0, k1, k2, k3⟩ := hz
  refine Ct.of [some (.ref z), some (.int (nI k)), some (.int (nI j))] (by decide +kernel) (Nat.le_of_ble_eq_true rfl) (fun p e s m args below meth c bs C hini => ?_)
  refine x_iload_n C dX1_partAt_0 (kk := ?_)
  refine x_if_lt C dX1_partAt_1 12 (fun hc1 => ?_) (fun hc1 => ?_)
  · exact absurd hc1 (nI_pos (by omega))
  · refine x_iload_n C dX1_partAt_4 (kk := ?_)
    refine x_aload_n C dX1_partAt_5 (kk := ?_)
    refine x_get C fl_X1_24 dX1_partAt_6 (kk := ?_)
    refine x_ncmp_lt C k fo.length dX1_partAt_9 14 (fun hc9 => ?_) (fun hc9 => ?_)
    · refine x_iload_n C dX1_partAt_14 (kk := ?_)
      have hj3 : j = 0 ∨ j = 1 ∨ j = 2 := by omega
      rcases hj3 with rfl | rfl | rfl
      · refine x_tabI C 0 dX1_partAt_15 40 (by decide) (by decide) rfl ?_
        refine x_aload_n C dX1_partAt_40 (kk := ?_)
        refine x_get C fl_X1_15 dX1_partAt_41 (kk := ?_)
        refine x_iload_n C dX1_partAt_44 (kk := ?_)
        refine x_iald C _ dX1_partAt_45 (kk := ?_)
        refine x_iret C rfl dX1_partAt_46 (hp := ?_)
        first | exact ⟨by rw [fL_at k1 hk], rfl⟩ | exact ⟨by rw [fL_at k2 hk], rfl⟩ | exact ⟨by rw [fL_at k3 hk], rfl⟩
      · refine x_tabI C 1 dX1_partAt_15 47 (by decide) (by decide) rfl ?_
        refine x_aload_n C dX1_partAt_47 (kk := ?_)
        refine x_get C fl_X1_18 dX1_partAt_48 (kk := ?_)
        refine x_iload_n C dX1_partAt_51 (kk := ?_)
        refine x_iald C _ dX1_partAt_52 (kk := ?_)
        refine x_iret C rfl dX1_partAt_53 (hp := ?_)
        first | exact ⟨by rw [fL_at k1 hk], rfl⟩ | exact ⟨by rw [fL_at k2 hk], rfl⟩ | exact ⟨by rw [fL_at k3 hk], rfl⟩
      · refine x_tabI C 2 dX1_partAt_15 54 (by decide) (by decide) rfl ?_
        refine x_aload_n C dX1_partAt_54 (kk := ?_)
        refine x_get C fl_X1_21 dX1_partAt_55 (kk := ?_)
        refine x_iload_n C dX1_partAt_58 (kk := ?_)
        refine x_iald C _ dX1_partAt_59 (kk := ?_)
        refine x_iret C rfl dX1_partAt_60 (hp := ?_)
        first | exact ⟨by rw [fL_at k1 hk], rfl⟩ | exact ⟨by rw [fL_at k2 hk], rfl⟩ | exact ⟨by rw [fL_at k3 hk], rfl⟩
    · omega
set_option maxRecDepth 100000 in
set_option maxHeartbeats 4000000 in
theorem c_o_lengthAt (l : Launch) (G : xG) {h : xh} {z : Nat} {fo : List Fo} {k : Nat} {v : Fo} (hk : fo[k]? = some v) (hz : Ft G h z fo) : Ct l G yX1_lengthAt cX1_lengthAt 3 (Option.some Jvm.ClassFile.FieldType.int) { frames := 1, cells := 0, slots := 0, locals := 22 } [.ref z, .int (nI k)] h (fun r h' => r = some (.int (nI v.2.length)) ∧ h' = h) := by
  have hz0 := hz
  obtain ⟨hn, hnd, hw, g0, f0, f1, f2, f3, g1, g2, g3, g4, k0, k1, k2, k3⟩ := hz
  have hwv := hw v (List.mem_of_getElem? hk)
  have hwl := hwv.1
  refine Ct.of [some (.ref z), some (.int (nI k)), none] (by decide +kernel) (Nat.le_of_ble_eq_true rfl) (fun p e s m args below meth c bs C hini => ?_)
  have loop : ∀ (n i : Nat), v.2.length - i < n → i ≤ v.2.length → X p l e { frames := 1, cells := 0, slots := 0, locals := 22 } s m args below meth c G bs (MQ below (x_Q G bs (fun r h' => r = some (.int (nI v.2.length)) ∧ h' = h)) args s 0 0 (fun q => bs ≤ q)) 0 0 2 [some (.ref z), some (.int (nI k)), some (.int (nI i))] [] h := by
    intro n
    induction n with
    | zero => intro i hn; omega
    | succ n ih =>
      intro i hn hi
      refine x_iload_n C dX1_lengthAt_2 (kk := ?_)
      refine x_iconst C dX1_lengthAt_3 (v := 3) (kk := ?_)
      refine x_ncmp_ge C i 3 dX1_lengthAt_4 23 (fun hc4 => ?_) (fun hc4 => ?_)
      · refine x_iload_n C dX1_lengthAt_23 (kk := ?_)
        refine x_iret C rfl dX1_lengthAt_24 (hp := ?_)
        exact ⟨by rw [show i = v.2.length by omega], rfl⟩
      · refine x_aload_n C dX1_lengthAt_7 (kk := ?_)
        refine x_iload_n C dX1_lengthAt_8 (kk := ?_)
        refine x_iload_n C dX1_lengthAt_9 (kk := ?_)
        refine x_callV C ml_X1_partAt lk_X1_32 (c_o_partAt l G (j := i) hk (by omega) hz0) dX1_lengthAt_10 (fun r10 h10 hp10 => ?_)
        obtain ⟨rfl, rfl⟩ := hp10
        refine x_iconst C dX1_lengthAt_13 (v := -1) (kk := ?_)
        by_cases hil : i < v.2.length
        rotate_left
        · have e : i = v.2.length := by omega
          rw [getD_no (by omega)]
          refine x_icmp_eq C dX1_lengthAt_14 23 (fun hc14 => ?_) (fun hc14 => absurd rfl hc14)
          refine x_iload_n C dX1_lengthAt_23 (kk := ?_)
          refine x_iret C rfl dX1_lengthAt_24 (hp := ?_)
          exact ⟨by rw [show i = v.2.length by omega], rfl⟩
        refine x_icmp_eq C dX1_lengthAt_14 23 (fun hc14 => absurd hc14 (getD_ge hwv.2 hil)) (fun hc14 => ?_)
        refine x_iinc1 C dX1_lengthAt_17 (kk := ?_)
        refine x_goto C dX1_lengthAt_20 2 ?_
        exact ih (i + 1) (by omega) (by omega)
  refine x_iconst C dX1_lengthAt_0 (v := 0) (kk := ?_)
  refine x_istore_n C dX1_lengthAt_1 (kk := ?_)
  exact loop (v.2.length + 1) 0 (by omega) (by omega)
set_option maxRecDepth 100000 in
set_option maxHeartbeats 4000000 in
theorem c_o_unitsAt (l : Launch) (G : xG) {h : xh} {z : Nat} {fo : List Fo} {k : Nat} {v : Fo} (hk : fo[k]? = some v) (hz : Ft G h z fo) : Ct l G yX1_unitsAt cX1_unitsAt 4 (Option.some Jvm.ClassFile.FieldType.int) { frames := 2, cells := 0, slots := 0, locals := 44 } [.ref z, .int (nI k)] h (fun r h' => r = some (.int (uSum v.2)) ∧ h' = h) := by
  have hz0 := hz
  obtain ⟨hn, hnd, hw, g0, f0, f1, f2, f3, g1, g2, g3, g4, k0, k1, k2, k3⟩ := hz
  have hwv := hw v (List.mem_of_getElem? hk)
  have hwl := hwv.1
  refine Ct.of [some (.ref z), some (.int (nI k)), none, none] (by decide +kernel) (Nat.le_of_ble_eq_true rfl) (fun p e s m args below meth c bs C hini => ?_)
  have loop : ∀ (n i : Nat), v.2.length - i < n → i ≤ v.2.length → X p l e { frames := 2, cells := 0, slots := 0, locals := 44 } s m args below meth c G bs (MQ below (x_Q G bs (fun r h' => r = some (.int (uSum v.2)) ∧ h' = h)) args s 0 0 (fun q => bs ≤ q)) 0 0 4 [some (.ref z), some (.int (nI k)), some (.int (uSum (v.2.take i))), some (.int (nI i))] [] h := by
    intro n
    induction n with
    | zero => intro i hn; omega
    | succ n ih =>
      intro i hn hi
      refine x_iload_n C dX1_unitsAt_4 (kk := ?_)
      refine x_aload_n C dX1_unitsAt_5 (kk := ?_)
      refine x_iload_n C dX1_unitsAt_6 (kk := ?_)
      refine x_callV C ml_X1_lengthAt lk_X1_36 (c_o_lengthAt l G hk hz0) dX1_unitsAt_7 (fun r7 h7 hp7 => ?_)
      obtain ⟨rfl, rfl⟩ := hp7
      refine x_ncmp_ge C i v.2.length dX1_unitsAt_10 31 (fun hc10 => ?_) (fun hc10 => ?_)
      · refine x_iload_n C dX1_unitsAt_31 (kk := ?_)
        refine x_iret C rfl dX1_unitsAt_32 (hp := ?_)
        exact ⟨by rw [List.take_of_length_le (by omega)], rfl⟩
      · refine x_iload_n C dX1_unitsAt_13 (kk := ?_)
        refine x_aload_n C dX1_unitsAt_14 (kk := ?_)
        refine x_iload_n C dX1_unitsAt_15 (kk := ?_)
        refine x_iload_n C dX1_unitsAt_16 (kk := ?_)
        refine x_callV C ml_X1_partAt lk_X1_32 (c_o_partAt l G (j := i) hk (by omega) hz0) dX1_unitsAt_17 (fun r17 h17 hp17 => ?_)
        obtain ⟨rfl, rfl⟩ := hp17
        refine x_callSN C ml_X8_unitsOf nl_X1_39 tw_374 (c_unitsOf l G (v.2.getD i (-1))) dX1_unitsAt_20 (fun r20 h20 hp20 => ?_)
        obtain ⟨rfl, rfl⟩ := hp20
        refine x_iadd C dX1_unitsAt_23 ?_
        refine x_top _ (uSum_take (by omega)).symm ?_
        refine x_istore_n C dX1_unitsAt_24 (kk := ?_)
        refine x_iinc1 C dX1_unitsAt_25 (kk := ?_)
        refine x_goto C dX1_unitsAt_28 4 ?_
        exact ih (i + 1) (by omega) (by omega)
  refine x_iconst C dX1_unitsAt_0 (v := 0) (kk := ?_)
  refine x_istore_n C dX1_unitsAt_1 (kk := ?_)
  refine x_iconst C dX1_unitsAt_2 (v := 0) (kk := ?_)
  refine x_istore_n C dX1_unitsAt_3 (kk := ?_)
  exact loop (v.2.length + 1) 0 (by omega) (by omega)
theorem wfP_put {fo : List Fo} {x : Int32} {ps : List Int32} (hw : ∀ e ∈ fo, wfP e.2) (hp : wfP ps) : ∀ e ∈ aput fo x ps, wfP e.2 := by
  intro e he
  unfold aput at he
  split at he
  · obtain ⟨a, ha, rfl⟩ := List.mem_map.mp he
    split
    · exact hp
    · exact hw a ha
  · rcases List.mem_append.mp he with he | he
    · exact hw e he
    · rw [List.mem_singleton] at he
      subst he
      exact hp
set_option maxRecDepth 100000 in
set_option maxHeartbeats 4000000 in
theorem c_o_put (l : Launch) (G : xG) {h : xh} {z : Nat} {fo : List Fo} (x : Int32) (w : List Int32) (hwp : wfP w) (hz : Ft G h z fo) : Ct l G yX1_put cX1_put 6 (Option.some Jvm.ClassFile.FieldType.boolean) { frames := 1, cells := 0, slots := 0, locals := 22 } [.ref z, .int x, .int (w.getD 0 (-1)), .int (w.getD 1 (-1)), .int (w.getD 2 (-1))] h (fun v h' => ((x ∈ fo.map (·.1) ∨ fo.length < 40) ∧ v = some (.int 1) ∧ Ft G h' z (aput fo x w) ∧ Fr (At z 5) h h') ∨ (x ∉ fo.map (·.1) ∧ fo.length = 40 ∧ v = some (.int 0) ∧ h' = h)) := by
  have hz0 := hz
  obtain ⟨hn, hnd, hw, g0, f0, f1, f2, f3, g1, g2, g3, g4, k0, k1, k2, k3⟩ := hz
  refine Ct.of [some (.ref z), some (.int x), some (.int (w.getD 0 (-1))), some (.int (w.getD 1 (-1))), some (.int (w.getD 2 (-1))), none] (by decide +kernel) (Nat.le_of_ble_eq_true rfl) (fun p e s m args below meth c bs C hini => ?_)
  refine x_aload_n C dX1_put_0 (kk := ?_)
  refine x_iload_n C dX1_put_1 (kk := ?_)
  refine x_callV C ml_X1_slotOf lk_X1_28 (c_o_slotOf l G x hz0) dX1_put_2 (fun r2 h2 hp2 => ?_)
  obtain ⟨r, rfl, hs, rfl⟩ := hp2
  refine x_istore C dX1_put_5 (kk := ?_)
  refine x_iload C dX1_put_7 (kk := ?_)
  refine x_iconst C dX1_put_9 (v := -1) (kk := ?_)
  rcases hs with ⟨rfl, hno⟩ | ⟨j, rfl, hj⟩
  rotate_left
  · have hjl : j < fo.length := by simpa using (List.getElem?_eq_some_iff.mp hj).1
    refine x_icmp_ne C dX1_put_10 40 (fun hc10 => ?_) (fun hc10 => absurd hc10 (nI_m1 (by omega)))
    refine x_aload_n C dX1_put_40 (kk := ?_)
    refine x_get C fl_X1_9 dX1_put_41 (kk := ?_)
    refine x_iload C dX1_put_44 (kk := ?_)
    refine x_iload_n C dX1_put_46 (kk := ?_)
    refine x_iast C _ dX1_put_47 (kk := ?_)
    refine x_aload_n C dX1_put_48 (kk := ?_)
    refine x_get C fl_X1_15 dX1_put_49 (kk := ?_)
    refine x_iload C dX1_put_52 (kk := ?_)
    refine x_iload_n C dX1_put_54 (kk := ?_)
    refine x_iast C _ dX1_put_55 (kk := ?_)
    refine x_aload_n C dX1_put_56 (kk := ?_)
    refine x_get C fl_X1_18 dX1_put_57 (kk := ?_)
    refine x_iload C dX1_put_60 (kk := ?_)
    refine x_iload_n C dX1_put_62 (kk := ?_)
    refine x_iast C _ dX1_put_63 (kk := ?_)
    refine x_aload_n C dX1_put_64 (kk := ?_)
    refine x_get C fl_X1_21 dX1_put_65 (kk := ?_)
    refine x_iload C dX1_put_68 (kk := ?_)
    refine x_iload C dX1_put_70 (kk := ?_)
    refine x_iast C _ dX1_put_72 (kk := ?_)
    refine x_iconst C dX1_put_73 (v := 1) (kk := ?_)
    refine x_zret C rfl dX1_put_74 (by first | exact Or.inl rfl | exact Or.inr rfl | assumption | exact ite01 _) (hp := ?_)
    first | exact Or.inl ⟨Or.inl (List.mem_of_getElem? hj), rfl, ⟨by rw [aput_old hnd hj]; simp; exact hn, aput_keys hnd, wfP_put hw hwp, by rw [aput_old hnd hj, List.length_set]; exact x_set_ne (by omega) (x_set_ne (by omega) (x_set_ne (by omega) (x_set_ne (by omega) g0))), _, _, _, _, x_set_ne (by omega) (x_set_ne (by omega) (x_set_ne (by omega) x_set_eq)), x_set_ne (by omega) (x_set_ne (by omega) x_set_eq), x_set_ne (by omega) x_set_eq, x_set_eq, by rw [aput_old hnd hj, List.map_set]; exact fL_set k0, by rw [aput_old hnd hj, List.map_set]; exact fL_set k1, by rw [aput_old hnd hj, List.map_set]; exact fL_set k2, by rw [aput_old hnd hj, List.map_set]; exact fL_set k3⟩, (((Fr.rf.set ⟨by omega, by omega⟩).set ⟨by omega, by omega⟩).set ⟨by omega, by omega⟩).set ⟨by omega, by omega⟩⟩ | exact Or.inr ⟨hno, by omega, rfl, rfl⟩ | exact Or.inl ⟨Or.inr (by omega), rfl, ⟨by rw [aput_new hno]; simp; omega, aput_keys hnd, wfP_put hw hwp, by rw [aput_new hno, List.length_append]; exact x_set_ne (by omega) (x_set_ne (by omega) (x_set_ne (by omega) (x_set_ne (by omega) x_set_eq))), _, _, _, _, x_set_ne (by omega) (x_set_ne (by omega) (x_set_ne (by omega) x_set_eq)), x_set_ne (by omega) (x_set_ne (by omega) x_set_eq), x_set_ne (by omega) x_set_eq, x_set_eq, by rw [aput_new hno, List.map_append]; exact fL_app k0 (by simp), by rw [aput_new hno, List.map_append]; exact fL_app k1 (by simp), by rw [aput_new hno, List.map_append]; exact fL_app k2 (by simp), by rw [aput_new hno, List.map_append]; exact fL_app k3 (by simp)⟩, ((((Fr.rf.set ⟨by omega, by omega⟩).set ⟨by omega, by omega⟩).set ⟨by omega, by omega⟩).set ⟨by omega, by omega⟩).set ⟨by omega, by omega⟩⟩
  refine x_icmp_ne C dX1_put_10 40 (fun hc10 => absurd rfl hc10) (fun hc10 => ?_)
  refine x_aload_n C dX1_put_13 (kk := ?_)
  refine x_get C fl_X1_24 dX1_put_14 (kk := ?_)
  refine x_bipush C dX1_put_17 (v := 40) (kk := ?_)
  refine x_ncmp_lt C fo.length 40 dX1_put_19 24 (fun hc19 => ?_) (fun hc19 => ?_)
  · refine x_aload_n C dX1_put_24 (kk := ?_)
    refine x_get C fl_X1_24 dX1_put_25 (kk := ?_)
    refine x_istore C dX1_put_28 (kk := ?_)
    refine x_aload_n C dX1_put_30 (kk := ?_)
    refine x_dup C dX1_put_31 (kk := ?_)
    refine x_get C fl_X1_24 dX1_put_32 (kk := ?_)
    refine x_iconst C dX1_put_35 (v := 1) (kk := ?_)
    refine x_iadd C dX1_put_36 ?_
    refine x_top _ (nI_1 fo.length) ?_
    refine x_put C fp_X1_24 dX1_put_37 (kk := ?_)
    refine x_aload_n C dX1_put_40 (kk := ?_)
    refine x_get C fl_X1_9 dX1_put_41 (kk := ?_)
    refine x_iload C dX1_put_44 (kk := ?_)
    refine x_iload_n C dX1_put_46 (kk := ?_)
    refine x_iast C _ dX1_put_47 (kk := ?_)
    refine x_aload_n C dX1_put_48 (kk := ?_)
    refine x_get C fl_X1_15 dX1_put_49 (kk := ?_)
    refine x_iload C dX1_put_52 (kk := ?_)
    refine x_iload_n C dX1_put_54 (kk := ?_)
    refine x_iast C _ dX1_put_55 (kk := ?_)
    refine x_aload_n C dX1_put_56 (kk := ?_)
    refine x_get C fl_X1_18 dX1_put_57 (kk := ?_)
    refine x_iload C dX1_put_60 (kk := ?_)
    refine x_iload_n C dX1_put_62 (kk := ?_)
    refine x_iast C _ dX1_put_63 (kk := ?_)
    refine x_aload_n C dX1_put_64 (kk := ?_)
    refine x_get C fl_X1_21 dX1_put_65 (kk := ?_)
    refine x_iload C dX1_put_68 (kk := ?_)
    refine x_iload C dX1_put_70 (kk := ?_)
    refine x_iast C _ dX1_put_72 (kk := ?_)
    refine x_iconst C dX1_put_73 (v := 1) (kk := ?_)
    refine x_zret C rfl dX1_put_74 (by first | exact Or.inl rfl | exact Or.inr rfl | assumption | exact ite01 _) (hp := ?_)
    first | exact Or.inl ⟨Or.inl (List.mem_of_getElem? hj), rfl, ⟨by rw [aput_old hnd hj]; simp; exact hn, aput_keys hnd, wfP_put hw hwp, by rw [aput_old hnd hj, List.length_set]; exact x_set_ne (by omega) (x_set_ne (by omega) (x_set_ne (by omega) (x_set_ne (by omega) g0))), _, _, _, _, x_set_ne (by omega) (x_set_ne (by omega) (x_set_ne (by omega) x_set_eq)), x_set_ne (by omega) (x_set_ne (by omega) x_set_eq), x_set_ne (by omega) x_set_eq, x_set_eq, by rw [aput_old hnd hj, List.map_set]; exact fL_set k0, by rw [aput_old hnd hj, List.map_set]; exact fL_set k1, by rw [aput_old hnd hj, List.map_set]; exact fL_set k2, by rw [aput_old hnd hj, List.map_set]; exact fL_set k3⟩, (((Fr.rf.set ⟨by omega, by omega⟩).set ⟨by omega, by omega⟩).set ⟨by omega, by omega⟩).set ⟨by omega, by omega⟩⟩ | exact Or.inr ⟨hno, by omega, rfl, rfl⟩ | exact Or.inl ⟨Or.inr (by omega), rfl, ⟨by rw [aput_new hno]; simp; omega, aput_keys hnd, wfP_put hw hwp, by rw [aput_new hno, List.length_append]; exact x_set_ne (by omega) (x_set_ne (by omega) (x_set_ne (by omega) (x_set_ne (by omega) x_set_eq))), _, _, _, _, x_set_ne (by omega) (x_set_ne (by omega) (x_set_ne (by omega) x_set_eq)), x_set_ne (by omega) (x_set_ne (by omega) x_set_eq), x_set_ne (by omega) x_set_eq, x_set_eq, by rw [aput_new hno, List.map_append]; exact fL_app k0 (by simp), by rw [aput_new hno, List.map_append]; exact fL_app k1 (by simp), by rw [aput_new hno, List.map_append]; exact fL_app k2 (by simp), by rw [aput_new hno, List.map_append]; exact fL_app k3 (by simp)⟩, ((((Fr.rf.set ⟨by omega, by omega⟩).set ⟨by omega, by omega⟩).set ⟨by omega, by omega⟩).set ⟨by omega, by omega⟩).set ⟨by omega, by omega⟩⟩
  · refine x_iconst C dX1_put_22 (v := 0) (kk := ?_)
    refine x_zret C rfl dX1_put_23 (by first | exact Or.inl rfl | exact Or.inr rfl | assumption | exact ite01 _) (hp := ?_)
    first | exact Or.inl ⟨Or.inl (List.mem_of_getElem? hj), rfl, ⟨by rw [aput_old hnd hj]; simp; exact hn, aput_keys hnd, wfP_put hw hwp, by rw [aput_old hnd hj, List.length_set]; exact x_set_ne (by omega) (x_set_ne (by omega) (x_set_ne (by omega) (x_set_ne (by omega) g0))), _, _, _, _, x_set_ne (by omega) (x_set_ne (by omega) (x_set_ne (by omega) x_set_eq)), x_set_ne (by omega) (x_set_ne (by omega) x_set_eq), x_set_ne (by omega) x_set_eq, x_set_eq, by rw [aput_old hnd hj, List.map_set]; exact fL_set k0, by rw [aput_old hnd hj, List.map_set]; exact fL_set k1, by rw [aput_old hnd hj, List.map_set]; exact fL_set k2, by rw [aput_old hnd hj, List.map_set]; exact fL_set k3⟩, (((Fr.rf.set ⟨by omega, by omega⟩).set ⟨by omega, by omega⟩).set ⟨by omega, by omega⟩).set ⟨by omega, by omega⟩⟩ | exact Or.inr ⟨hno, by omega, rfl, rfl⟩ | exact Or.inl ⟨Or.inr (by omega), rfl, ⟨by rw [aput_new hno]; simp; omega, aput_keys hnd, wfP_put hw hwp, by rw [aput_new hno, List.length_append]; exact x_set_ne (by omega) (x_set_ne (by omega) (x_set_ne (by omega) (x_set_ne (by omega) x_set_eq))), _, _, _, _, x_set_ne (by omega) (x_set_ne (by omega) (x_set_ne (by omega) x_set_eq)), x_set_ne (by omega) (x_set_ne (by omega) x_set_eq), x_set_ne (by omega) x_set_eq, x_set_eq, by rw [aput_new hno, List.map_append]; exact fL_app k0 (by simp), by rw [aput_new hno, List.map_append]; exact fL_app k1 (by simp), by rw [aput_new hno, List.map_append]; exact fL_app k2 (by simp), by rw [aput_new hno, List.map_append]; exact fL_app k3 (by simp)⟩, ((((Fr.rf.set ⟨by omega, by omega⟩).set ⟨by omega, by omega⟩).set ⟨by omega, by omega⟩).set ⟨by omega, by omega⟩).set ⟨by omega, by omega⟩⟩
