/-! STRINGS OF THE CLASS -/
section XR4
variable {p : Program} {l : Launch} {e : Env} {R : Room} {s : State} {m : MethodId} {args : Array Value} {below : List Frame} {meth : Method} {c : Code} {G : xG} {bs : Nat} {Q : State → Prop} {cells slots pc : Nat} {L : List (Option Value)} {st : List Value} {h : xh}
variable {own : String} {cc : ByteArray} {nL : Nat} {ret : Option FieldType}
/-- the JDK's own copy of a row of ints, from the first one on -/
theorem x_acopy (C : Cx p s m args meth c G own cc nL ret) {idx a0 a n0 n1 k : Nat} {f g : Nat → Int32} (w1 : Cond.methodLink own idx arraycopyName ∈ TB) (w2 : Cond.native arraycopyName ∈ TB) (w3 : Cond.static arraycopyName ∈ TB) (w4 : Cond.initialized "java/lang/System" ∈ TB) (hd : decode cc pc = .ok (.invokestatic idx, 3)) (hh0 : h.1 a0 = some (eI G n0 f)) (hh1 : h.1 a = some (eI G n1 g)) (hk0 : k ≤ n0) (hk1 : k ≤ n1) (hk : k < 2 ^ 31) (hfr : 1 ≤ R.frames) (hlo : (st.map fun v => v.category).sum + (nativeFrameWords "java/lang/System" "arraycopy" 5 + 11) ≤ R.locals)
    (kk : X p l e R s m args below meth c G bs Q cells slots (pc + 3) L st (x_set h a (eI G n1 (va_cpy f g 0 0 k)))) : X p l e R s m args below meth c G bs Q cells slots pc L (.int (nI k) :: .int 0 :: .ref a :: .int 0 :: .ref a0 :: st) h := by
  intro H ls locs hH hS hL T hT X0
  have hc0 : H[a0]? = some (vp_cell (G.2 0) (n0, .inl f)) := (hH.2.2 a0 _ hh0).2
  have hc1 : H[a]? = some (vp_cell (G.2 0) (n1, .inl g)) := (hH.2.2 a _ hh1).2
  have hK := C.2.2.2.2.2.2.2.1
  obtain ⟨-, k0, hk0', cm0, hkk0⟩ := (hK.2 0 _ rfl).1 n0 (fun j => .int (f j))
  obtain ⟨-, k1, hk1', cm1, hkk1⟩ := (hK.2 0 _ rfl).1 n1 (fun j => .int (g j))
  have ek : (nI k).toNatClampNeg = k := nI_clamp hk
  have et : (nI k).toInt = (k : Int) := nI_toInt hk
  have e00 : ((0 : Int32).toNatClampNeg) = 0 := by decide
  have e0t : ((0 : Int32).toInt) = 0 := by decide
  obtain ⟨vm', X', step⟩ := X0.arraycopy C.1 C.2.2.2.2.2.1 (C.2.2.2.2.1 _ w1) (C.2.2.2.2.1 _ w2) (C.2.2.2.2.1 _ w3) (C.2.2.2.2.1 _ w4) (src := a0) (dst := a) (cs := vp_cell (G.2 0) (n0, .inl f)) (cd := vp_cell (G.2 0) (n1, .inl g)) (srcPos := 0) (destPos := 0) (n := nI k) (by rw [hT]; exact hc0) (by rw [hT]; exact hc1)
    (fun _ h => by cases h) (fun _ h => by cases h) (fun h => by cases h) (fun h => by cases h) hk0' hk1' hkk0 hkk1 (by simp [refKind]) (by decide) (by decide) (nI_pos hk)
    (by rw [et, e0t]; show ¬ _ > ((arrV (G.2 0) n0 (fun j => .int (f j))).slots.size : Int); rw [arrV_size]; omega)
    (by rw [et, e0t]; show ¬ _ > ((arrV (G.2 0) n1 (fun j => .int (g j))).slots.size : Int); rw [arrV_size]; omega)
    (fun vm₁ _ i hi => by
      rw [ek] at hi
      have e : (vp_cell (G.2 0) (n0, .inl f)).slots.getD ((0 : Int32).toNatClampNeg + i) .null = .int (f ((0 : Int32).toNatClampNeg + i)) := by
        show (arrV (G.2 0) n0 (fun j => .int (f j))).slots.getD _ _ = _
        rw [Array.getD_eq_getD_getElem?, arrV_read _ _ (by omega)]
        rfl
      exact ⟨by rw [e]; rfl, by rw [e]; exact trivial⟩)
    (g := F0 m pc ls (.int (nI k) :: .int 0 :: .ref a :: .int 0 :: .ref a0 :: st)) rfl (by rw [hL.1]) (rest := st) rfl (by rw [C.2.1]; exact hd) hfr (by show 2 * 0 + _ + _ ≤ _; omega)
  have e1 : copied (vp_cell (G.2 0) (n0, .inl f)) (vp_cell (G.2 0) (n1, .inl g)) 0 0 (nI k) = vp_cell (G.2 0) (n1, .inl (va_cpy f g (0 : Int32).toNatClampNeg (0 : Int32).toNatClampNeg (nI k).toNatClampNeg)) := va_copied (fun z => .int z) (G.2 0) (G.2 0) f g (by rw [ek, e00]; omega)
  rw [ek, e00] at e1
  rw [e1] at X' step
  have hl : a < H.size := (Array.getElem?_eq_some_iff.mp hc1).1
  generalize hH1 : H.setIfInBounds a (vp_cell (G.2 0) (n1, .inl (va_cpy f g 0 0 k))) = H1
  have hheap : ((T.setVm vm').setCell a (vp_cell (G.2 0) (n1, .inl (va_cpy f g 0 0 k)))).heap = H1 := by rw [← hH1, ← hT]; rfl
  have oq : ∀ q : Nat, q ≠ a → H1[q]? = H[q]? := fun q hq => by rw [← hH1]; simp [Array.getElem?_setIfInBounds, Ne.symm hq]
  have z1 : H1.size = H.size := by rw [← hH1]; simp
  have ha1 : H1[a]? = some (vp_cell (G.2 0) (n1, .inl (va_cpy f g 0 0 k))) := by rw [← hH1]; simp [Array.getElem?_setIfInBounds, hl]
  obtain ⟨t, a1, b1⟩ := kk H1 ls _ (hH.put hh1 z1 oq ha1) ⟨by rw [z1]; exact hS.1, fun q g1 g2 => by
      rw [oq q (fun e => g2 (by rw [e]; exact (hH.2.2 a _ hh1).1))]
      exact hS.2.1 q g1 g2, fun q hq => by
      rcases List.mem_append.mp hq with h | h
      · exact hS.2.2 q h
      · obtain ⟨z, -, hz⟩ := List.mem_map.mp h
        rw [← hz]
        exact (hH.2.2 a _ hh1).1⟩ hL _ hheap X'
  exact ⟨t, step t a1, b1⟩
theorem x_mmin (C : Cx p s m args meth c G own cc nL ret) {idx : Nat} {x y : Int32} (w1 : Cond.methodLink own idx Lib.Math.min.name ∈ TB) (hd : decode cc pc = .ok (.invokestatic idx, 3)) (w2 : Cond.static Lib.Math.min.name ∈ TB) (w3 : Cond.initialized "java/lang/Math" ∈ TB) (w4 : Cond.code Lib.Math.min.name Lib.Math.min.code 2 (some .int) ∈ TB) (hfr : 1 ≤ R.frames) (hlo : (st.map fun v => v.category).sum + 13 ≤ R.locals) (hc : cells ≤ R.cells) (hs : slots ≤ R.slots)
    (kk : X p l e R s m args below meth c G bs Q cells slots (pc + 3) L (.int (if y < x then y else x) :: st) h) : X p l e R s m args below meth c G bs Q cells slots pc L (.int y :: .int x :: st) h := fun H ls locs hH hS hL =>
  va_mmin C.1 C.2.1 hL.1.symm C.2.2.2.2.2.1 (C.2.2.2.2.1 _ w1) (C.2.2.2.2.1 _ w2) (C.2.2.2.2.1 _ w3) (C.2.2.2.2.1 _ w4) hfr hlo hc hs hd (kk H ls locs hH hS hL)
end XR4
theorem min_code : Cond.code Lib.Math.min.name Lib.Math.min.code 2 (some .int) ∈ TB := tb_t 263 (by decide +kernel) rfl
set_option maxRecDepth 100000 in
set_option maxHeartbeats 4000000 in
theorem j_copyOf (l : Launch) (G : xG) {h : xh} {a n k : Nat} {f : Nat → Int32} (ha : h.1 a = some (eI G n f)) (han : a ≠ h.2) (hn : n ≤ 300) (hk : k < n) : Ct l G yJ7_copyOf_59c91 cJ7_copyOf_59c91 3 (Option.some (Jvm.ClassFile.FieldType.array Jvm.ClassFile.FieldType.int)) { frames := 1, cells := 1, slots := 300, locals := 60 } [.ref a, .int (nI k)] h (fun v h' => v = some (.ref h.2) ∧ h' = x_set (x_new h (eI G k (fun _ => 0))) h.2 (eI G k (va_cpy f (fun _ => 0) 0 0 k))) := by
  have ha2 : (x_new h (eI G k (fun _ => 0))).1 a = some (eI G n f) := x_new_ne han ha
  have ha3 : (x_new h (eI G k (fun _ => 0))).1 h.2 = some (eI G k (fun _ => 0)) := x_new_eq rfl
  refine Ct.of [some (.ref a), some (.int (nI k)), none] (by decide +kernel) (Nat.le_of_ble_eq_true rfl) (fun p e s m args below meth c bs C hini => ?_)
  refine x_iload_n C dJ7_copyOf_59c91_0 (kk := ?_)
  refine x_aload_n C dJ7_copyOf_59c91_1 (kk := ?_)
  refine x_alen C dJ7_copyOf_59c91_2 (kk := ?_)
  refine x_ncmp_ne C k n dJ7_copyOf_59c91_3 14 (fun hc3 => ?_) (fun hc3 => ?_)
  · refine x_iload_n C dJ7_copyOf_59c91_14 (kk := ?_)
    refine x_newi C k tw_37 dJ7_copyOf_59c91_15 (hslots := by show 0 + k ≤ 300; omega) (kk := ?_)
    refine x_wd C (k := 1) (n := 300) (by omega) (by omega) ?_
    refine x_astore_n C dJ7_copyOf_59c91_17 (kk := ?_)
    refine x_aload_n C dJ7_copyOf_59c91_18 (kk := ?_)
    refine x_iconst C dJ7_copyOf_59c91_19 (v := 0) (kk := ?_)
    refine x_aload_n C dJ7_copyOf_59c91_20 (kk := ?_)
    refine x_iconst C dJ7_copyOf_59c91_21 (v := 0) (kk := ?_)
    refine x_aload_n C dJ7_copyOf_59c91_22 (kk := ?_)
    refine x_alen C dJ7_copyOf_59c91_23 (kk := ?_)
    refine x_iload_n C dJ7_copyOf_59c91_24 (kk := ?_)
    refine x_mmin C tw_207 dJ7_copyOf_59c91_25 tw_208 tw_11 min_code (Nat.le_of_ble_eq_true rfl) (Nat.le_of_ble_eq_true rfl) (Nat.le_of_ble_eq_true rfl) (Nat.le_of_ble_eq_true rfl) ?_
    refine x_top _ (if_pos (nI_lt hk (by omega))) ?_
    refine x_acopy C tw_210 tw_212 tw_211 tw_12 dJ7_copyOf_59c91_28 ha2 ha3 (by omega) (by omega) (by omega) (Nat.le_of_ble_eq_true rfl) (Nat.le_of_ble_eq_true (by decide +kernel)) ?_
    refine x_aload_n C dJ7_copyOf_59c91_31 (kk := ?_)
    refine x_aret C rfl (by first | exact Or.inl ⟨_, rfl⟩ | exact Or.inr ⟨_, rfl⟩) (by first | exact Or.inl rfl | exact Or.inr ⟨_, rfl⟩ | exact va_rf_or _) dJ7_copyOf_59c91_32 (hp := ?_)
    exact ⟨rfl, rfl⟩
  · omega
