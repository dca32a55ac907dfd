/-! THE REFERENCE'S STATE -/
abbrev mo (o : Nat) (I : Nat → Int32) : List Value := [.int (I 0), .int (I 1), .ref (o + 1 + 0), .int (I 2), .ref (o + 1 + 1), .ref (o + 1 + 2), .ref (o + 1 + 3), .int (I 3), .ref (o + 1 + 4), .ref (o + 1 + 5), .ref (o + 1 + 6), .int (I 4), .ref (o + 1 + 7), .ref (o + 1 + 8), .ref (o + 1 + 9), .int (I 5), .ref (o + 1 + 10), .int (I 6), .ref (o + 1 + 11), .ref (o + 1 + 12), .int (I 7), .ref (o + 1 + 13), .ref (o + 1 + 14), .ref (o + 1 + 15), .ref (o + 1 + 16), .ref (o + 1 + 17), .ref (o + 1 + 18), .ref (o + 1 + 19), .ref (o + 1 + 20), .ref (o + 1 + 21), .ref (o + 1 + 22), .int (I 8), .ref (o + 1 + 23), .ref (o + 1 + 24), .ref (o + 1 + 25), .int (I 9), .ref (o + 1 + 26), .ref (o + 1 + 27), .ref (o + 1 + 28), .int (I 10), .ref (o + 1 + 29), .ref (o + 1 + 30), .ref (o + 1 + 31)]
def mlen (k : Nat) : Nat := ([100, 100, 100, 100, 40, 40, 120, 20, 20, 20, 10, 8, 8, 21, 21, 2100, 2100, 8, 8, 8, 8, 8, 8, 300, 300, 300, 300, 300, 300, 300, 300, 300] : List Nat).getD k 0
/-- the reference at o: its ints, its arrays behind it -/
def MO (G : xG) (h : xh) (o : Nat) (I : Nat → Int32) (A : Nat → Nat → Int32) : Prop := h.1 o = some (eO 9 (mo o I)) ∧ ∀ k, k < 32 → h.1 (o + 1 + k) = some (eI G (mlen k) (A k))
abbrev Mf (o : Nat) (h h' : xh) : Prop := Fr (At o 33) h h'
def upF (A : Nat → Nat → Int32) (k : Nat) (f : Nat → Int32) : Nat → Nat → Int32 := fun j => if j = k then f else A j
theorem MO.fr {G : xG} {h h' : xh} {o : Nat} {I : Nat → Int32} {A : Nat → Nat → Int32} {B : Nat → Prop} (k : MO G h o I A) (f : Fr B h h') (hd : ∀ b, At o 33 b → ¬ B b) : MO G h' o I A := ⟨f.at (hd _ ⟨by omega, by omega⟩) k.1, fun j hj => f.at (hd _ ⟨by omega, by omega⟩) (k.2 j hj)⟩
section XM
variable {p : Program} {l : Launch} {e : Env} {R : Room} {s : State} {m : MethodId} {args : Array Value} {below : List Frame} {meth : Method} {c : Code} {G : xG} {bs : Nat} {Q : State → Prop} {cells slots pc : Nat} {L : List (Option Value)} {st : List Value} {h h0 : xh}
variable {own : String} {cc : ByteArray} {nL : Nat} {ret : Option FieldType} {o : Nat} {I : Nat → Int32} {A : Nat → Nat → Int32}
theorem x_mld (C : Cx p s m args meth c G own cc nL ret) (k j : Nat) {x : Int32} {n : Nat} (hM : MO G h o I A) (hd : decode cc pc = .ok (.iaload, 1)) (hx : x = nI j) (hj : j < n) (hn : mlen k = n := by rfl) (hk : k < 32 := by decide) (kk : X p l e R s m args below meth c G bs Q cells slots (pc + 1) L (.int (A k j) :: st) h) : X p l e R s m args below meth c G bs Q cells slots pc L (.int x :: .ref (o + 1 + k) :: st) h := by
  have hm : n ≤ 2100 := by
    rw [← hn]
    have : ∀ k, k < 32 → mlen k ≤ 2100 := by decide
    exact this k hk
  exact x_iald C j hd hx (hM.2 k hk) (by rw [hn]; exact hj) (by rw [hn]; omega) kk
theorem x_mst (C : Cx p s m args meth c G own cc nL ret) (k j : Nat) {x y : Int32} {n : Nat} (hM : MO G h o I A) (hf : Mf o h0 h) (hd : decode cc pc = .ok (.iastore, 1)) (hx : x = nI j) (hj : j < n) (hn : mlen k = n := by rfl) (hk : k < 32 := by decide) (kk : ∀ h', MO G h' o I (upF A k (upd (A k) j y)) → Mf o h0 h' → X p l e R s m args below meth c G bs Q cells slots (pc + 1) L st h') : X p l e R s m args below meth c G bs Q cells slots pc L (.int y :: .int x :: .ref (o + 1 + k) :: st) h := by
  have hm : n ≤ 2100 := by
    rw [← hn]
    have : ∀ k, k < 32 → mlen k ≤ 2100 := by decide
    exact this k hk
  refine x_iast C j hd hx (hM.2 k hk) (by rw [hn]; exact hj) (by rw [hn]; omega) (kk _ ⟨x_set_ne (by omega) hM.1, fun q hq => ?_⟩ (hf.set ⟨by omega, by omega⟩))
  by_cases e : q = k
  · subst e
    simp only [upF, if_true]
    exact x_set_eq
  · simp only [upF, if_neg e]
    exact x_set_ne (by omega) (hM.2 q hq)
theorem x_mpi (C : Cx p s m args meth c G own cc nL ret) (k : Nat) {idx kf : Nat} {v : Int32} (hM : MO G h o I A) (hf : Mf o h0 h) (hp : FP own idx 9 kf .int false) (hd : decode cc pc = .ok (.putfield idx, 3)) (hs : (mo o I).set kf (.int v) = mo o (upd I k v) := by rfl) (hl : kf < 43 := by decide) (kk : ∀ h', MO G h' o (upd I k v) A → Mf o h0 h' → X p l e R s m args below meth c G bs Q cells slots (pc + 3) L st h') : X p l e R s m args below meth c G bs Q cells slots pc L (.int v :: .ref o :: st) h :=
  x_put C hp hd hM.1 rfl rfl (by show kf < 43; exact hl) (kk _ ⟨by rw [← hs]; exact x_set_eq, fun q hq => x_set_ne (by omega) (hM.2 q hq)⟩ (hf.set ⟨by omega, by omega⟩))
end XM
def isTw (f : Nat → Int32) (i e : Nat) : Prop := i + 1 < e ∧ (55296 ≤ f i ∧ f i ≤ 56319) ∧ 56320 ≤ f (i + 1) ∧ f (i + 1) ≤ 57343
theorem sg2_yes {f : Nat → Int32} {w : List Int32} {i : Nat} (hf : fL f w) (h : isTw f i w.length) : sg2 (w.drop i) (nI i) = (two (f i) (f (i + 1)), nI i, nI (i + 2)) :: sg2 (w.drop (i + 2)) (nI (i + 2)) := by
  obtain ⟨h1, h2, h3⟩ := h
  have e1 : w[i]? = some (f i) := by rw [hf i _ (List.getElem?_eq_getElem (by omega))]; exact List.getElem?_eq_getElem (by omega)
  have e2 : w[i + 1]? = some (f (i + 1)) := by rw [hf (i + 1) _ (List.getElem?_eq_getElem h1)]; exact List.getElem?_eq_getElem h1
  rw [drop_at e1, drop_at e2]
  simp only [sg2]
  rw [if_pos ⟨h2, h3⟩, show nI (i + 2) = nI i + 2 from (nI_add i 2).symm]
theorem sg2_no {f : Nat → Int32} {w : List Int32} {i : Nat} (hf : fL f w) (hi : i < w.length) (h : ¬ isTw f i w.length) : sg2 (w.drop i) (nI i) = (f i, nI i, nI (i + 1)) :: sg2 (w.drop (i + 1)) (nI (i + 1)) := by
  have e1 : w[i]? = some (f i) := by rw [hf i _ (List.getElem?_eq_getElem (by omega))]; exact List.getElem?_eq_getElem (by omega)
  rw [drop_at e1, ← nI_1]
  by_cases h1 : i + 1 < w.length
  · have e2 : w[i + 1]? = some (f (i + 1)) := by rw [hf (i + 1) _ (List.getElem?_eq_getElem h1)]; exact List.getElem?_eq_getElem h1
    rw [drop_at e2]
    simp only [sg2]
    rw [if_neg (fun z => h ⟨h1, z.1, z.2⟩)]
  · rw [List.drop_eq_nil_of_le (by omega)]
    simp [sg2]
set_option maxRecDepth 100000 in
set_option maxHeartbeats 4000000 in
theorem m_emptyDraft (l : Launch) (G : xG) {h : xh} {o : Nat} {I : Nat → Int32} {A : Nat → Nat → Int32} (hM : MO G h o I A) : Ct l G yX9_emptyDraft cX9_emptyDraft 1 (Option.none : Option Jvm.ClassFile.FieldType) { frames := 0, cells := 0, slots := 0, locals := 0 } [.ref o] h (fun v h' => v = none ∧ MO G h' o (upd (upd I 0 0) 1 0) A ∧ Mf o h h') := by
  have hf : Mf o h h := Fr.rf
  refine Ct.of [some (.ref o)] (by decide +kernel) (Nat.le_of_ble_eq_true rfl) (fun p e s m args below meth c bs C hini => ?_)
  refine x_aload_n C dX9_emptyDraft_0 (kk := ?_)
  refine x_iconst C dX9_emptyDraft_1 (v := 0) (kk := ?_)
  refine x_mpi C 0 hM hf fp_X9_106 dX9_emptyDraft_2 (kk := fun h hM hf => ?_)
  refine x_aload_n C dX9_emptyDraft_5 (kk := ?_)
  refine x_iconst C dX9_emptyDraft_6 (v := 0) (kk := ?_)
  refine x_mpi C 1 hM hf fp_X9_120 dX9_emptyDraft_7 (kk := fun h hM hf => ?_)
  refine x_vret C rfl dX9_emptyDraft_10 (hp := ?_)
  exact ⟨rfl, hM, hf⟩
set_option maxRecDepth 100000 in
set_option maxHeartbeats 4000000 in
theorem m_isTwo (l : Launch) (G : xG) {h : xh} {o i e9 : Nat} {I : Nat → Int32} {A : Nat → Nat → Int32} (hi : i < e9) (he : e9 ≤ 100) (hM : MO G h o I A) : Ct l G yX9_isTwo cX9_isTwo 3 (Option.some Jvm.ClassFile.FieldType.boolean) { frames := 2, cells := 0, slots := 0, locals := 42 } [.ref o, .int (nI i), .int (nI e9)] h (fun v h' => (v = some (.int 1) ∧ isTw (A 0) i e9 ∨ v = some (.int 0) ∧ ¬ isTw (A 0) i e9) ∧ h' = h) := by
  refine Ct.of [some (.ref o), some (.int (nI i)), some (.int (nI e9))] (by decide +kernel) (Nat.le_of_ble_eq_true rfl) (fun p e s m args below meth c bs C hini => ?_)
  refine x_iload_n C dX9_isTwo_0 (kk := ?_)
  refine x_iconst C dX9_isTwo_1 (v := 1) (kk := ?_)
  refine x_iadd C dX9_isTwo_2 ?_
  refine x_top _ (nI_1 i) ?_
  refine x_iload_n C dX9_isTwo_3 (kk := ?_)
  refine x_ncmp_ge C (i + 1) e9 dX9_isTwo_4 37 (fun hc4 => ?_) (fun hc4 => ?_)
  · refine x_iconst C dX9_isTwo_37 (v := 0) (kk := ?_)
    refine x_zret C rfl dX9_isTwo_38 (by first | exact Or.inl rfl | exact Or.inr rfl | assumption | exact ite01 _) (hp := ?_)
    exact ⟨Or.inr ⟨rfl, fun z => by have := z.1; omega⟩, rfl⟩
  · refine x_aload_n C dX9_isTwo_7 (kk := ?_)
    refine x_get C fl_X9_7 dX9_isTwo_8 (hh := hM.1) (kk := ?_)
    refine x_iload_n C dX9_isTwo_11 (kk := ?_)
    refine x_mld C 0 (i) hM dX9_isTwo_12 rfl (n := 100) (by omega) (kk := ?_)
    refine x_callS C ml_X9_isHigh lk_X9_123 (m_isHigh l G (A 0 i)) dX9_isTwo_13 (fun r13 h13 hp13 => ?_)
    obtain ⟨rfl, rfl⟩ := hp13
    refine x_ifB_eq C dX9_isTwo_16 37 (fun hc16 => ?_) (fun hc16 => ?_)
    · refine x_iconst C dX9_isTwo_37 (v := 0) (kk := ?_)
      refine x_zret C rfl dX9_isTwo_38 (by first | exact Or.inl rfl | exact Or.inr rfl | assumption | exact ite01 _) (hp := ?_)
      exact ⟨Or.inr ⟨rfl, fun z => hc16 z.2.1⟩, rfl⟩
    · refine x_aload_n C dX9_isTwo_19 (kk := ?_)
      refine x_get C fl_X9_7 dX9_isTwo_20 (hh := hM.1) (kk := ?_)
      refine x_iload_n C dX9_isTwo_23 (kk := ?_)
      refine x_iconst C dX9_isTwo_24 (v := 1) (kk := ?_)
      refine x_iadd C dX9_isTwo_25 ?_
      refine x_top _ (nI_1 i) ?_
      refine x_mld C 0 (i + 1) hM dX9_isTwo_26 rfl (n := 100) (by omega) (kk := ?_)
      refine x_callS C ml_X9_isLow lk_X9_127 (m_isLow l G (A 0 (i + 1))) dX9_isTwo_27 (fun r27 h27 hp27 => ?_)
      obtain ⟨rfl, rfl⟩ := hp27
      refine x_ifB_eq C dX9_isTwo_30 37 (fun hc30 => ?_) (fun hc30 => ?_)
      · refine x_iconst C dX9_isTwo_37 (v := 0) (kk := ?_)
        refine x_zret C rfl dX9_isTwo_38 (by first | exact Or.inl rfl | exact Or.inr rfl | assumption | exact ite01 _) (hp := ?_)
        exact ⟨Or.inr ⟨rfl, fun z => hc30 z.2.2⟩, rfl⟩
      · refine x_iconst C dX9_isTwo_33 (v := 1) (kk := ?_)
        refine x_goto C dX9_isTwo_34 38 ?_
        refine x_zret C rfl dX9_isTwo_38 (by first | exact Or.inl rfl | exact Or.inr rfl | assumption | exact ite01 _) (hp := ?_)
        exact ⟨Or.inl ⟨rfl, hc4, hc16, hc30⟩, rfl⟩
set_option maxRecDepth 100000 in
set_option maxHeartbeats 4000000 in
theorem m_signAt (l : Launch) (G : xG) {h : xh} {o i e9 : Nat} {I : Nat → Int32} {A : Nat → Nat → Int32} (hi : i < e9) (he : e9 ≤ 100) (hM : MO G h o I A) : Ct l G yX9_signAt cX9_signAt 3 (Option.some Jvm.ClassFile.FieldType.int) { frames := 3, cells := 0, slots := 0, locals := 64 } [.ref o, .int (nI i), .int (nI e9)] h (fun v h' => (v = some (.int (two (A 0 i) (A 0 (i + 1)))) ∧ isTw (A 0) i e9 ∨ v = some (.int (A 0 i)) ∧ ¬ isTw (A 0) i e9) ∧ h' = h) := by
  refine Ct.of [some (.ref o), some (.int (nI i)), some (.int (nI e9))] (by decide +kernel) (Nat.le_of_ble_eq_true rfl) (fun p e s m args below meth c bs C hini => ?_)
  refine x_aload_n C dX9_signAt_0 (kk := ?_)
  refine x_iload_n C dX9_signAt_1 (kk := ?_)
  refine x_iload_n C dX9_signAt_2 (kk := ?_)
  refine x_callV C ml_X9_isTwo lk_X9_130 (m_isTwo l G hi he hM) dX9_signAt_3 (fun r3 h3 hp3 => ?_) (hh := hM.1)
  obtain ⟨ht, rfl⟩ := hp3
  rcases ht with ⟨rfl, ht⟩ | ⟨rfl, ht⟩
  · refine x_if_eq C dX9_signAt_6 40 (fun z => absurd z (by decide)) (fun _ => ?_)
    have hi1 := ht.1
    refine x_ldc C tw_616 dX9_signAt_9 ?_
    refine x_sipush C dX9_signAt_11 (v := 1024) (kk := ?_)
    refine x_aload_n C dX9_signAt_14 (kk := ?_)
    refine x_get C fl_X9_7 dX9_signAt_15 (hh := hM.1) (kk := ?_)
    refine x_iload_n C dX9_signAt_18 (kk := ?_)
    refine x_mld C 0 (i) hM dX9_signAt_19 rfl (n := 100) (by omega) (kk := ?_)
    refine x_ldc C tw_606 dX9_signAt_20 ?_
    refine x_isub C dX9_signAt_22 ?_
    refine x_imul C dX9_signAt_23 ?_
    refine x_iadd C dX9_signAt_24 ?_
    refine x_aload_n C dX9_signAt_25 (kk := ?_)
    refine x_get C fl_X9_7 dX9_signAt_26 (hh := hM.1) (kk := ?_)
    refine x_iload_n C dX9_signAt_29 (kk := ?_)
    refine x_iconst C dX9_signAt_30 (v := 1) (kk := ?_)
    refine x_iadd C dX9_signAt_31 ?_
    refine x_top _ (nI_1 i) ?_
    refine x_mld C 0 (i + 1) hM dX9_signAt_32 rfl (n := 100) (by omega) (kk := ?_)
    refine x_iadd C dX9_signAt_33 ?_
    refine x_ldc C tw_614 dX9_signAt_34 ?_
    refine x_isub C dX9_signAt_36 ?_
    refine x_goto C dX9_signAt_37 46 ?_
    refine x_iret C rfl dX9_signAt_46 (hp := ?_)
    exact ⟨Or.inl ⟨rfl, ht⟩, rfl⟩
  refine x_if_eq C dX9_signAt_6 40 (fun _ => ?_) (fun z => absurd rfl z)
  refine x_aload_n C dX9_signAt_40 (kk := ?_)
  refine x_get C fl_X9_7 dX9_signAt_41 (hh := hM.1) (kk := ?_)
  refine x_iload_n C dX9_signAt_44 (kk := ?_)
  refine x_mld C 0 (i) hM dX9_signAt_45 rfl (n := 100) (by omega) (kk := ?_)
  refine x_iret C rfl dX9_signAt_46 (hp := ?_)
  exact ⟨Or.inr ⟨rfl, ht⟩, rfl⟩
