/-! THE REFERENCE, V: rows of the draft, strings -/
theorem rowApp {f : Nat → Int32} {acc : List Sg} {q : Nat} {y : Sg} {w : Int32} (h : ∀ (j : Nat) (x : Sg), acc[j]? = some x → f (q + j) = x.1) (hw : w = y.1) : ∀ (j : Nat) (x : Sg), (acc ++ [y])[j]? = some x → upd f (q + acc.length) w (q + j) = x.1 := by
  intro j x hx
  by_cases hj : j < acc.length
  · rw [List.getElem?_append_left hj] at hx
    simp only [upd, if_neg (show ¬ q + j = q + acc.length by omega)]
    exact h j x hx
  · rw [List.getElem?_append_right (by omega)] at hx
    have hz : j - acc.length < 1 := by simpa using (List.getElem?_eq_some_iff.mp hx).1
    have e : j = acc.length := by omega
    subst e
    simp at hx
    subst hx
    simp only [upd, if_true]
    exact hw
set_option maxRecDepth 100000 in
set_option maxHeartbeats 4000000 in
theorem m_signsOf (l : Launch) (G : xG) {h : xh} {o : Nat} {I : Nat → Int32} {A : Nat → Nat → Int32} {u : List Int32} {a b k q : Nat} (hu : fL (A 0) u) (hul : u.length ≤ 100) (hab : a ≤ b) (hbu : b ≤ u.length) (hk : k < 32) (hk0 : k ≠ 0) (hkl : mlen k = 2100) (hq : q + 100 ≤ 2100) (hM : MO G h o I A) : Ct l G yX9_signsOf cX9_signsOf 7 (Option.some Jvm.ClassFile.FieldType.int) { frames := 4, cells := 0, slots := 0, locals := 86 } [.ref o, .int (nI a), .int (nI b), .ref (o + 1 + k), .int (nI q)] h (fun v h' => ∃ f : Nat → Int32, v = some (.int (nI (sg2 ((u.take b).drop a) (nI a)).length)) ∧ MO G h' o I (upF A k f) ∧ (∀ j : Nat, (j < q ∨ q + 100 ≤ j) → f j = A k j) ∧ (∀ (j : Nat) (x : Sg), (sg2 ((u.take b).drop a) (nI a))[j]? = some x → f (q + j) = x.1) ∧ Mf o h h') := by
  have wl : (u.take b).length = b := by simp; omega
  have hw : fL (A 0) (u.take b) := fun j v hv => hu j v (by
    have hj : j < b := by have := (List.getElem?_eq_some_iff.mp hv).1; omega
    rw [List.getElem?_take_of_lt hj] at hv
    exact hv)
  refine Ct.of [some (.ref o), some (.int (nI a)), some (.int (nI b)), some (.ref (o + 1 + k)), some (.int (nI q)), none, none] (by decide +kernel) (Nat.le_of_ble_eq_true rfl) (fun p e s m args below meth c bs C hini => ?_)
  have loop : ∀ (n i : Nat) (h1 : xh) (f : Nat → Int32) (acc : List Sg), b - i < n → i ≤ b → acc.length ≤ i → (∀ j : Nat, (j < q ∨ q + 100 ≤ j) → f j = A k j) → (∀ (j : Nat) (x : Sg), acc[j]? = some x → f (q + j) = x.1) → MO G h1 o I (upF A k f) → acc ++ sg2 ((u.take b).drop i) (nI i) = sg2 ((u.take b).drop a) (nI a) → Mf o h h1 → X p l e { frames := 4, cells := 0, slots := 0, locals := 86 } s m args below meth c G bs (MQ below (x_Q G bs (fun v h' => ∃ f : Nat → Int32, v = some (.int (nI (sg2 ((u.take b).drop a) (nI a)).length)) ∧ MO G h' o I (upF A k f) ∧ (∀ j : Nat, (j < q ∨ q + 100 ≤ j) → f j = A k j) ∧ (∀ (j : Nat) (x : Sg), (sg2 ((u.take b).drop a) (nI a))[j]? = some x → f (q + j) = x.1) ∧ Mf o h h')) args s 0 0 (fun q => bs ≤ q)) 0 0 6 [some (.ref o), some (.int (nI a)), some (.int (nI b)), some (.ref (o + 1 + k)), some (.int (nI q)), some (.int (nI acc.length)), some (.int (nI i))] [] h1 := by
    intro n
    induction n with
    | zero => intro i h1 f acc hn; omega
    | succ n ih =>
      intro i h1 f acc hn hi hal hfo hfa hM heq hf
      refine x_iload C dX9_signsOf_6 (kk := ?_)
      refine x_iload_n C dX9_signsOf_8 (kk := ?_)
      refine x_ncmp_ge C i b dX9_signsOf_9 52 (fun hc9 => ?_) (fun hc9 => ?_)
      · refine x_iload C dX9_signsOf_52 (kk := ?_)
        refine x_iret C rfl dX9_signsOf_54 (hp := ?_)
        rw [List.drop_eq_nil_of_le (by omega)] at heq
        simp only [sg2, List.append_nil] at heq
        rw [← heq]
        exact ⟨f, rfl, hM, hfo, hfa, hf⟩
      refine x_aload_n C dX9_signsOf_12 (kk := ?_)
      refine x_iload C dX9_signsOf_13 (kk := ?_)
      refine x_iload C dX9_signsOf_15 (kk := ?_)
      refine x_iadd C dX9_signsOf_17 ?_
      refine x_top _ (nI_add q acc.length) ?_
      refine x_aload_n C dX9_signsOf_18 (kk := ?_)
      refine x_iload C dX9_signsOf_19 (kk := ?_)
      refine x_iload_n C dX9_signsOf_21 (kk := ?_)
      refine x_callV C ml_X9_signAt lk_X9_138 (m_signAt l G hc9 (by omega) hM) dX9_signsOf_22 (fun r22 h22 hp22 => ?_) (hh := hM.1)
      obtain ⟨ht, hz⟩ := hp22
      subst hz
      rw [upF_0 hk0] at ht
      rcases ht with ⟨rfl, ht⟩ | ⟨rfl, ht⟩
      · skip
        rw [sg2_yes hw (by rw [wl]; exact ht)] at heq
        refine x_mst C k (q + acc.length) hM hf dX9_signsOf_25 rfl (n := 2100) (by omega) (hn := hkl) (hk := hk) (kk := fun h hM hf => ?_)
        rw [upF_upF, upF_at] at hM
        refine x_iload C dX9_signsOf_26 (kk := ?_)
        refine x_aload_n C dX9_signsOf_28 (kk := ?_)
        refine x_iload C dX9_signsOf_29 (kk := ?_)
        refine x_iload_n C dX9_signsOf_31 (kk := ?_)
        refine x_callV C ml_X9_isTwo lk_X9_130 (m_isTwo l G hc9 (by omega) hM) dX9_signsOf_32 (fun r32 h32 hp32 => ?_) (hh := hM.1)
        obtain ⟨ht2, hz⟩ := hp32
        subst hz
        rw [upF_0 hk0] at ht2
        rcases ht2 with ⟨rfl, ht2⟩ | ⟨rfl, ht2⟩
        rotate_left
        · exact absurd ht ht2
        refine x_if_eq C dX9_signsOf_35 42 (fun z => absurd z (by decide)) (fun _ => ?_)
        refine x_iconst C dX9_signsOf_38 (v := 2) (kk := ?_)
        refine x_goto C dX9_signsOf_39 43 ?_
        refine x_iadd C dX9_signsOf_43 ?_
        refine x_top _ (nI_add i 2) ?_
        refine x_istore C dX9_signsOf_44 (kk := ?_)
        refine x_iinc1 C dX9_signsOf_46 (kk := ?_)
        refine x_goto C dX9_signsOf_49 6 ?_
        have hnew := ih (i + 2) _ (upd f (q + acc.length) (two (A 0 i) (A 0 (i + 1)))) (acc ++ [(two (A 0 i) (A 0 (i + 1)), nI i, nI (i + 2))]) (by omega) (by have := ht.1; omega) (by simp; omega) (fun j hj => by simp only [upd, if_neg (show ¬ j = q + acc.length by omega)]; exact hfo j hj) (rowApp hfa rfl) hM (by rw [← heq]; simp) hf
        rw [List.length_append] at hnew
        exact hnew
      rw [sg2_no hw (by omega) (by rw [wl]; exact ht)] at heq
      refine x_mst C k (q + acc.length) hM hf dX9_signsOf_25 rfl (n := 2100) (by omega) (hn := hkl) (hk := hk) (kk := fun h hM hf => ?_)
      rw [upF_upF, upF_at] at hM
      refine x_iload C dX9_signsOf_26 (kk := ?_)
      refine x_aload_n C dX9_signsOf_28 (kk := ?_)
      refine x_iload C dX9_signsOf_29 (kk := ?_)
      refine x_iload_n C dX9_signsOf_31 (kk := ?_)
      refine x_callV C ml_X9_isTwo lk_X9_130 (m_isTwo l G hc9 (by omega) hM) dX9_signsOf_32 (fun r32 h32 hp32 => ?_) (hh := hM.1)
      obtain ⟨ht2, hz⟩ := hp32
      subst hz
      rw [upF_0 hk0] at ht2
      rcases ht2 with ⟨rfl, ht2⟩ | ⟨rfl, ht2⟩
      · exact absurd ht2 ht
      refine x_if_eq C dX9_signsOf_35 42 (fun _ => ?_) (fun z => absurd rfl z)
      refine x_iconst C dX9_signsOf_42 (v := 1) (kk := ?_)
      refine x_iadd C dX9_signsOf_43 ?_
      refine x_top _ (nI_add i 1) ?_
      refine x_istore C dX9_signsOf_44 (kk := ?_)
      refine x_iinc1 C dX9_signsOf_46 (kk := ?_)
      refine x_goto C dX9_signsOf_49 6 ?_
      have hnew := ih (i + 1) _ (upd f (q + acc.length) (A 0 i)) (acc ++ [(A 0 i, nI i, nI (i + 1))]) (by omega) (by omega) (by simp; omega) (fun j hj => by simp only [upd, if_neg (show ¬ j = q + acc.length by omega)]; exact hfo j hj) (rowApp hfa rfl) hM (by rw [← heq]; simp) hf
      rw [List.length_append] at hnew
      exact hnew
  refine x_iconst C dX9_signsOf_0 (v := 0) (kk := ?_)
  refine x_istore C dX9_signsOf_1 (kk := ?_)
  refine x_iload_n C dX9_signsOf_3 (kk := ?_)
  refine x_istore C dX9_signsOf_4 (kk := ?_)
  exact loop (b + 1) a _ (A k) [] (by omega) hab (by simp) (fun _ _ => rfl) (fun j x hx => by simp at hx) (by rw [upF_id]; exact hM) rfl Fr.rf
theorem take_ne {w y : List Int32} {k : Nat} {v1 v2 : Int32} (h1 : w[k]? = some v1) (h2 : y[k]? = some v2) (hp : w.take k = y.take k) : (w.take (k + 1) = y.take (k + 1)) ↔ v1 = v2 := by
  rw [take_at h1, take_at h2, hp]
  constructor
  · intro h; have := List.append_cancel_left h; simpa using this
  · intro h; rw [h]
set_option maxRecDepth 100000 in
set_option maxHeartbeats 4000000 in
theorem m_isSameRow (l : Launch) (G : xG) {h : xh} {o : Nat} {I : Nat → Int32} {A : Nat → Nat → Int32} {s9 t9 : Nat} {w y : List Int32} (hs : s9 ≤ 20) (ht : t9 ≤ 20) (hwl : w.length ≤ 100) (hyl : y.length ≤ 100) (hw : A 13 s9 = nI w.length) (hy : A 13 t9 = nI y.length) (hwv : ∀ (j : Nat) (v : Int32), w[j]? = some v → A 15 (100 * s9 + j) = v) (hyv : ∀ (j : Nat) (v : Int32), y[j]? = some v → A 15 (100 * t9 + j) = v) (hM : MO G h o I A) : Ct l G yX9_isSameRow cX9_isSameRow 5 (Option.some Jvm.ClassFile.FieldType.boolean) { frames := 0, cells := 0, slots := 0, locals := 0 } [.ref o, .int (nI s9), .int (nI t9)] h (fun v h' => v = some (.int (if w = y then 1 else 0)) ∧ h' = h) := by
  refine Ct.of [some (.ref o), some (.int (nI s9)), some (.int (nI t9)), none, none] (by decide +kernel) (Nat.le_of_ble_eq_true rfl) (fun p e s m args below meth c bs C hini => ?_)
  have loop : ∀ (n k : Nat), w.length - k < n → k ≤ w.length → X p l e { frames := 0, cells := 0, slots := 0, locals := 0 } s m args below meth c G bs (MQ below (x_Q G bs (fun v h' => v = some (.int (if w = y then 1 else 0)) ∧ h' = h)) args s 0 0 (fun q => bs ≤ q)) 0 0 24 [some (.ref o), some (.int (nI s9)), some (.int (nI t9)), some (.int (if w.length = y.length ∧ w.take k = y.take k then 1 else 0)), some (.int (nI k))] [] h := by
    intro n
    induction n with
    | zero => intro k hn; omega
    | succ n ih =>
      intro k hn hk
      refine x_iload C dX9_isSameRow_24 (kk := ?_)
      refine x_aload_n C dX9_isSameRow_26 (kk := ?_)
      refine x_get C fl_X9_49 dX9_isSameRow_27 (hh := hM.1) (kk := ?_)
      refine x_iload_n C dX9_isSameRow_30 (kk := ?_)
      refine x_mld C 13 s9 hM dX9_isSameRow_31 rfl (n := 21) (by omega) (kk := ?_)
      rw [hw]
      refine x_ncmp_ge C k w.length dX9_isSameRow_32 78 (fun hc32 => ?_) (fun hc32 => ?_)
      · skip
        refine x_iload_n C dX9_isSameRow_78 (kk := ?_)
        refine x_zret C rfl dX9_isSameRow_79 (by first | exact Or.inl rfl | exact Or.inr rfl | assumption | exact ite01 _) (hp := ?_)
        have e : (w.length = y.length ∧ w.take k = y.take k) ↔ w = y := ⟨fun z => by have h1 := z.2; rw [List.take_of_length_le hc32, List.take_of_length_le (by omega)] at h1; exact h1, fun z => by rw [z]; exact ⟨rfl, rfl⟩⟩
        exact ⟨by simp only [e], rfl⟩
      refine x_iload_n C dX9_isSameRow_35 (kk := ?_)
      refine x_ifB_eq C dX9_isSameRow_36 78 (fun hc36 => ?_) (fun hc36 => ?_)
      · refine x_iload_n C dX9_isSameRow_78 (kk := ?_)
        refine x_zret C rfl dX9_isSameRow_79 (by first | exact Or.inl rfl | exact Or.inr rfl | assumption | exact ite01 _) (hp := ?_)
        exact ⟨by rw [if_neg hc36, if_neg (fun z => hc36 (by rw [z]; exact ⟨rfl, rfl⟩))], rfl⟩
      · refine x_aload_n C dX9_isSameRow_39 (kk := ?_)
        refine x_get C fl_X9_55 dX9_isSameRow_40 (hh := hM.1) (kk := ?_)
        refine x_bipush C dX9_isSameRow_43 (v := 100) (kk := ?_)
        refine x_iload_n C dX9_isSameRow_45 (kk := ?_)
        refine x_imul C dX9_isSameRow_46 ?_
        refine x_top _ (nI_mul 100 s9) ?_
        refine x_iload C dX9_isSameRow_47 (kk := ?_)
        refine x_iadd C dX9_isSameRow_49 ?_
        refine x_top _ (nI_add (100 * s9) k) ?_
        obtain ⟨v1, hv1⟩ : ∃ v, w[k]? = some v := ⟨w[k], List.getElem?_eq_getElem hc32⟩
        obtain ⟨v2, hv2⟩ : ∃ v, y[k]? = some v := ⟨y[k]'(by omega), List.getElem?_eq_getElem (by omega)⟩
        have hst := take_ne hv1 hv2 hc36.2
        refine x_mld C 15 (100 * s9 + k) hM dX9_isSameRow_50 rfl (n := 2100) (by omega) (kk := ?_)
        rw [hwv k v1 hv1]
        refine x_aload_n C dX9_isSameRow_51 (kk := ?_)
        refine x_get C fl_X9_55 dX9_isSameRow_52 (hh := hM.1) (kk := ?_)
        refine x_bipush C dX9_isSameRow_55 (v := 100) (kk := ?_)
        refine x_iload_n C dX9_isSameRow_57 (kk := ?_)
        refine x_imul C dX9_isSameRow_58 ?_
        refine x_top _ (nI_mul 100 t9) ?_
        refine x_iload C dX9_isSameRow_59 (kk := ?_)
        refine x_iadd C dX9_isSameRow_61 ?_
        refine x_top _ (nI_add (100 * t9) k) ?_
        refine x_mld C 15 (100 * t9 + k) hM dX9_isSameRow_62 rfl (n := 2100) (by omega) (kk := ?_)
        rw [hyv k v2 hv2]
        refine x_icmp_ne C dX9_isSameRow_63 70 (fun hc63 => ?_) (fun hc63 => ?_)
        · refine x_iconst C dX9_isSameRow_70 (v := 0) (kk := ?_)
          refine x_top _ (show (0 : Int32) = (if w.length = y.length ∧ w.take (k + 1) = y.take (k + 1) then 1 else 0) from (if_neg (fun z => hc63 (hst.mp z.2))).symm) ?_
          refine x_istore_n C dX9_isSameRow_71 (kk := ?_)
          refine x_iinc1 C dX9_isSameRow_72 (kk := ?_)
          refine x_goto C dX9_isSameRow_75 24 ?_
          exact ih (k + 1) (by omega) (by omega)
        · refine x_iconst C dX9_isSameRow_66 (v := 1) (kk := ?_)
          refine x_goto C dX9_isSameRow_67 71 ?_
          refine x_top _ (show (1 : Int32) = (if w.length = y.length ∧ w.take (k + 1) = y.take (k + 1) then 1 else 0) from (if_pos ⟨hc36.1, hst.mpr hc63⟩).symm) ?_
          refine x_istore_n C dX9_isSameRow_71 (kk := ?_)
          refine x_iinc1 C dX9_isSameRow_72 (kk := ?_)
          refine x_goto C dX9_isSameRow_75 24 ?_
          exact ih (k + 1) (by omega) (by omega)
  refine x_aload_n C dX9_isSameRow_0 (kk := ?_)
  refine x_get C fl_X9_49 dX9_isSameRow_1 (hh := hM.1) (kk := ?_)
  refine x_iload_n C dX9_isSameRow_4 (kk := ?_)
  refine x_mld C 13 s9 hM dX9_isSameRow_5 rfl (n := 21) (by omega) (kk := ?_)
  rw [hw]
  refine x_aload_n C dX9_isSameRow_6 (kk := ?_)
  refine x_get C fl_X9_49 dX9_isSameRow_7 (hh := hM.1) (kk := ?_)
  refine x_iload_n C dX9_isSameRow_10 (kk := ?_)
  refine x_mld C 13 t9 hM dX9_isSameRow_11 rfl (n := 21) (by omega) (kk := ?_)
  rw [hy]
  refine x_ncmp_ne C w.length y.length dX9_isSameRow_12 19 (fun hc12 => ?_) (fun hc12 => ?_)
  · refine x_iconst C dX9_isSameRow_19 (v := 0) (kk := ?_)
    refine x_top _ (show (0 : Int32) = (if w.length = y.length ∧ w.take 0 = y.take 0 then 1 else 0) from (if_neg (fun z => hc12 z.1)).symm) ?_
    refine x_istore_n C dX9_isSameRow_20 (kk := ?_)
    refine x_iconst C dX9_isSameRow_21 (v := 0) (kk := ?_)
    refine x_istore C dX9_isSameRow_22 (kk := ?_)
    exact loop (w.length + 1) 0 (by omega) (by omega)
  · refine x_iconst C dX9_isSameRow_15 (v := 1) (kk := ?_)
    refine x_goto C dX9_isSameRow_16 20 ?_
    refine x_top _ (show (1 : Int32) = (if w.length = y.length ∧ w.take 0 = y.take 0 then 1 else 0) from (if_pos ⟨hc12, by simp⟩).symm) ?_
    refine x_istore_n C dX9_isSameRow_20 (kk := ?_)
    refine x_iconst C dX9_isSameRow_21 (v := 0) (kk := ?_)
    refine x_istore C dX9_isSameRow_22 (kk := ?_)
    exact loop (w.length + 1) 0 (by omega) (by omega)
def Mbs (sr : List Sr) (b : Option Sr) (r : Int32) : Prop := (b = none ∧ r = -1) ∨ ∃ (k : Nat) (w : Sr), b = some w ∧ r = nI k ∧ sr[k]? = some w
set_option maxRecDepth 100000 in
set_option maxHeartbeats 4000000 in
theorem m_stringAt (l : Launch) (G : xG) {h : xh} {o : Nat} {I : Nat → Int32} {A : Nat → Nat → Int32} {sr : List Sr} {q : List Sg} {i : Nat} (hS : MrT (I 7) (A 13) (A 14) (A 15) (A 16) sr) (hQ : MrS (I 9) (A 26) (A 27) (A 28) q 300) (hi : i < q.length) (hM : MO G h o I A) : Ct l G yX9_stringAt cX9_stringAt 6 (Option.some Jvm.ClassFile.FieldType.int) { frames := 0, cells := 0, slots := 0, locals := 0 } [.ref o, .int (nI i)] h (fun v h' => ∃ r, v = some (.int r) ∧ Mbs sr (longest sr (q.map (·.1)) i) r ∧ h' = h) := by
  have hn := hS.2.1
  have hql := hQ.2.1
  refine Ct.of [some (.ref o), some (.int (nI i)), none, none, none, none] (by decide +kernel) (Nat.le_of_ble_eq_true rfl) (fun p e s m args below meth c bs C hini => ?_)
  have outer : ∀ (n s9 : Nat) (r : Int32), sr.length - s9 < n → s9 ≤ sr.length → Mbs sr ((sr.take s9).foldl (lstep (q.map (·.1)) i) none) r → ∀ x4 x5 : Option Value, X p l e { frames := 0, cells := 0, slots := 0, locals := 0 } s m args below meth c G bs (MQ below (x_Q G bs (fun v h' => ∃ r, v = some (.int r) ∧ Mbs sr (longest sr (q.map (·.1)) i) r ∧ h' = h)) args s 0 0 (fun q => bs ≤ q)) 0 0 4 [some (.ref o), some (.int (nI i)), some (.int r), some (.int (nI s9)), x4, x5] [] h := by
    intro n
    induction n with
    | zero => intro s9 r hn; omega
    | succ n ih =>
      intro s9 r hn9 hs9 hb x4 x5
      have ended : sr.length ≤ s9 → Mbs sr (longest sr (q.map (·.1)) i) r := fun hz => by
        rw [List.take_of_length_le hz] at hb
        exact hb
      have body : ∀ w : Sr, sr[s9]? = some w → ∀ x4 x5 : Option Value, X p l e { frames := 0, cells := 0, slots := 0, locals := 0 } s m args below meth c G bs (MQ below (x_Q G bs (fun v h' => ∃ r, v = some (.int r) ∧ Mbs sr (longest sr (q.map (·.1)) i) r ∧ h' = h)) args s 0 0 (fun q => bs ≤ q)) 0 0 12 [some (.ref o), some (.int (nI i)), some (.int r), some (.int (nI s9)), x4, x5] [] h := by
        intro w hw x4 x5
        obtain ⟨⟨w1, w2, w3⟩, a1, a2, a3, a4⟩ := hS.2.2.2 s9 w hw
        have hsl9 : s9 < sr.length := (List.getElem?_eq_some_iff.mp hw).1
        have hs20 : s9 < 20 := by have := (List.getElem?_eq_some_iff.mp hw).1; omega
        have hnx := lfold_at (w := (q.map (·.1))) (i := i) hw
        have at90 : ∀ (x5 : Option Value), X p l e { frames := 0, cells := 0, slots := 0, locals := 0 } s m args below meth c G bs (MQ below (x_Q G bs (fun v h' => ∃ r, v = some (.int r) ∧ Mbs sr (longest sr (q.map (·.1)) i) r ∧ h' = h)) args s 0 0 (fun q => bs ≤ q)) 0 0 90 [some (.ref o), some (.int (nI i)), some (.int r), some (.int (nI s9)), some (.int (if stands w.1 (q.map (·.1)) i = true then 1 else 0)), x5] [] h := by
          intro x5
          refine x_iload C dX9_stringAt_90 (kk := ?_)
          refine x_ifB_eq C dX9_stringAt_92 118 (fun hc92 => ?_) (fun hc92 => ?_)
          · refine x_iload_n C dX9_stringAt_118 (kk := ?_)
            refine x_istore_n C dX9_stringAt_119 (kk := ?_)
            refine x_iinc1 C dX9_stringAt_120 (kk := ?_)
            refine x_goto C dX9_stringAt_123 4 ?_
            exact ih (s9 + 1) _ (by omega) (by have := (List.getElem?_eq_some_iff.mp hw).1; omega) (by rw [hnx, lstep_no hc92]; exact hb) _ _
          · rcases hb with ⟨hb0, rfl⟩ | ⟨kb, wb, hb0, rfl, hkb⟩
            · rw [hb0, lstep_new hc92] at hnx
              refine x_iload_n C dX9_stringAt_95 (kk := ?_)
              refine x_if_lt C dX9_stringAt_96 114 (fun _ => ?_) (fun z => absurd (by decide) z)
              refine x_iload_n C dX9_stringAt_114 (kk := ?_)
              refine x_goto C dX9_stringAt_115 119 ?_
              refine x_istore_n C dX9_stringAt_119 (kk := ?_)
              refine x_iinc1 C dX9_stringAt_120 (kk := ?_)
              refine x_goto C dX9_stringAt_123 4 ?_
              exact ih (s9 + 1) _ (by omega) (by have := (List.getElem?_eq_some_iff.mp hw).1; omega) (by rw [hnx]; exact Or.inr ⟨s9, w, rfl, rfl, hw⟩) _ _
            have hkb20 : kb < 20 := by have := (List.getElem?_eq_some_iff.mp hkb).1; omega
            obtain ⟨⟨z1, z2, z3⟩, b1, -⟩ := hS.2.2.2 kb wb hkb
            refine x_iload_n C dX9_stringAt_95 (kk := ?_)
            refine x_if_lt C dX9_stringAt_96 114 (fun z => absurd z (nI_pos (by omega))) (fun _ => ?_)
            refine x_aload_n C dX9_stringAt_99 (kk := ?_)
            refine x_get C fl_X9_49 dX9_stringAt_100 (hh := hM.1) (kk := ?_)
            refine x_iload_n C dX9_stringAt_103 (kk := ?_)
            refine x_mld C 13 s9 hM dX9_stringAt_104 rfl (n := 21) (by omega) (kk := ?_)
            rw [a1]
            refine x_aload_n C dX9_stringAt_105 (kk := ?_)
            refine x_get C fl_X9_49 dX9_stringAt_106 (hh := hM.1) (kk := ?_)
            refine x_iload_n C dX9_stringAt_109 (kk := ?_)
            refine x_mld C 13 kb hM dX9_stringAt_110 rfl (n := 21) (by omega) (kk := ?_)
            rw [b1]
            refine x_ncmp_le C w.1.length wb.1.length dX9_stringAt_111 118 (fun hc111 => ?_) (fun hc111 => ?_)
            · refine x_iload_n C dX9_stringAt_118 (kk := ?_)
              refine x_istore_n C dX9_stringAt_119 (kk := ?_)
              refine x_iinc1 C dX9_stringAt_120 (kk := ?_)
              refine x_goto C dX9_stringAt_123 4 ?_
              exact ih (s9 + 1) _ (by omega) (by have := (List.getElem?_eq_some_iff.mp hw).1; omega) (by rw [hnx, hb0, lstep_le hc111]; exact Or.inr ⟨kb, wb, rfl, rfl, hkb⟩) _ _
            · refine x_iload_n C dX9_stringAt_114 (kk := ?_)
              refine x_goto C dX9_stringAt_115 119 ?_
              refine x_istore_n C dX9_stringAt_119 (kk := ?_)
              refine x_iinc1 C dX9_stringAt_120 (kk := ?_)
              refine x_goto C dX9_stringAt_123 4 ?_
              exact ih (s9 + 1) _ (by omega) (by have := (List.getElem?_eq_some_iff.mp hw).1; omega) (by rw [hnx, hb0, lstep_gt hc92 hc111]; exact Or.inr ⟨s9, w, rfl, rfl, hw⟩) _ _
        have no90 : stands w.1 (q.map (·.1)) i = false → ∀ (k : Nat), X p l e { frames := 0, cells := 0, slots := 0, locals := 0 } s m args below meth c G bs (MQ below (x_Q G bs (fun v h' => ∃ r, v = some (.int r) ∧ Mbs sr (longest sr (q.map (·.1)) i) r ∧ h' = h)) args s 0 0 (fun q => bs ≤ q)) 0 0 37 [some (.ref o), some (.int (nI i)), some (.int r), some (.int (nI s9)), some (.int 0), some (.int (nI k))] [] h := by
          intro hno k
          have e0 : (0 : Int32) = (if stands w.1 (q.map (·.1)) i = true then 1 else 0) := by rw [hno]; rfl
          refine x_iload C dX9_stringAt_37 (kk := ?_)
          refine x_aload_n C dX9_stringAt_39 (kk := ?_)
          refine x_get C fl_X9_49 dX9_stringAt_40 (hh := hM.1) (kk := ?_)
          refine x_iload_n C dX9_stringAt_43 (kk := ?_)
          refine x_mld C 13 s9 hM dX9_stringAt_44 rfl (n := 21) (by omega) (kk := ?_)
          rw [a1]
          refine x_icmp_ge C dX9_stringAt_45 90 (fun hc45 => ?_) (fun hc45 => ?_)
          · have := at90 (some (.int (nI k)))
            rw [← e0] at this
            exact this
          · refine x_iload C dX9_stringAt_48 (kk := ?_)
            refine x_if_eq C dX9_stringAt_50 90 (fun _ => ?_) (fun z => absurd rfl z)
            have := at90 (some (.int (nI k)))
            rw [← e0] at this
            exact this
        have inner : i + w.1.length ≤ q.length → ∀ (n2 k : Nat), w.1.length - k < n2 → k ≤ w.1.length → stands w.1 (q.map (·.1)) i = (w.1.drop k).isPrefixOf ((q.map (·.1)).drop (i + k)) → X p l e { frames := 0, cells := 0, slots := 0, locals := 0 } s m args below meth c G bs (MQ below (x_Q G bs (fun v h' => ∃ r, v = some (.int r) ∧ Mbs sr (longest sr (q.map (·.1)) i) r ∧ h' = h)) args s 0 0 (fun q => bs ≤ q)) 0 0 37 [some (.ref o), some (.int (nI i)), some (.int r), some (.int (nI s9)), some (.int 1), some (.int (nI k))] [] h := by
          intro hlen n2
          induction n2 with
          | zero => intro k hn; omega
          | succ n2 ih2 =>
            intro k hn2 hk2 hst
            refine x_iload C dX9_stringAt_37 (kk := ?_)
            refine x_aload_n C dX9_stringAt_39 (kk := ?_)
            refine x_get C fl_X9_49 dX9_stringAt_40 (hh := hM.1) (kk := ?_)
            refine x_iload_n C dX9_stringAt_43 (kk := ?_)
            refine x_mld C 13 s9 hM dX9_stringAt_44 rfl (n := 21) (by omega) (kk := ?_)
            rw [a1]
            refine x_ncmp_ge C k w.1.length dX9_stringAt_45 90 (fun hc45 => ?_) (fun hc45 => ?_)
            · have e1 : (1 : Int32) = (if stands w.1 (q.map (·.1)) i = true then 1 else 0) := by rw [hst, st_end hc45]; rfl
              have := at90 (some (.int (nI k)))
              rw [← e1] at this
              exact this
            refine x_iload C dX9_stringAt_48 (kk := ?_)
            refine x_if_eq C dX9_stringAt_50 90 (fun z => absurd z (by decide)) (fun _ => ?_)
            obtain ⟨v1, hv1⟩ : ∃ v, w.1[k]? = some v := ⟨w.1[k], List.getElem?_eq_getElem hc45⟩
            obtain ⟨v2, hv2⟩ : ∃ v, (q.map (·.1))[i + k]? = some v := ⟨(q.map (·.1))[i + k]'(by simp; omega), List.getElem?_eq_getElem (by simp; omega)⟩
            have hstp := st_step hv1 hv2
            refine x_aload_n C dX9_stringAt_53 (kk := ?_)
            refine x_get C fl_X9_55 dX9_stringAt_54 (hh := hM.1) (kk := ?_)
            refine x_bipush C dX9_stringAt_57 (v := 100) (kk := ?_)
            refine x_iload_n C dX9_stringAt_59 (kk := ?_)
            refine x_imul C dX9_stringAt_60 ?_
            refine x_top _ (nI_mul 100 s9) ?_
            refine x_iload C dX9_stringAt_61 (kk := ?_)
            refine x_iadd C dX9_stringAt_63 ?_
            refine x_top _ (nI_add (100 * s9) k) ?_
            refine x_mld C 15 (100 * s9 + k) hM dX9_stringAt_64 rfl (n := 2100) (by omega) (kk := ?_)
            rw [a3 k v1 hv1]
            refine x_aload_n C dX9_stringAt_65 (kk := ?_)
            refine x_get C fl_X9_88 dX9_stringAt_66 (hh := hM.1) (kk := ?_)
            refine x_iload_n C dX9_stringAt_69 (kk := ?_)
            refine x_iload C dX9_stringAt_70 (kk := ?_)
            refine x_iadd C dX9_stringAt_72 ?_
            refine x_top _ (nI_add i k) ?_
            refine x_mld C 26 (i + k) hM dX9_stringAt_73 rfl (n := 300) (by omega) (kk := ?_)
            rw [hQ.2.2.1 _ _ hv2]
            refine x_icmp_ne C dX9_stringAt_74 81 (fun hc74 => ?_) (fun hc74 => ?_)
            · refine x_iconst C dX9_stringAt_81 (v := 0) (kk := ?_)
              refine x_istore C dX9_stringAt_82 (kk := ?_)
              refine x_iinc1 C dX9_stringAt_84 (kk := ?_)
              refine x_goto C dX9_stringAt_87 37 ?_
              exact no90 (by rw [hst, hstp, beq_eq_false_iff_ne.mpr hc74]; rfl) (k + 1)
            · refine x_iconst C dX9_stringAt_77 (v := 1) (kk := ?_)
              refine x_goto C dX9_stringAt_78 82 ?_
              refine x_istore C dX9_stringAt_82 (kk := ?_)
              refine x_iinc1 C dX9_stringAt_84 (kk := ?_)
              refine x_goto C dX9_stringAt_87 37 ?_
              exact ih2 (k + 1) (by omega) (by omega) (by rw [hst, hstp, hc74]; simp)
        refine x_iload_n C dX9_stringAt_12 (kk := ?_)
        refine x_aload_n C dX9_stringAt_13 (kk := ?_)
        refine x_get C fl_X9_49 dX9_stringAt_14 (hh := hM.1) (kk := ?_)
        refine x_iload_n C dX9_stringAt_17 (kk := ?_)
        refine x_mld C 13 s9 hM dX9_stringAt_18 rfl (n := 21) (by omega) (kk := ?_)
        rw [a1]
        refine x_iadd C dX9_stringAt_19 ?_
        refine x_top _ (nI_add i w.1.length) ?_
        refine x_aload_n C dX9_stringAt_20 (kk := ?_)
        refine x_get C fl_X9_194 dX9_stringAt_21 (hh := hM.1) (kk := ?_)
        refine x_top _ hQ.1 ?_
        refine x_ncmp_gt C (i + w.1.length) q.length dX9_stringAt_24 31 (fun hc24 => ?_) (fun hc24 => ?_)
        · refine x_iconst C dX9_stringAt_31 (v := 0) (kk := ?_)
          refine x_istore C dX9_stringAt_32 (kk := ?_)
          refine x_iconst C dX9_stringAt_34 (v := 0) (kk := ?_)
          refine x_istore C dX9_stringAt_35 (kk := ?_)
          exact no90 (st_long (by simp; omega)) 0
        · refine x_iconst C dX9_stringAt_27 (v := 1) (kk := ?_)
          refine x_goto C dX9_stringAt_28 32 ?_
          refine x_istore C dX9_stringAt_32 (kk := ?_)
          refine x_iconst C dX9_stringAt_34 (v := 0) (kk := ?_)
          refine x_istore C dX9_stringAt_35 (kk := ?_)
          exact inner hc24 (w.1.length + 1) 0 (by omega) (by omega) rfl
      refine x_iload_n C dX9_stringAt_4 (kk := ?_)
      refine x_aload_n C dX9_stringAt_5 (kk := ?_)
      refine x_get C fl_X9_149 dX9_stringAt_6 (hh := hM.1) (kk := ?_)
      refine x_top _ hS.1 ?_
      refine x_ncmp_ge C s9 sr.length dX9_stringAt_9 126 (fun hc9 => ?_) (fun hc9 => ?_)
      · refine x_iload_n C dX9_stringAt_126 (kk := ?_)
        refine x_iret C rfl dX9_stringAt_127 (hp := ?_)
        exact ⟨_, rfl, ended hc9, rfl⟩
      exact body _ (List.getElem?_eq_getElem hc9) _ _
  refine x_iconst C dX9_stringAt_0 (v := -1) (kk := ?_)
  refine x_istore_n C dX9_stringAt_1 (kk := ?_)
  refine x_iconst C dX9_stringAt_2 (v := 0) (kk := ?_)
  refine x_istore_n C dX9_stringAt_3 (kk := ?_)
  exact outer (sr.length + 1) 0 (-1) (by omega) (by omega) (Or.inl ⟨rfl, rfl⟩) _ _
