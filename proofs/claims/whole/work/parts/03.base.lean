/-! THE WORLD AS A PARTIAL MAP OF ADDRESSES, AND A JUDGEMENT OVER IT -/
abbrev xG : Type := va_G × (Nat → ClassId)
abbrev xh : Type := (Nat → Option va_E) × Nat
def x_set (h : xh) (a : Nat) (e : va_E) : xh := (fun b => if b = a then some e else h.1 b, h.2)
def x_new (h : xh) (e : va_E) : xh := (fun b => if b = h.2 then some e else h.1 b, h.2 + 1)
theorem x_set_eq {h : xh} {a : Nat} {e : va_E} : (x_set h a e).1 a = some e := if_pos rfl
theorem x_set_of {h : xh} {a b : Nat} {e : va_E} (hb : b = a) : (x_set h a e).1 b = some e := if_pos hb
theorem x_set_ne {h : xh} {a b : Nat} {e : va_E} {r : Option va_E} (hne : b ≠ a) (hb : h.1 b = r) : (x_set h a e).1 b = r := (if_neg hne).trans hb
theorem x_new_eq {h : xh} {b : Nat} {e : va_E} (hb : b = h.2) : (x_new h e).1 b = some e := if_pos hb
theorem x_new_ne {h : xh} {b : Nat} {e : va_E} {r : Option va_E} (hne : b ≠ h.2) (hb : h.1 b = r) : (x_new h e).1 b = r := (if_neg hne).trans hb
abbrev eO (ci : Nat) (fs : List Value) : va_E := .inr (ci, fs)
abbrev eI (G : xG) (n : Nat) (f : Nat → Int32) : va_E := .inl (G.2 0, n, .inl f)
abbrev eR (G : xG) (t n : Nat) (f : Nat → Option Nat) : va_E := .inl (G.2 t, n, .inr (.inr (.inr (.inr f))))
def x_tys (G : xG) : List (ClassId × FieldType) := [(G.2 0, .int), (G.2 1, .object RX0), (G.2 2, .object RX4)]
def x_nw : List (String × Nat × MethodName × String) := [(RX8, 22, yX1_init, "SignTables"), (RX8, 29, yX2_init, "SignTables"), (RX8, 36, yX7_init, "SignTables"), (RX8, 43, yX3_init, "SignTables"), (RX8, 50, yX6_init, "SignTables"), (RX8, 63, yX5_init, "SignTables"), (RX1, 39, yX8_unitsOf, "SignTables")]
def x_H (G : xG) (bs : Nat) (h : xh) (H : Heap) : Prop := H.size = h.2 ∧ bs ≤ h.2 ∧ ∀ a e, h.1 a = some e → bs ≤ a ∧ va_at G.1 vwCl (a, e) H
def x_K (G : xG) (U : State) : Prop := va_K G.1 vwCl (x_tys G) U ∧ (∀ q ∈ x_nw, va_Nw (.methodLinkNest q.1 q.2.1 q.2.2.1 q.2.2.2) U) ∧ va_AO RX0 U ∧ va_AO RX4 U
theorem x_K.warm {G : xG} {s U : State} (hW : s.WarmedH U.vm) (h : x_K G s) : x_K G U :=
  ⟨va_K.moved hW.alike h.1, fun q hq => va_Nw.warmM hW (h.2.1 q hq), va_AO.moved hW.alike h.2.2.1, va_AO.moved hW.alike h.2.2.2⟩
theorem x_K.vm {G : xG} {s U : State} (hv : s.vm = U.vm) (h : x_K G s) : x_K G U := by
  have ha : s.vm.Alike U.vm := by rw [hv]; exact Vm.Alike.refl U.vm
  exact ⟨va_K.moved ha h.1, fun q hq => va_tabs rfl hv (h.2.1 q hq), va_AO.moved ha h.2.2.1, va_AO.moved ha h.2.2.2⟩
def x_L (ls : Array Slot) (n : Nat) (L : List (Option Value)) : Prop := ls.size = n ∧ lv_wf ls ∧ ∀ (i : Nat) (v : Value), L[i]? = some (some v) → ls[i]? = some (.val v) ∧ v.category = 1
def x_as (L : List (Option Value)) : List (Nat × Value) := (List.range L.length).filterMap (fun i => match L[i]? with | some (some v) => some (i, v) | _ => none)
theorem x_as_in {L : List (Option Value)} {q : Nat × Value} : q ∈ x_as L ↔ L[q.1]? = some (some q.2) := by
  unfold x_as
  rw [List.mem_filterMap]
  constructor
  · rintro ⟨i, -, hi⟩
    split at hi
    · rename_i v hv
      cases hi
      exact hv
    · cases hi
  · intro h
    refine ⟨q.1, List.mem_range.mpr (List.getElem?_eq_some_iff.mp h).1, ?_⟩
    rw [h]
theorem x_L.has {ls : Array Slot} {n : Nat} {L : List (Option Value)} (h : x_L ls n L) : lv_has ls n (x_as L) := ⟨h.1, h.2.1, fun q hq => (h.2.2 q.1 q.2 (x_as_in.mp hq)).1⟩
theorem x_L.set {ls ls' : Array Slot} {n i : Nat} {L : List (Option Value)} {v : Value} (h : x_L ls n L) (hv : v.category = 1) (h' : lv_has ls' n ((i, v) :: (x_as L).filter (fun q => !(q.1 == i) && !(q.1 + 1 == i && q.2.category == 2)))) : x_L ls' n (L.set i (some v)) := by
  refine ⟨h'.1, h'.2.1, fun j w hw => ?_⟩
  by_cases hj : j = i
  · subst hj
    have hl : j < (L.set j (some v)).length := (List.getElem?_eq_some_iff.mp hw).1
    rw [List.getElem?_set_self (by simpa using hl)] at hw
    cases hw
    exact ⟨h'.2.2 (j, v) List.mem_cons_self, hv⟩
  · rw [List.getElem?_set_ne (Ne.symm hj)] at hw
    have hc := (h.2.2 j w hw).2
    refine ⟨h'.2.2 (j, w) (List.mem_cons_of_mem _ (List.mem_filter.mpr ⟨x_as_in.mpr hw, ?_⟩)), hc⟩
    simp [hj, hc]
theorem x_L.sub {ls : Array Slot} {n : Nat} {L L' : List (Option Value)} (h : x_L ls n L) (hs : ∀ (i : Nat) (v : Value), L'[i]? = some (some v) → L[i]? = some (some v)) : x_L ls n L' := ⟨h.1, h.2.1, fun i v hv => h.2.2 i v (hs i v hv)⟩
theorem x_args (vs : List Value) (hc : ∀ v ∈ vs, v.category = 1) : ∀ (k i : Nat) (v : Value), vs[i]? = some v → (k + i, v) ∈ lv_args k vs := by
  induction vs with
  | nil => intro k i v h; simp at h
  | cons a t ih =>
    intro k i v h
    have ha : a.category = 1 := hc a List.mem_cons_self
    cases i with
    | zero =>
      simp at h
      subst h
      simp [lv_args]
    | succ i =>
      have h2 := ih (fun v hv => hc v (List.mem_cons_of_mem _ hv)) (k + 1) i v (by simpa using h)
      simp only [lv_args, ha]
      refine List.mem_cons_of_mem _ ?_
      have e : k + (i + 1) = k + 1 + i := by omega
      rw [e]
      simpa using h2
theorem x_L.entry {ls : Array Slot} {n : Nat} {vs : List Value} {L : List (Option Value)} (h : lv_has ls n (lv_args 0 vs)) (hc : ∀ v ∈ vs, v.category = 1) (hL : ∀ (i : Nat) (v : Value), L[i]? = some (some v) → vs[i]? = some v) : x_L ls n L := by
  refine ⟨h.1, h.2.1, fun i v hv => ?_⟩
  have h1 := hL i v hv
  have h2 := x_args vs hc 0 i v h1
  rw [Nat.zero_add] at h2
  exact ⟨h.2.2 _ h2, hc v (List.mem_of_getElem? h1)⟩
theorem x_H.one {G : xG} {bs a : Nat} {h : xh} {H : Heap} {e : va_E} (hH : x_H G bs h H) (hh : h.1 a = some e) : va_P G.1 vwCl [(a, e)] H := by
  intro k q hk
  match k with
  | 0 => cases hk; exact (hH.2.2 a e hh).2
  | k + 1 => simp at hk
theorem x_H.put {G : xG} {bs a : Nat} {h : xh} {H H1 : Heap} {e e' : va_E} (hH : x_H G bs h H) (hh : h.1 a = some e) (z : H1.size = H.size) (oq : ∀ q : Nat, q ≠ a → H1[q]? = H[q]?) (h1 : va_at G.1 vwCl (a, e') H1) : x_H G bs (x_set h a e') H1 := by
  refine ⟨z.trans hH.1, hH.2.1, fun b e2 hb => ?_⟩
  by_cases hba : b = a
  · subst hba
    rw [x_set_eq] at hb
    cases hb
    exact ⟨(hH.2.2 b e hh).1, h1⟩
  · rw [x_set_ne hba rfl] at hb
    exact ⟨(hH.2.2 b e2 hb).1, (hH.2.2 b e2 hb).2.kept (oq b hba)⟩
theorem x_H.new {G : xG} {bs : Nat} {h : xh} {H H1 : Heap} {e : va_E} (hH : x_H G bs h H) (z : H1.size = H.size + 1) (oq : ∀ q : Nat, q < H.size → H1[q]? = H[q]?) (h1 : va_at G.1 vwCl (H.size, e) H1) : x_H G bs (x_new h e) H1 := by
  refine ⟨by rw [z, hH.1]; rfl, Nat.le_succ_of_le hH.2.1, fun b e2 hb => ?_⟩
  by_cases hba : b = h.2
  · rw [x_new_eq hba] at hb
    cases hb
    subst hba
    exact ⟨hH.2.1, by rw [← hH.1]; exact h1⟩
  · rw [x_new_ne hba rfl] at hb
    exact ⟨(hH.2.2 b e2 hb).1, (hH.2.2 b e2 hb).2.kept (oq b (hH.2.2 b e2 hb).2.lt)⟩
/-- what a method's instructions may ask of the class files: a field; a method -/
def FL (own : String) (idx ci k : Nat) : Prop := ∃ r : vw_C, vwCl[ci]? = some r ∧ k < r.2.2 ∧ Cond.fieldLink own idx (r.2.1 k).1 (r.2.1 k).2.1 (r.2.1 k).2.2.1 ∈ TB ∧ ∀ w ∈ u_ws r.1 r.2.1 r.2.2, w ∈ TB
def FP (own : String) (idx ci k : Nat) (ty : FieldType) (fin : Bool) : Prop := ∃ r : vw_C, vwCl[ci]? = some r ∧ k < r.2.2 ∧ Cond.fieldLink own idx (r.2.1 k).1 (r.2.1 k).2.1 (r.2.1 k).2.2.1 ∈ TB ∧ (∀ w ∈ u_ws r.1 r.2.1 r.2.2, w ∈ TB) ∧
  (∃ ty0 : Nat → FieldType, ∀ j, j < r.2.2 → parseFieldDescriptor (r.2.1 j).2.2.1 = some (ty0 j)) ∧ (∀ a, a < r.2.2 → ∀ b, b < r.2.2 → a ≠ b → (r.2.1 a).2.1 ≠ (r.2.1 b).2.1) ∧ parseFieldDescriptor (r.2.1 k).2.2.1 = some ty ∧ (r.2.1 k).2.2.2 = fin ∧ (fin = true → (r.2.1 k).1 = own)
def ML (y : MethodName) (cc : ByteArray) (maxL : Nat) (ret : Option FieldType) (n : Nat) : Prop := Cond.code y cc maxL ret ∈ TB ∧ Cond.initialized y.cls ∈ TB ∧ (y.cls ≠ "java/lang/invoke/MethodHandle" ∧ y.cls ≠ "java/lang/invoke/VarHandle") ∧ (parseMethodDescriptor y.desc).map (fun d => d.parameters.length) = some n
def VL (own : String) (idx : Nat) (y : MethodName) : Prop := Cond.methodLink own idx y ∈ TB ∧ Cond.instanceMethod y ∈ TB ∧ Cond.selects y.cls y y ∈ TB
def SL (own : String) (idx : Nat) (y : MethodName) : Prop := Cond.methodLink own idx y ∈ TB ∧ Cond.static y ∈ TB
def IL (own : String) (idx : Nat) (y : MethodName) : Prop := Cond.methodLink own idx y ∈ TB ∧ Cond.instanceMethod y ∈ TB ∧ y.name = "<init>"
def NL (own : String) (idx : Nat) (y : MethodName) : Prop := (own, idx, y, "SignTables") ∈ x_nw
def Cx (p : Program) (s : State) (m : MethodId) (args : Array Value) (meth : Method) (c : Code) (G : xG) (own : String) (cc : ByteArray) (nL : Nat) (ret : Option FieldType) : Prop :=
  p.tables.exec = Jvm.exec ∧ c.code = cc ∧ c.maxLocals = nL ∧ meth.sig.returnType = ret ∧ (∀ w ∈ TB, w.before args s = true) ∧ s.vm.findClass own = some m.cls ∧ meth.locks = false ∧ x_K G s
def X (p : Program) (l : Launch) (e : Env) (R : Room) (s : State) (m : MethodId) (args : Array Value) (below : List Frame) (meth : Method) (c : Code) (G : xG) (bs : Nat) (Q : State → Prop) (cells slots pc : Nat) (L : List (Option Value)) (st : List Value) (h : xh) : Prop :=
  ∀ (H : Heap) (ls : Array Slot) (locs : List Loc), x_H G bs h H → va_S (fun q => bs ≤ q) s.heap H locs → x_L ls c.maxLocals L → W p l e R s m args below meth c H locs cells slots Q (F0 m pc ls st)
def x_Q (G : xG) (bs : Nat) (post : Option Value → xh → Prop) : Array Value → State → Outcome → State → Prop := fun _ st o t => ∃ (r : Option Value) (h' : xh), o = .returned r ∧ post r h' ∧ x_H G bs h' t.heap ∧ va_F (fun q => bs ≤ q) st t
/-- a contract: from the world h, with the arguments av, it returns, 'post' of its answer and the world behind it -/
def Ct (l : Launch) (G : xG) (y : MethodName) (cc : ByteArray) (maxL : Nat) (ret : Option FieldType) (rm : Room) (av : List Value) (h : xh) (post : Option Value → xh → Prop) : Prop :=
  ∀ bs : Nat, Met l y (.code y cc maxL ret :: TB) rm (fun v U => v = av.toArray ∧ x_H G bs h U.heap ∧ x_K G U) (x_Q G bs post) rm.cells rm.slots (fun q => bs ≤ q)
theorem x_good : GoodIn TB TB := fun w h => ⟨h, good_of_word (List.mem_filter.mp h).2⟩
theorem x_goodC {y : MethodName} {cc : ByteArray} {maxL : Nat} {ret : Option FieldType} (h : Cond.code y cc maxL ret ∈ TB) : GoodIn TB (.code y cc maxL ret :: TB) := fun w hw => (List.mem_cons.mp hw).elim (fun e => e ▸ x_good _ h) (x_good w)
theorem x_L0 {av : List Value} {k i : Nat} {v : Value} (h : (av.map some ++ List.replicate k none)[i]? = some (some v)) : av[i]? = some v := by
  by_cases hi : i < av.length
  · rw [List.getElem?_append_left (by simpa using hi), List.getElem?_map] at h
    cases ha : av[i]? with
    | none => rw [ha] at h; cases h
    | some a => rw [ha] at h; cases h; rfl
  · rw [List.getElem?_append_right (by simpa using Nat.not_lt.mp hi), List.getElem?_replicate] at h
    split at h <;> cases h
theorem Ct.of {l : Launch} {G : xG} {y : MethodName} {cc : ByteArray} {maxL : Nat} {ret : Option FieldType} {rm : Room} {av : List Value} {h : xh} {post : Option Value → xh → Prop} (L : List (Option Value)) (hy : plainName y.cls = true) (hlen : (lg_sl av).length ≤ maxL)
    (body : ∀ (p : Program) (e : Env) (s : State) (m : MethodId) (args : Array Value) (below : List Frame) (meth : Method) (c : Code) (bs : Nat), Cx p s m args meth c G y.cls cc maxL ret → meth.name = y.name →
      X p l e rm s m args below meth c G bs (MQ below (x_Q G bs post) args s rm.cells rm.slots (fun q => bs ≤ q)) 0 0 0 L [] h) (hc : av.all (fun v => decide (v.category = 1)) = true := by rfl) (hL : av.map some ++ List.replicate (maxL - av.length) none = L := by rfl) : Ct l G y cc maxL ret rm av h post := by
  intro bs
  subst hL
  refine Met.ofW (cc := cc) (maxL := maxL) (ret := ret) hy rfl ?_
  intro p e s m args below meth c s₁ B hml hv
  obtain ⟨rfl, hH, hK⟩ := hv
  have hts := atoms_spec (ws := Cond.code y cc maxL ret :: TB) B.pre
  have hown : s.vm.findClass y.cls = some m.cls := findClass_of_methodNamed B.named
  rw [lg_entry_eq]
  have hl := lv_entry av (n := maxL) hlen
  exact body p e s m _ below meth c bs ⟨B.exec, B.bytes, hml, B.returns, fun w hw => hts w (List.mem_cons_of_mem _ hw), hown, B.notSynchronized, hK⟩ (name_of_methodNamed B.named B.method).1 s.heap _ [] hH va_S.rf (by rw [hml]; exact x_L.entry hl (fun v hv => of_decide_eq_true (List.all_eq_true.mp hc v hv)) (fun i v h => x_L0 h))
theorem Ct.mono {l : Launch} {G : xG} {y : MethodName} {cc : ByteArray} {maxL : Nat} {ret : Option FieldType} {rm : Room} {av : List Value} {h : xh} {post : Option Value → xh → Prop} {av' : List Value} (k : Ct l G y cc maxL ret rm av h post) (e : av = av') : Ct l G y cc maxL ret rm av' h post := e ▸ k
