/-! THE CLAIM OUT OF ONE WALK OF THE LAW'S BODY. Your part is whole_start (and what it stands on); all else here is the same for every law, but numbers. -/
def R_law : String := "SignTablesLaw"
def lw_P (b : Addr) (xs : List Int32) (args : Array Value) (s : State) : Prop := args = #[.ref b] ∧ s.IntsAt b xs ∧ xs.length ≤ 2560 ∧ (Jvm.Cond.and given_1 narrow_1).before args s = true
def lw_Q (_ : Array Value) (s : State) (o : Outcome) (t : State) : Prop := o = .returned (some (.int 1)) ∧ Framed s o t [] 600000 7302250
def lw_Z (below : List Frame) (a : Array Value) (s : State) : State → Prop := fun t => ∃ o, t.status = .running ∧ Ended t below o ∧ lw_Q a s o t
/-- the law's own end, with 1 on the stack, nothing written that was there before, its room as the claim has it -/
theorem lw_ret {p : Program} {l : Launch} {e : Env} {s : State} {m : MethodId} {below : List Frame} {meth : Method} {c : Code} {b : Nat} (hx : p.tables.exec = Jvm.exec) (hb : c.code = code) (hr : meth.sig.returnType = ret) (hlocks : meth.locks = false) {pc : Nat} {H : Heap} {ls : Array Slot} (hdg : decode code pc = .ok (.ireturn, 1)) : W p l e room_1 s m #[Value.ref b] below meth c H [] 600000 7302250 (lw_Z below #[Value.ref b] s) (F0 m pc ls [.int 1]) := by
  intro T hT X
  obtain ⟨fs, hret, hrun, hended, hW, hframe⟩ := X.leave (v := some (.int 1)) (hlocks := hlocks) (fun h => by rw [hr] at h; cases h)
  have hmeth' : T.vm.method? m = some meth := X.method'
  refine ⟨T.setFrames fs, ?_, .returned (some (.int 1)), hrun, hended, rfl, ⟨_, rfl⟩, hW, hframe⟩
  jvm_step X.here [X.here.top, hx, hb, hdg, hmeth', hr, ret, narrow_b1]
  (try refine ⟨rfl, ?_⟩); (try refine ⟨rfl, ?_⟩)
  first | (intro acts; rw [hret _ acts rfl rfl rfl]) | rw [hret _ _ rfl rfl rfl]
  exact Steps.refl _
/-- what holds at the law's entry: the machine, the code, the tables' words (any of lw_tbl by 'hts w (by decide +kernel)'), the script of L ints xs at the cell b, what the Statement gives of the start (any of its parts by flat_of_before) -/
def lw_At (p : Program) (s : State) (m : MethodId) (meth : Method) (c : Code) (b L : Nat) (xs : Nat → Int32) : Prop :=
  p.tables.exec = Jvm.exec ∧ c.code = code ∧ meth.sig.returnType = ret ∧ c.maxLocals = 4 ∧ s.vm.findClass R_law = some m.cls ∧ (∀ w ∈ lw_tbl, w.before #[Value.ref b] s = true) ∧ va_X b L xs s s.heap ∧ b < s.heap.size ∧ meth.locks = false ∧ (Jvm.Cond.and given_1 narrow_1).before #[Value.ref b] s = true
/-! ROWS OF THE LAW -/
section XW
variable {p : Program} {l : Launch} {e : Env} {R : Room} {s : State} {m : MethodId} {args : Array Value} {below : List Frame} {meth : Method} {c : Code} {G : xG} {bs : Nat} {Q : State → Prop} {cells slots pc : Nat} {L : List (Option Value)} {st : List Value} {h : xh}
section
variable {own : String} {cc : ByteArray} {nL : Nat} {ret : Option FieldType}
theorem x_sld (C : Cx p s m args meth c G own cc nL ret) {b n : Nat} {xs : Nat → Int32} {i : Int32} (j : Nat) (hX : va_X b n xs s s.heap) (hbl : b < s.heap.size) (hbs : b < bs) (hn : n ≤ 2560) (hd : decode cc pc = .ok (.iaload, 1)) (hj : j < n) (hi : i = nI j := by rfl) (kk : X p l e R s m args below meth c G bs Q cells slots (pc + 1) L (.int (xs j) :: st) h) : X p l e R s m args below meth c G bs Q cells slots pc L (.int i :: .ref b :: st) h := by
  subst hi
  intro H ls locs hH hS hL
  refine va_sld C.1 C.2.1 hX hbl (Nat.not_le.mpr hbs) hS (vp_in_nI hj (by omega)) hd ?_
  rw [nI_clamp (by omega)]
  exact kk H ls locs hH hS hL
theorem x_slen (C : Cx p s m args meth c G own cc nL ret) {b n : Nat} {xs : Nat → Int32} (hX : va_X b n xs s s.heap) (hbl : b < s.heap.size) (hbs : b < bs) (hd : decode cc pc = .ok (.arraylength, 1)) (kk : X p l e R s m args below meth c G bs Q cells slots (pc + 1) L (.int (nI n) :: st) h) : X p l e R s m args below meth c G bs Q cells slots pc L (.ref b :: st) h := fun H ls locs hH hS hL =>
  va_slen C.1 C.2.1 hX hbl (Nat.not_le.mpr hbs) hS hd (kk H ls locs hH hS hL)
theorem x_refq {a b : Nat} (e9 : a = b) (kk : X p l e R s m args below meth c G bs Q cells slots pc L (.ref b :: st) h) : X p l e R s m args below meth c G bs Q cells slots pc L (.ref a :: st) h := e9 ▸ kk
end
theorem x_lret {b : Nat} (C : Cx p s m #[Value.ref b] meth c G RL code 4 ret) (h1 : cells ≤ 600000) (h2 : slots ≤ 7302250) : X p l e room_1 s m #[Value.ref b] below meth c G s.heap.size (lw_Z below #[Value.ref b] s) cells slots 705 L [.int 1] h := fun H ls locs hH hS hL =>
  va_forget (fun q hq => hS.2.2 q hq) (W.widen (k := 600000) (n := 7302250) h1 h2 (lw_ret C.1 C.2.1 C.2.2.2.1 C.2.2.2.2.2.2.1 dL_law_705))
end XW
theorem Cs.ob {G : xG} {h : xh} {x dy : Nat} {a : Ab} (k : Cs G h x dy a) : ∃ fs, h.1 x = some (eO 8 fs) := by
  obtain ⟨la, s1, s2, hO, -⟩ := k
  exact ⟨_, hO⟩
theorem Ms.ob {G : xG} {h : xh} {o : Nat} {a : Ab} (k : Ms G h o a) : ∃ fs, h.1 o = some (eO 9 fs) := by
  obtain ⟨I, A, hM, -⟩ := k
  exact ⟨_, hM.1⟩
theorem lw_sub5 {a n : Nat} (ha : a ≤ 3000) (hn : n ≤ 2560) (h : ¬ (nI n - 5 < nI a)) : a + 5 ≤ n := by
  rw [Int32.lt_iff_toInt_lt] at h
  by_cases h5 : 5 ≤ n
  · have e : nI n - 5 = nI (n - 5) := by
      rw [show nI n = nI (n - 5) + 5 from by rw [show (5 : Int32) = nI 5 from rfl, nI_add]; congr 1; omega]
      simp
    rw [e, nI_toInt (by omega), nI_toInt (by omega)] at h
    omega
  · exfalso
    apply h
    rw [nI_toInt (n := a) (by omega)]
    have : (nI n - 5).toInt < 0 := by
      match n, h5 with
      | 0, _ => decide
      | 1, _ => decide
      | 2, _ => decide
      | 3, _ => decide
      | 4, _ => decide
      | k + 5, h => omega
    omega
