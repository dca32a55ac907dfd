/-! THE PURE PICTURE: signs with spans, tables, filters -/
abbrev Sg : Type := Int32 × Int32 × Int32
abbrev Fo : Type := Int32 × List Int32
abbrev Pr : Type := (Int32 × Int32) × Int32
abbrev Rg : Type := Int32 × Int32
abbrev Sr : Type := List Int32 × List Int32
abbrev TS : Type := List Fo × List Pr × List Int32 × List Rg × List Sr
abbrev Ac : Type := (List Sg × Int32 × Int32) × Nat
def isSg (v : Int32) : Prop := 0 ≤ v ∧ v ≤ 1114111
def uOf (v : Int32) : Int32 := if 65536 ≤ v then 2 else 1
def uSum (l : List Int32) : Int32 := l.foldl (fun a v => a + uOf v) 0
def isHi (v : Int32) : Prop := 55296 ≤ v ∧ v < 56320
def isLo (v : Int32) : Prop := 56320 ≤ v ∧ v ≤ 57343
def isSgB (v : Int32) : Bool := decide (0 ≤ v) && decide (v ≤ 1114111)
def isHiB (v : Int32) : Bool := decide (55296 ≤ v) && decide (v < 56320)
def isLoB (v : Int32) : Bool := decide (56320 ≤ v) && decide (v ≤ 57343)
/-- the place of a key among keys, as an answer: -1, or a place that has it -/
def slotR {α : Type} (ks : List α) (x : α) (r : Int32) : Prop := (r = -1 ∧ x ∉ ks) ∨ ∃ k : Nat, r = nI k ∧ ks[k]? = some x
def aget {κ ν : Type} [BEq κ] (q : List (κ × ν)) (x : κ) : Option ν := (q.find? (fun e => e.1 == x)).map (·.2)
/-- a second one of a key takes the place of the first -/
def aput {κ ν : Type} [BEq κ] (q : List (κ × ν)) (x : κ) (v : ν) : List (κ × ν) := if (q.any (fun e => e.1 == x)) then q.map (fun e => if e.1 == x then (x, v) else e) else q ++ [(x, v)]
def zdig (zs : List Int32) (x : Int32) : Int32 := match zs.find? (fun z => decide (z ≤ x) && decide (x ≤ z + 9)) with
  | some z => x - z
  | none => -9
def rhas (rs : List Rg) (x : Int32) : Bool := rs.any (fun r => decide (r.1 ≤ x) && decide (x ≤ r.2))
/-- a row stands at a place of another one -/
def stands (b : List Int32) (q : List Int32) (i : Nat) : Bool := b.isPrefixOf (q.drop i)
def longest (ss : List Sr) (q : List Int32) (i : Nat) : Option Sr := ss.foldl (fun best s => if stands s.1 q i && (match best with | none => true | some z => decide (z.1.length < s.1.length)) then some s else best) none
def stFold (fo : List Fo) (a : List Sg × Int32 × Int32) (x : Sg) : List Sg × Int32 × Int32 := match aget fo x.1 with
  | none => (a.1 ++ [x], a.2)
  | some ps => (a.1 ++ ps.map (fun v => (v, x.2)), a.2.1 + 1, a.2.2 + (uSum ps - uOf x.1))
def stComp (pa : List Pr) (a : List Sg × Int32 × Int32) (x : Sg) : List Sg × Int32 × Int32 := match a.1.getLast? with
  | none => (a.1 ++ [x], a.2)
  | some y => match aget pa (y.1, x.1) with
    | none => (a.1 ++ [x], a.2)
    | some z => (a.1.dropLast ++ [(z, y.2.1, x.2.2)], a.2.1 + 1, a.2.2)
def stDig (zs : List Int32) (a : List Sg × Int32 × Int32) (x : Sg) : List Sg × Int32 × Int32 := if zdig zs x.1 = -9 then (a.1 ++ [x], a.2) else (a.1 ++ [(48 + zdig zs x.1, x.2)], a.2.1 + 1, a.2.2)
def stDrop (rs : List Rg) (a : List Sg × Int32 × Int32) (x : Sg) : List Sg × Int32 × Int32 := if rhas rs x.1 then (a.1, a.2.1 + 1, a.2.2) else (a.1 ++ [x], a.2)
def stHalf (rule : Int32) (a : List Sg × Int32 × Int32) (x : Sg) : List Sg × Int32 × Int32 := if 55296 ≤ x.1 ∧ x.1 ≤ 57343 then (if rule = 2 then (a.1, a.2.1 + 1, a.2.2) else (a.1 ++ [(if rule = 1 then 65533 else x.1, x.2)], a.2.1 + 1, a.2.2)) else (a.1 ++ [x], a.2)
def stWide (a : List Sg × Int32 × Int32) (x : Sg) : List Sg × Int32 × Int32 := if 65281 ≤ x.1 ∧ x.1 ≤ 65374 then (a.1 ++ [(x.1 - 65248, x.2)], a.2.1 + 1, a.2.2) else if x.1 = 12288 then (a.1 ++ [(32, x.2)], a.2.1 + 1, a.2.2) else (a.1 ++ [x], a.2)
/-- one sign of the row q, at place i, through a filter: what came out so far, how many were met, how far it grew; the place from which on signs are read -/
def stp (ts : TS) (kind rule : Int32) (q : List Sg) (i : Nat) (a : Ac) (x : Sg) : Ac :=
  if kind = 0 then (stFold ts.1 a.1 x, a.2) else if kind = 1 then (stComp ts.2.1 a.1 x, a.2) else if kind = 2 then (stDig ts.2.2.1 a.1 x, a.2) else if kind = 3 then (stDrop ts.2.2.2.1 a.1 x, a.2)
  else if kind = 4 then (if i < a.2 then a else match longest ts.2.2.2.2 (q.map (·.1)) i with
    | none => ((a.1.1 ++ [x], a.1.2), a.2)
    | some s => ((a.1.1 ++ s.2.map (fun v => (v, x.2.1, ((q[i + s.1.length - 1]?).map (·.2.2)).getD 0)), a.1.2.1 + 1, a.1.2.2), i + s.1.length))
  else if kind = 5 then (stHalf rule a.1 x, a.2) else (stWide a.1 x, a.2)
def pasN (ts : TS) (kind rule : Int32) (q : List Sg) : Nat → Ac
  | 0 => (([], 0, 0), 0)
  | i + 1 => match q[i]? with
    | some x => stp ts kind rule q i (pasN ts kind rule q i) x
    | none => pasN ts kind rule q i
def pas (ts : TS) (kind rule : Int32) (q : List Sg) : List Sg × Int32 × Int32 := (pasN ts kind rule q q.length).1
theorem pasN_at {ts : TS} {kind rule : Int32} {q : List Sg} {i : Nat} {x : Sg} (h : q[i]? = some x) : pasN ts kind rule q (i + 1) = stp ts kind rule q i (pasN ts kind rule q i) x := by simp [pasN, h]
/-- a filter: kind, rule, met, grown -/
abbrev Fi : Type := Int32 × Int32 × Int32 × Int32
/-- the text through the filters, from the first one on: what comes out, and the filters behind it; none: too long -/
def runL (ts : TS) : List (Option Fi) → List Sg → Option (List Sg × List (Option Fi))
  | [], q => some (q, [])
  | none :: t, q => (runL ts t q).map (fun z => (z.1, none :: z.2))
  | some f :: t, q => if 300 < (pas ts f.1 f.2.1 q).1.length then none else (runL ts t (pas ts f.1 f.2.1 q).1).map (fun z => (z.1, some (f.1, f.2.1, (pas ts f.1 f.2.1 q).2.1, (pas ts f.1 f.2.1 q).2.2) :: z.2))
/-- the signs of a row of units -/
def two (hi lo : Int32) : Int32 := 65536 + 1024 * (hi - 55296) + lo - 56320
def sgN : Nat → List Int32 → Int32 → List Sg
  | 0, _, _ => []
  | _ + 1, [], _ => []
  | n + 1, [u], k => (u, k, k + 1) :: sgN n [] (k + 1)
  | n + 1, u :: w :: t, k => if isHiB u && isLoB w then (two u w, k, k + 2) :: sgN n t (k + 2) else (u, k, k + 1) :: sgN n (w :: t) (k + 1)
def sgs (u : List Int32) (k : Int32) : List Sg := sgN u.length u k
def clsOf (v : Int32) : Int32 := if 127 < v then 1 else if 65 ≤ v ∧ v ≤ 90 ∨ 97 ≤ v ∧ v ≤ 122 then 1 else if 48 ≤ v ∧ v ≤ 57 then 2 else if v = 9 ∨ v = 10 ∨ v = 13 ∨ v = 32 then 3 else if 33 ≤ v ∧ v ≤ 126 then 4 else 0
/-- nothing is taken back -/
theorem stp_le (ts : TS) (kind rule : Int32) (q : List Sg) (i : Nat) (a : Ac) (x : Sg) : a.1.1.length ≤ (stp ts kind rule q i a x).1.1.length := by
  unfold stp
  split
  · unfold stFold; split <;> simp
  split
  · unfold stComp
    split
    · simp
    · rename_i y hy
      split
      · simp
      · cases hl : a.1.1 with
        | nil => simp [hl] at hy
        | cons u t => simp
  split
  · unfold stDig; split <;> simp
  split
  · unfold stDrop; split <;> simp
  split
  · split
    · exact Nat.le_refl _
    · split <;> simp
  split
  · unfold stHalf
    split
    · split <;> simp
    · simp
  · unfold stWide
    split
    · simp
    · split <;> simp
theorem pasN_le {ts : TS} {kind rule : Int32} {q : List Sg} {i j : Nat} (h : i ≤ j) : (pasN ts kind rule q i).1.1.length ≤ (pasN ts kind rule q j).1.1.length := by
  induction h with
  | refl => exact Nat.le_refl _
  | @step k _ ih =>
    refine Nat.le_trans ih ?_
    cases hq : q[k]? with
    | some x => rw [pasN_at hq]; exact stp_le ..
    | none => simp [pasN, hq]
/-- a wider list's values by a function -/
def fL {α : Type} (f : Nat → α) (q : List α) : Prop := ∀ (j : Nat) (v : α), q[j]? = some v → f j = v
def upA {α : Type} (f : Nat → α) (k : Nat) (x : α) : Nat → α := fun j => if j = k then x else f j
theorem fL_nil {α : Type} (f : Nat → α) : fL f [] := fun j v h => by simp at h
theorem fL_app {f : Nat → Int32} {q : List Int32} {n : Nat} {v : Int32} (h : fL f q) (hn : q.length = n) : fL (upd f n v) (q ++ [v]) := by
  intro j w hw
  subst hn
  by_cases hj : j < q.length
  · rw [List.getElem?_append_left hj] at hw
    have : j ≠ q.length := by omega
    simp [upd, this, h j w hw]
  · rw [List.getElem?_append_right (by omega)] at hw
    have hz : j - q.length < 1 := by simpa using (List.getElem?_eq_some_iff.mp hw).1
    have e : j = q.length := by omega
    subst e
    simp at hw
    simp [upd, hw]
theorem fL_set {f : Nat → Int32} {q : List Int32} {k : Nat} {v : Int32} (h : fL f q) : fL (upd f k v) (q.set k v) := by
  intro j w hw
  by_cases hj : j = k
  · subst hj
    have hl : j < (q.set j v).length := (List.getElem?_eq_some_iff.mp hw).1
    rw [List.getElem?_set_self (by simpa using hl)] at hw
    cases hw
    simp [upd]
  · rw [List.getElem?_set_ne (Ne.symm hj)] at hw
    simp [upd, hj, h j w hw]
theorem fL_at {α : Type} {f : Nat → Int32} {q : List α} {j : Nat} {x : α} {π : α → Int32} (h : fL f (q.map π)) (hj : q[j]? = some x) : f j = π x := h j _ (by simp [hj])
theorem fL_drop {f : Nat → Int32} {q : List Int32} {n : Nat} (h : fL f q) (hn : q.length ≤ n) (v : Int32) : fL (upd f n v) q := by
  intro j w hw
  have hl : j < q.length := (List.getElem?_eq_some_iff.mp hw).1
  have : j ≠ n := by omega
  simp [upd, this, h j w hw]
/-- the world changed in A alone, and made nothing -/
def Fr (A : Nat → Prop) (h h' : xh) : Prop := h'.2 = h.2 ∧ ∀ b, ¬ A b → h'.1 b = h.1 b
theorem Fr.rf {A : Nat → Prop} {h : xh} : Fr A h h := ⟨rfl, fun _ _ => rfl⟩
theorem Fr.tr {A : Nat → Prop} {h h1 h2 : xh} (a : Fr A h h1) (b : Fr A h1 h2) : Fr A h h2 := ⟨b.1.trans a.1, fun q hq => (b.2 q hq).trans (a.2 q hq)⟩
theorem Fr.mono {A B : Nat → Prop} {h h' : xh} (a : Fr A h h') (hs : ∀ q, A q → B q) : Fr B h h' := ⟨a.1, fun q hq => a.2 q (fun z => hq (hs q z))⟩
theorem Fr.set {A : Nat → Prop} {h h' : xh} {a : Nat} {e : va_E} (k : Fr A h h') (ha : A a) : Fr A h (x_set h' a e) := ⟨k.1, fun q hq => (x_set_ne (fun z => hq (by rw [z]; exact ha)) rfl).trans (k.2 q hq)⟩
theorem Fr.at {A : Nat → Prop} {h h' : xh} {b : Nat} {r : Option va_E} (k : Fr A h h') (hb : ¬ A b) (hr : h.1 b = r) : h'.1 b = r := (k.2 b hb).trans hr
/-- the addresses lo .. lo + n - 1 -/
def At (lo n : Nat) : Nat → Prop := fun q => lo ≤ q ∧ q < lo + n
section XR2
variable {p : Program} {l : Launch} {e : Env} {R : Room} {s : State} {m : MethodId} {args : Array Value} {below : List Frame} {meth : Method} {c : Code} {G : xG} {bs : Nat} {Q : State → Prop} {cells slots pc : Nat} {L : List (Option Value)} {st : List Value} {h : xh}
/-- a local forgotten -/
theorem x_fg (k : Nat) (kk : X p l e R s m args below meth c G bs Q cells slots pc (L.set k none) st h) : X p l e R s m args below meth c G bs Q cells slots pc L st h := by
  intro H ls locs hH hS hL
  refine kk H ls locs hH hS (hL.sub (fun i v hv => ?_))
  by_cases hi : i = k
  · subst hi
    have hl : i < (L.set i none).length := (List.getElem?_eq_some_iff.mp hv).1
    rw [List.getElem?_set_self (by simpa using hl)] at hv
    cases hv
  · rw [List.getElem?_set_ne (Ne.symm hi)] at hv
    exact hv
end XR2

theorem drop_at {α : Type} {q : List α} {i : Nat} {v : α} (h : q[i]? = some v) : q.drop i = v :: q.drop (i + 1) := by
  obtain ⟨hl, e⟩ := List.getElem?_eq_some_iff.mp h
  rw [List.drop_eq_getElem_cons hl, e]
theorem take_at {α : Type} {q : List α} {i : Nat} {v : α} (h : q[i]? = some v) : q.take (i + 1) = q.take i ++ [v] := by rw [List.take_add_one, h]; rfl
theorem zdig_nil (x : Int32) : zdig [] x = -9 := rfl
theorem zdig_cons (z : Int32) (t : List Int32) (x : Int32) : zdig (z :: t) x = if z ≤ x ∧ x ≤ z + 9 then x - z else zdig t x := by
  unfold zdig
  rw [List.find?_cons]
  by_cases h : z ≤ x ∧ x ≤ z + 9
  · simp [h]
  · rw [if_neg h]
    have : (decide (z ≤ x) && decide (x ≤ z + 9)) = false := by simpa using fun a b => h ⟨a, b⟩
    rw [this]
theorem rhas_cons (z : Rg) (t : List Rg) (x : Int32) : rhas (z :: t) x = if z.1 ≤ x ∧ x ≤ z.2 then true else rhas t x := by
  unfold rhas
  rw [List.any_cons]
  by_cases h : z.1 ≤ x ∧ x ≤ z.2
  · simp [h]
  · rw [if_neg h]
    have : (decide (z.1 ≤ x) && decide (x ≤ z.2)) = false := by simpa using fun a b => h ⟨a, b⟩
    rw [this, Bool.false_or]
theorem aput_new {κ ν : Type} [BEq κ] [LawfulBEq κ] {q : List (κ × ν)} {x : κ} {v : ν} (h : x ∉ q.map (·.1)) : aput q x v = q ++ [(x, v)] := by
  unfold aput
  rw [if_neg]
  intro z
  obtain ⟨e, he, hx⟩ := List.any_eq_true.mp z
  exact h (List.mem_map.mpr ⟨e, he, eq_of_beq hx⟩)
theorem aput_old {κ ν : Type} [BEq κ] [LawfulBEq κ] {q : List (κ × ν)} {x : κ} {v : ν} {k : Nat} (hn : (q.map (·.1)).Nodup) (h : (q.map (·.1))[k]? = some x) : aput q x v = q.set k (x, v) := by
  have hk : k < q.length := by simpa using (List.getElem?_eq_some_iff.mp h).1
  have hx : (q.map (·.1))[k]'(by simpa using hk) = x := (List.getElem?_eq_some_iff.mp h).2
  unfold aput
  rw [if_pos]
  · apply List.ext_getElem?
    intro j
    rw [List.getElem?_map]
    by_cases hj : j < q.length
    · rw [List.getElem?_eq_getElem hj]
      by_cases hjk : j = k
      · subst hjk
        rw [List.getElem?_set_self hk]
        have : q[j].1 = x := by simpa using hx
        simp [this]
      · rw [List.getElem?_set_ne (Ne.symm hjk), List.getElem?_eq_getElem hj]
        have hne : q[j].1 ≠ x := by
          intro z
          have h1 : (q.map (·.1))[j]? = (q.map (·.1))[k]? := by rw [h, List.getElem?_map, List.getElem?_eq_getElem hj]; simp [z]
          exact hjk ((List.getElem?_inj (by simpa using hj) hn).mp h1)
        simp [hne]
    · rw [List.getElem?_eq_none (by omega), List.getElem?_eq_none (by simpa using Nat.not_lt.mp hj)]
      rfl
  · refine List.any_eq_true.mpr ⟨q[k], List.getElem_mem hk, ?_⟩
    have : q[k].1 = x := by simpa using hx
    simp [this]
theorem aput_keys {κ ν : Type} [BEq κ] [LawfulBEq κ] {q : List (κ × ν)} {x : κ} {v : ν} (hn : (q.map (·.1)).Nodup) : ((aput q x v).map (·.1)).Nodup := by
  by_cases h : x ∈ q.map (·.1)
  · obtain ⟨k, hk⟩ := List.getElem?_of_mem h
    rw [aput_old hn hk, List.map_set]
    have : (q.map (·.1)).set k x = q.map (·.1) := by
      apply List.ext_getElem?
      intro j
      by_cases hj : j = k
      · subst hj
        rw [List.getElem?_set_self (List.getElem?_eq_some_iff.mp hk).1, hk]
      · rw [List.getElem?_set_ne (Ne.symm hj)]
    rw [this]
    exact hn
  · rw [aput_new h, List.map_append, List.nodup_append]
    refine ⟨hn, by simp, ?_⟩
    intro a ha b hb
    simp at hb
    subst hb
    intro z
    subst z
    exact h ha
theorem aget_at {κ ν : Type} [BEq κ] [LawfulBEq κ] {q : List (κ × ν)} {x : κ} {e : κ × ν} {k : Nat} (hn : (q.map (·.1)).Nodup) (h : q[k]? = some e) (hx : e.1 = x) : aget q x = some e.2 := by
  induction q generalizing k with
  | nil => simp at h
  | cons a t ih =>
    unfold aget
    rw [List.find?_cons]
    by_cases ha : a.1 = x
    · have hb : (a.1 == x) = true := by simp [ha]
      rw [hb]
      cases k with
      | zero => simp at h; rw [h]; rfl
      | succ k =>
        exfalso
        rw [List.map_cons, List.nodup_cons] at hn
        apply hn.1
        rw [ha, ← hx]
        exact List.mem_map.mpr ⟨e, List.mem_of_getElem? (by simpa using h), rfl⟩
    · have hb : (a.1 == x) = false := by simpa using ha
      rw [hb]
      cases k with
      | zero => simp at h; rw [h] at ha; exact absurd hx ha
      | succ k =>
        rw [List.map_cons, List.nodup_cons] at hn
        exact ih hn.2 (k := k) (by simpa using h)
theorem aget_no {κ ν : Type} [BEq κ] [LawfulBEq κ] {q : List (κ × ν)} {x : κ} (h : x ∉ q.map (·.1)) : aget q x = none := by
  unfold aget
  rw [List.find?_eq_none.mpr]
  · rfl
  · intro e he hx
    exact h (List.mem_map.mpr ⟨e, he, eq_of_beq hx⟩)
theorem ite01 (P : Prop) [Decidable P] : (if P then (1 : Int32) else 0) = 0 ∨ (if P then (1 : Int32) else 0) = 1 := by
  by_cases h : P
  · exact Or.inr (if_pos h)
  · exact Or.inl (if_neg h)
section XR3
variable {p : Program} {l : Launch} {e : Env} {R : Room} {s : State} {m : MethodId} {args : Array Value} {below : List Frame} {meth : Method} {c : Code} {G : xG} {bs : Nat} {Q : State → Prop} {cells slots pc : Nat} {L : List (Option Value)} {st : List Value} {h : xh}
variable {own : String} {cc : ByteArray} {nL : Nat} {ret : Option FieldType}
theorem x_ifB_eq (C : Cx p s m args meth c G own cc nL ret) {P : Prop} [Decidable P] {off : Int} (hd : decode cc pc = .ok (.ifCond .eq off, 3)) (tgt : Nat) (kt : ¬ P → X p l e R s m args below meth c G bs Q cells slots tgt L st h) (kf : P → X p l e R s m args below meth c G bs Q cells slots (pc + 3) L st h) (ht : (pc : Int) + off = (tgt : Int) := by decide) : X p l e R s m args below meth c G bs Q cells slots pc L (.int (if P then 1 else 0) :: st) h := by
  by_cases hp : P
  · rw [if_pos hp]
    exact x_if_eq C hd tgt (fun q => absurd q (by decide)) (fun _ => kf hp) ht
  · rw [if_neg hp]
    exact x_if_eq C hd tgt (fun _ => kt hp) (fun q => absurd rfl q) ht
theorem x_ifB_ne (C : Cx p s m args meth c G own cc nL ret) {P : Prop} [Decidable P] {off : Int} (hd : decode cc pc = .ok (.ifCond .ne off, 3)) (tgt : Nat) (kt : P → X p l e R s m args below meth c G bs Q cells slots tgt L st h) (kf : ¬ P → X p l e R s m args below meth c G bs Q cells slots (pc + 3) L st h) (ht : (pc : Int) + off = (tgt : Int) := by decide) : X p l e R s m args below meth c G bs Q cells slots pc L (.int (if P then 1 else 0) :: st) h := by
  by_cases hp : P
  · rw [if_pos hp]
    exact x_if_ne C hd tgt (fun _ => kt hp) (fun q => absurd q (by decide)) ht
  · rw [if_neg hp]
    exact x_if_ne C hd tgt (fun q => absurd rfl q) (fun _ => kf hp) ht
end XR3
theorem m1_toInt : (-1 : Int32).toInt = -1 := by decide
