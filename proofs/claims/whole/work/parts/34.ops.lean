/-! WHAT EACH CALL ANSWERS, AND WHAT IT MAKES OF THE STATE -/
def fparts (a b c : Int32) : List Int32 := if a = -1 then [] else if b = -1 then [a] else if c = -1 then [a, b] else [a, b, c]
def opUnit : Ab → Int32 → Int32 × Ab
  | (u, r), v => if u.length = 100 then (-2, (u, r)) else (nI (u.length + 1), (u ++ [v &&& 65535], r))
def opMark : Ab → Int32 × Ab
  | (u, _, r) => (nI u.length, (u, u.length, r))
def opText : Ab → Int32 × Ab
  | (u, _, _, r) => (nI (sg2 u 0).length, ([], 0, sg2 u 0, r))
def rowB (u : List Int32) (km : Nat) : List Int32 := (sg2 (u.take km) 0).map (·.1)
def rowA (u : List Int32) (km : Nat) : List Int32 := (sg2 (u.drop km) (nI km)).map (·.1)
def opString : Ab → Int32 × Ab
  | (u, km, src, lat, (fo, pa, ze, ra, sr), ch) => if km = 0 then (-1, (u, km, src, lat, (fo, pa, ze, ra, sr), ch)) else if rowB u km ∈ sr.map (·.1) ∨ sr.length < 20 then (nI (aput sr (rowB u km) (rowA u km)).length, ([], 0, src, lat, (fo, pa, ze, ra, aput sr (rowB u km) (rowA u km)), ch)) else (-2, (u, km, src, lat, (fo, pa, ze, ra, sr), ch))
def opFold : Ab → Int32 → Int32 → Int32 → Int32 → Int32 × Ab
  | (u, km, src, lat, (fo, r), ch), s, a, b, c => if (0 ≤ s ∧ s ≤ 1114111) ∧ ((a = -1 ∨ 0 ≤ a ∧ a ≤ 1114111) ∧ (b = -1 ∨ 0 ≤ b ∧ b ≤ 1114111) ∧ (c = -1 ∨ 0 ≤ c ∧ c ≤ 1114111)) ∧ ¬ (a = -1 ∧ ¬ b = -1) ∧ ¬ (b = -1 ∧ ¬ c = -1) then (if s ∈ fo.map (·.1) ∨ fo.length < 40 then (nI (aput fo s (fparts a b c)).length, (u, km, src, lat, (aput fo s (fparts a b c), r), ch)) else (-2, (u, km, src, lat, (fo, r), ch))) else (-1, (u, km, src, lat, (fo, r), ch))
def opPair : Ab → Int32 → Int32 → Int32 → Int32 × Ab
  | (u, km, src, lat, (fo, pa, r), ch), a, b, s => if (0 ≤ a ∧ a ≤ 1114111) ∧ (0 ≤ b ∧ b ≤ 1114111) ∧ (0 ≤ s ∧ s ≤ 1114111) then (if (a, b) ∈ pa.map (·.1) ∨ pa.length < 20 then (nI (aput pa (a, b) s).length, (u, km, src, lat, (fo, aput pa (a, b) s, r), ch)) else (-2, (u, km, src, lat, (fo, pa, r), ch))) else (-1, (u, km, src, lat, (fo, pa, r), ch))
def opZero : Ab → Int32 → Int32 × Ab
  | (u, km, src, lat, (fo, pa, ze, r), ch), s => if 0 ≤ s ∧ s ≤ 1114102 then (if ze.length = 10 then (-2, (u, km, src, lat, (fo, pa, ze, r), ch)) else (nI (ze.length + 1), (u, km, src, lat, (fo, pa, ze ++ [s], r), ch))) else (-1, (u, km, src, lat, (fo, pa, ze, r), ch))
def opRange : Ab → Int32 → Int32 → Int32 × Ab
  | (u, km, src, lat, (fo, pa, ze, ra, r), ch), a, b => if (0 ≤ a ∧ a ≤ 1114111) ∧ (0 ≤ b ∧ b ≤ 1114111) ∧ a ≤ b then (if ra.length = 8 then (-2, (u, km, src, lat, (fo, pa, ze, ra, r), ch)) else (nI (ra.length + 1), (u, km, src, lat, (fo, pa, ze, ra ++ [(a, b)], r), ch))) else (-1, (u, km, src, lat, (fo, pa, ze, ra, r), ch))
def opFilter : Ab → Int32 → Int32 → Int32 × Ab
  | (u, km, src, lat, ts, ch), p, k => if 0 ≤ k ∧ k ≤ 6 then (if 0 ≤ p ∧ p ≤ 7 then (0, (u, km, src, lat, ts, ch.set p.toNatClampNeg (some (k, 0, 0, 0)))) else (-13, (u, km, src, lat, ts, ch))) else (-1, (u, km, src, lat, ts, ch))
def opDrop : Ab → Int32 → Int32 × Ab
  | (u, km, src, lat, ts, ch), p => if 0 ≤ p ∧ p ≤ 7 then (if ch.getD p.toNatClampNeg none = none then 0 else 1, (u, km, src, lat, ts, ch.set p.toNatClampNeg none)) else (-13, (u, km, src, lat, ts, ch))
def opRule : Ab → Int32 → Int32 → Int32 × Ab
  | (u, km, src, lat, ts, ch), p, r => if 0 ≤ r ∧ r ≤ 2 then (if 0 ≤ p ∧ p ≤ 7 then (match ch.getD p.toNatClampNeg none with
    | none => (-11, (u, km, src, lat, ts, ch))
    | some f => if f.1 = 5 then (f.2.1, (u, km, src, lat, ts, ch.set p.toNatClampNeg (some (f.1, r, f.2.2)))) else (-12, (u, km, src, lat, ts, ch))) else (-13, (u, km, src, lat, ts, ch))) else (-1, (u, km, src, lat, ts, ch))
def opRun : Ab → Int32 × Ab
  | (u, km, src, lat, ts, ch) => match runL ts ch src with
    | none => (-3, (u, km, src, lat, ts, ch))
    | some z => (nI z.1.length, (u, km, src, z.1, ts, z.2))
def opSign (a : Ab) (i : Int32) : Int32 := if 0 ≤ i ∧ i < nI a.2.2.2.1.length then (a.2.2.2.1.getD i.toNatClampNeg (0, 0, 0)).1 else -13
def opPlace (a : Ab) (i e : Int32) : Int32 := if 0 ≤ i ∧ i < nI a.2.2.2.1.length then (if e = 0 then (a.2.2.2.1.getD i.toNatClampNeg (0, 0, 0)).2.1 else (a.2.2.2.1.getD i.toNatClampNeg (0, 0, 0)).2.2) else -13
def uVal (s w : Int32) : Int32 := if s < 65536 then s else if w = 0 then (55296 : Int32) + ((s - 65536) >>> ((10 : Int32) &&& 31)) else (56320 : Int32) + ((s - 65536) &&& 1023)
def uAt : List Sg → Int32 → Int32
  | [], _ => -13
  | s :: t, i => if i < uOf s.1 then uVal s.1 i else uAt t (i - uOf s.1)
def opUnitAt (a : Ab) (i : Int32) : Int32 := if 0 ≤ i then uAt a.2.2.2.1 i else -13
def opUnits (a : Ab) : Int32 := uSum (a.2.2.2.1.map (·.1))
def opBroken (a : Ab) (i : Int32) : Int32 := if 0 ≤ i ∧ i ≤ nI a.2.2.2.1.length then (if i = 0 ∨ i = nI a.2.2.2.1.length then 1 else if clsOf (a.2.2.2.1.getD (i.toNatClampNeg - 1) (0, 0, 0)).1 ≠ clsOf (a.2.2.2.1.getD i.toNatClampNeg (0, 0, 0)).1 ∨ clsOf (a.2.2.2.1.getD (i.toNatClampNeg - 1) (0, 0, 0)).1 = 0 ∨ clsOf (a.2.2.2.1.getD (i.toNatClampNeg - 1) (0, 0, 0)).1 = 4 then 1 else 0) else -13
def opMet (a : Ab) (p : Int32) : Int32 := if 0 ≤ p ∧ p ≤ 7 then (match a.2.2.2.2.2.getD p.toNatClampNeg none with
    | none => -11
    | some f => f.2.2.1) else -13
def opGrown (a : Ab) (p : Int32) : Int32 := if 0 ≤ p ∧ p ≤ 7 then (match a.2.2.2.2.2.getD p.toNatClampNeg none with
    | none => -11
    | some f => if f.1 = 0 then f.2.2.2 else -12) else -13
def opTable (i : Int32) : Int32 := if 0 ≤ i ∧ i ≤ 127 then clsOf i else -13
def nFil (ch : List (Option Fi)) : Nat := (ch.filter (fun f => f.isSome)).length
def opCount (a : Ab) (w : Int32) : Int32 := if w = 0 then nI a.1.length else if w = 1 then nI a.2.2.1.length else if w = 2 then nI a.2.2.2.2.1.1.length else if w = 3 then nI a.2.2.2.2.1.2.1.length else if w = 4 then nI a.2.2.2.2.1.2.2.1.length else if w = 5 then nI a.2.2.2.2.1.2.2.2.1.length else if w = 6 then nI a.2.2.2.2.1.2.2.2.2.length else if w = 7 then nI (nFil a.2.2.2.2.2) else if w = 8 then nI a.2.2.2.1.length else -1
set_option maxRecDepth 100000 in
set_option maxHeartbeats 4000000 in
theorem c_emptyDraft (l : Launch) (G : xG) {h : xh} {x : Nat} {d m0 : Int32} {la s1 s2 : Nat} (hO : h.1 x = some (eO 8 (co x d m0 la s1 s2))) : Ct l G yX8_emptyDraft cX8_emptyDraft 1 (Option.none : Option Jvm.ClassFile.FieldType) { frames := 0, cells := 0, slots := 0, locals := 0 } [.ref x] h (fun v h' => v = none ∧ h'.1 x = some (eO 8 (co x (nI 0) (nI 0) la s1 s2)) ∧ Fr (At x 1) h h') := by
  refine Ct.of [some (.ref x)] (by decide +kernel) (Nat.le_of_ble_eq_true rfl) (fun p e s m args below meth c bs C hini => ?_)
  refine x_aload_n C dX8_emptyDraft_0 (kk := ?_)
  refine x_iconst C dX8_emptyDraft_1 (v := 0) (kk := ?_)
  refine x_put C fp_X8_13 dX8_emptyDraft_2 (kk := ?_)
  refine x_aload_n C dX8_emptyDraft_5 (kk := ?_)
  refine x_iconst C dX8_emptyDraft_6 (v := 0) (kk := ?_)
  refine x_put C fp_X8_17 dX8_emptyDraft_7 (kk := ?_)
  refine x_vret C rfl dX8_emptyDraft_10 (hp := ?_)
  exact ⟨rfl, x_set_eq, (Fr.rf.set ⟨by omega, by omega⟩).set ⟨by omega, by omega⟩⟩
set_option maxRecDepth 100000 in
set_option maxHeartbeats 4000000 in
theorem c_unit (l : Launch) (G : xG) {h : xh} {x dy : Nat} {u : List Int32} {km : Nat} {src lat : List Sg} {fo : List Fo} {pa : List Pr} {ze : List Int32} {ra : List Rg} {sr : List Sr} {ch : List (Option Fi)} (v : Int32) (hC : Cs G h x dy (u, km, src, lat, (fo, pa, ze, ra, sr), ch)) : Ct l G yX8_unit cX8_unit 2 (Option.some Jvm.ClassFile.FieldType.int) { frames := 0, cells := 0, slots := 0, locals := 0 } [.ref x, .int v] h (fun r h' => OpP G x dy h (opUnit (u, km, src, lat, (fo, pa, ze, ra, sr), ch) v) r h') := by
  obtain ⟨la, s1, s2, hO, hul, hmu, ⟨f, hf, hfu⟩, hFt, hPt, hZt, hRt, hSx, hCn, hSr, hsl, hpm, hLa, ⟨w1, hS1⟩, ⟨w2, hS2⟩, hxd, hdh⟩ := id hC
  dsimp only at hO hul hmu hfu hFt hPt hZt hRt hSx hCn hSr hsl hLa
  refine Ct.of [some (.ref x), some (.int v)] (by decide +kernel) (Nat.le_of_ble_eq_true rfl) (fun p e s m args below meth c bs C hini => ?_)
  refine x_aload_n C dX8_unit_0 (kk := ?_)
  refine x_get C fl_X8_13 dX8_unit_1 (kk := ?_)
  refine x_bipush C dX8_unit_4 (v := 100) (kk := ?_)
  refine x_ncmp_lt C u.length 100 dX8_unit_6 12 (fun hc6 => ?_) (fun hc6 => ?_)
  rotate_left
  · refine x_bipush C dX8_unit_9 (v := -2) (kk := ?_)
    refine x_iret C rfl dX8_unit_11 (hp := ?_)
    have e : u.length = 100 := by omega
    refine ⟨by simp [opUnit, e], by simp only [opUnit, if_pos e]; exact hC, Fc.rf⟩
  refine x_aload_n C dX8_unit_12 (kk := ?_)
  refine x_get C fl_X8_9 dX8_unit_13 (kk := ?_)
  refine x_aload_n C dX8_unit_16 (kk := ?_)
  refine x_get C fl_X8_13 dX8_unit_17 (kk := ?_)
  refine x_iload_n C dX8_unit_20 (kk := ?_)
  refine x_ldc C tw_125 dX8_unit_21 ?_
  refine x_iand C dX8_unit_23 ?_
  refine x_iast C _ dX8_unit_24 (kk := ?_)
  refine x_aload_n C dX8_unit_25 (kk := ?_)
  refine x_dup C dX8_unit_26 (kk := ?_)
  refine x_get C fl_X8_13 dX8_unit_27 (kk := ?_)
  refine x_iconst C dX8_unit_30 (v := 1) (kk := ?_)
  refine x_iadd C dX8_unit_31 ?_
  refine x_top _ (nI_1 u.length) ?_
  refine x_put C fp_X8_13 dX8_unit_32 (kk := ?_)
  refine x_aload_n C dX8_unit_35 (kk := ?_)
  refine x_get C fl_X8_13 dX8_unit_36 (kk := ?_)
  refine x_iret C rfl dX8_unit_39 (hp := ?_)
  have e : ¬ u.length = 100 := by omega
  have hfr : Fr (At x 2) h _ := (Fr.rf.set (e := eI G 100 (upd f u.length (v &&& 65535))) (a := x + 1) ⟨by omega, by omega⟩).set (e := eO 8 (co x (nI (u.length + 1)) (nI km) la s1 s2)) (a := x) ⟨by omega, by omega⟩
  refine ⟨by simp [opUnit, e], ?_, hfr.c (fun b z => by unfold At at *; omega)⟩
  simp only [opUnit, if_neg e]
  exact ⟨la, s1, s2, by rw [List.length_append]; exact x_set_eq, by simp; omega, by simp; omega, ⟨_, x_set_ne (by omega) x_set_eq, fL_app hfu rfl⟩, hFt.fr hfr (fun b z1 z2 => by unfold isR At at *; omega), hPt.fr hfr (fun b z1 z2 => by unfold isR At at *; omega), hZt.fr hfr (fun b z1 z2 => by unfold isR At at *; omega), hRt.fr hfr (fun b z1 z2 => by unfold isR At at *; omega), hSx.fr hfr (fun b z1 z2 => by unfold isR At at *; omega) (fun b z => by unfold isR At at *; omega), hCn.fr hfr (by unfold isR At at *; omega) (fun b z => by unfold isR At at *; omega), hSr.fr hfr (fun b z1 z2 => by unfold isR At at *; omega), hsl, hpm, hLa.fr hfr (fun b z1 z2 => by unfold isR At at *; omega), ⟨w1, hS1.fr hfr (fun b z1 z2 => by unfold isR At at *; omega)⟩, ⟨w2, hS2.fr hfr (fun b z1 z2 => by unfold isR At at *; omega)⟩, hxd, (Nat.le_trans hdh (Nat.le_of_eq hfr.1.symm))⟩
set_option maxRecDepth 100000 in
set_option maxHeartbeats 4000000 in
theorem c_mark (l : Launch) (G : xG) {h : xh} {x dy : Nat} {u : List Int32} {km : Nat} {src lat : List Sg} {fo : List Fo} {pa : List Pr} {ze : List Int32} {ra : List Rg} {sr : List Sr} {ch : List (Option Fi)} (hC : Cs G h x dy (u, km, src, lat, (fo, pa, ze, ra, sr), ch)) : Ct l G yX8_mark cX8_mark 1 (Option.some Jvm.ClassFile.FieldType.int) { frames := 0, cells := 0, slots := 0, locals := 0 } [.ref x] h (fun r h' => OpP G x dy h (opMark (u, km, src, lat, (fo, pa, ze, ra, sr), ch)) r h') := by
  obtain ⟨la, s1, s2, hO, hul, hmu, ⟨f, hf, hfu⟩, hFt, hPt, hZt, hRt, hSx, hCn, hSr, hsl, hpm, hLa, ⟨w1, hS1⟩, ⟨w2, hS2⟩, hxd, hdh⟩ := id hC
  dsimp only at hO hul hmu hfu hFt hPt hZt hRt hSx hCn hSr hsl hLa
  refine Ct.of [some (.ref x)] (by decide +kernel) (Nat.le_of_ble_eq_true rfl) (fun p e s m args below meth c bs C hini => ?_)
  refine x_aload_n C dX8_mark_0 (kk := ?_)
  refine x_aload_n C dX8_mark_1 (kk := ?_)
  refine x_get C fl_X8_13 dX8_mark_2 (kk := ?_)
  refine x_put C fp_X8_17 dX8_mark_5 (kk := ?_)
  refine x_aload_n C dX8_mark_8 (kk := ?_)
  refine x_get C fl_X8_17 dX8_mark_9 (kk := ?_)
  refine x_iret C rfl dX8_mark_12 (hp := ?_)
  have hfr : Fr (At x 1) h _ := (Fr.rf.set (e := eO 8 (co x (nI u.length) (nI u.length) la s1 s2)) (a := x) ⟨by omega, by omega⟩)
  exact ⟨rfl, ⟨la, s1, s2, x_set_eq, hul, Nat.le_refl _, ⟨f, hfr.at (by unfold isR At at *; omega) hf, hfu⟩, hFt.fr hfr (fun b z1 z2 => by unfold isR At at *; omega), hPt.fr hfr (fun b z1 z2 => by unfold isR At at *; omega), hZt.fr hfr (fun b z1 z2 => by unfold isR At at *; omega), hRt.fr hfr (fun b z1 z2 => by unfold isR At at *; omega), hSx.fr hfr (fun b z1 z2 => by unfold isR At at *; omega) (fun b z => by unfold isR At at *; omega), hCn.fr hfr (by unfold isR At at *; omega) (fun b z => by unfold isR At at *; omega), hSr.fr hfr (fun b z1 z2 => by unfold isR At at *; omega), hsl, hpm, hLa.fr hfr (fun b z1 z2 => by unfold isR At at *; omega), ⟨w1, hS1.fr hfr (fun b z1 z2 => by unfold isR At at *; omega)⟩, ⟨w2, hS2.fr hfr (fun b z1 z2 => by unfold isR At at *; omega)⟩, hxd, (Nat.le_trans hdh (Nat.le_of_eq hfr.1.symm))⟩, hfr.c (fun b z => by unfold At at *; omega)⟩
theorem ab3 {u : List Int32} : (u.take u.length).drop 0 = u := by simp
set_option maxRecDepth 100000 in
set_option maxHeartbeats 4000000 in
theorem c_text (l : Launch) (G : xG) {h : xh} {x dy : Nat} {u : List Int32} {km : Nat} {src lat : List Sg} {fo : List Fo} {pa : List Pr} {ze : List Int32} {ra : List Rg} {sr : List Sr} {ch : List (Option Fi)} (hC : Cs G h x dy (u, km, src, lat, (fo, pa, ze, ra, sr), ch)) : Ct l G yX8_text cX8_text 1 (Option.some Jvm.ClassFile.FieldType.int) { frames := 2, cells := 0, slots := 0, locals := 49 } [.ref x] h (fun r h' => OpP G x dy h (opText (u, km, src, lat, (fo, pa, ze, ra, sr), ch)) r h') := by
  obtain ⟨la, s1, s2, hO, hul, hmu, ⟨f, hf, hfu⟩, hFt, hPt, hZt, hRt, hSx, hCn, hSr, hsl, hpm, hLa, ⟨w1, hS1⟩, ⟨w2, hS2⟩, hxd, hdh⟩ := id hC
  dsimp only at hO hul hmu hfu hFt hPt hZt hRt hSx hCn hSr hsl hLa
  have hso := hSr.ob
  refine Ct.of [some (.ref x)] (by decide +kernel) (Nat.le_of_ble_eq_true rfl) (fun p e s m args below meth c bs C hini => ?_)
  refine x_aload_n C dX8_text_0 (kk := ?_)
  refine x_iconst C dX8_text_1 (v := 0) (kk := ?_)
  refine x_aload_n C dX8_text_2 (kk := ?_)
  refine x_get C fl_X8_13 dX8_text_3 (kk := ?_)
  refine x_aload_n C dX8_text_6 (kk := ?_)
  refine x_get C fl_X8_64 dX8_text_7 (kk := ?_)
  refine x_callV C ml_X8_readSigns lk_X8_78 (c_readSigns l G (a := 0) (b := u.length) (r := x + 19) hO hf hfu hul (Nat.zero_le _) (Nat.le_refl _) (by omega) hSr) dX8_text_10 (fun r10 h10 hp10 => ?_)
  obtain ⟨rfl, hr1, hf1⟩ := hp10
  rw [ab3, show nI 0 = 0 from rfl] at hr1
  have hO1 := hf1.at (b := x) (by unfold At; omega) hO
  have hso1 := hr1.ob
  refine x_aload_n C dX8_text_13 (kk := ?_)
  refine x_callV C ml_X8_emptyDraft lk_X8_82 (c_emptyDraft l G hO1) dX8_text_14 (fun r14 h14 hp14 => ?_)
  obtain ⟨rfl, hO2, hf2⟩ := hp14
  have hr2 := hr1.fr hf2 (fun b z1 z2 => by unfold At at *; omega)
  have hso2 := hr2.ob
  have hfr : Fr (At x 23) h h14 := (hf1.mono (fun b z => by unfold At at *; omega)).tr (hf2.mono (fun b z => by unfold At at *; omega))
  have hfr1 : Fr (fun b => At x 1 b ∨ At (x + 19) 4 b) h h14 := (hf1.mono (fun b z => Or.inr z)).tr (hf2.mono (fun b z => Or.inl z))
  refine x_aload_n C dX8_text_17 (kk := ?_)
  refine x_get C fl_X8_64 dX8_text_18 (kk := ?_)
  refine x_callV C ml_X5_size lk_X8_85 (c_row_size l G hr2) dX8_text_21 (fun r21 h21 hp21 => ?_)
  obtain ⟨rfl, rfl⟩ := hp21
  refine x_iret C rfl dX8_text_24 (hp := ?_)
  exact ⟨rfl, ⟨la, s1, s2, hO2, Nat.zero_le _, Nat.le_refl _, ⟨f, hfr1.at (fun z => by unfold At at z; omega) hf, fL_nil _⟩, hFt.fr hfr1 (fun b z1 z2 => by (try simp only [] at *); unfold isR At at *; omega), hPt.fr hfr1 (fun b z1 z2 => by (try simp only [] at *); unfold isR At at *; omega), hZt.fr hfr1 (fun b z1 z2 => by (try simp only [] at *); unfold isR At at *; omega), hRt.fr hfr1 (fun b z1 z2 => by (try simp only [] at *); unfold isR At at *; omega), hSx.fr hfr1 (fun b z1 z2 => by (try simp only [] at *); unfold isR At at *; omega) (fun b z => by (try simp only [] at *); unfold isR At at *; omega), hCn.fr hfr1 (by (try simp only [] at *); unfold isR At at *; omega) (fun b z => by (try simp only [] at *); unfold isR At at *; omega), hr2, Nat.le_trans (sg2_len _ _ _ (Nat.le_refl _)) hul, hpm, hLa.fr hfr1 (fun b z1 z2 => by (try simp only [] at *); unfold isR At at *; omega), ⟨w1, hS1.fr hfr1 (fun b z1 z2 => by (try simp only [] at *); unfold isR At at *; omega)⟩, ⟨w2, hS2.fr hfr1 (fun b z1 z2 => by (try simp only [] at *); unfold isR At at *; omega)⟩, hxd, (Nat.le_trans hdh (Nat.le_of_eq hfr1.1.symm))⟩, hfr.c (fun b z => by unfold At at *; omega)⟩
