/-! THE RUN OF THE CLASS, II -/
def AG (dy : Nat) : Nat → Prop := fun b => dy ≤ b
theorem CnR.settle {G : xG} {h h' : xh} {c dy p a : Nat} {L rn : List (Option Fi)} {fi : Fi} {g : Nat → Option Nat} {rm rg : Int32} (h0 : L.length = 8) (h1 : h.1 c = some (eR G 1 8 g)) (h3 : ∀ p : Nat, L[p]? = some none → g p = none ∧ ∀ y, rn[p]? = some y → y = none) (h4 : ∀ (p : Nat) (fi : Fi), L[p]? = some (some fi) → (∃ k : Nat, k ≤ 6 ∧ fi.1 = nI k) ∧ ∃ a, g p = some a ∧ dy ≤ a ∧ a < h.2 ∧ ∃ rm rg, Fa h a fi.1 fi.2.1 fi.2.2.1 fi.2.2.2 rm rg ∧ ∀ y, rn[p]? = some y → y = some (fi.1, fi.2.1, rm, rg)) (h5 : ∀ (p p' : Nat) (fi fi' : Fi), L[p]? = some (some fi) → L[p']? = some (some fi') → g p = g p' → p = p')
    (hp : L[p]? = some (some fi)) (ha : g p = some a) (hca : c < dy) (hda : dy ≤ a) (f : Fr (At a 1) h h') (hF : Fa h' a fi.1 fi.2.1 rm rg rm rg) (hy : ∀ y, rn[p]? = some y → y = some (fi.1, fi.2.1, rm, rg)) : CnR G h' c dy (L.set p (some (fi.1, fi.2.1, rm, rg))) rn := by
  have hpl : p < L.length := (List.getElem?_eq_some_iff.mp hp).1
  have key : ∀ (p' : Nat) (fj : Fi), (L.set p (some (fi.1, fi.2.1, rm, rg)))[p']? = some (some fj) → ∃ fk, L[p']? = some (some fk) := by
    intro p' fj hj
    by_cases hpp : p' = p
    · subst hpp; exact ⟨fi, hp⟩
    · rw [List.getElem?_set_ne (Ne.symm hpp)] at hj; exact ⟨fj, hj⟩
  refine ⟨by simpa using h0, g, f.at (by unfold At; omega) h1, fun p' hn => ?_, fun p' fj hj => ?_, fun p' p'' fj fk hj hk hg => ?_⟩
  · by_cases hpp : p' = p
    · subst hpp
      rw [List.getElem?_set_self hpl] at hn
      cases hn
    · rw [List.getElem?_set_ne (Ne.symm hpp)] at hn
      exact h3 p' hn
  · by_cases hpp : p' = p
    · subst hpp
      rw [List.getElem?_set_self hpl] at hj
      cases hj
      obtain ⟨hk, b, b1, b2, b3, -⟩ := h4 p' fi hp
      rw [ha] at b1
      cases b1
      exact ⟨hk, a, ha, b2, by rw [f.1]; exact b3, rm, rg, hF, hy⟩
    · rw [List.getElem?_set_ne (Ne.symm hpp)] at hj
      obtain ⟨hk, b, b1, b2, b3, rm', rg', b4, b5⟩ := h4 p' fj hj
      have hne : b ≠ a := fun z => hpp (h5 p' p fj fi hj hp (by rw [b1, ha, z]))
      exact ⟨hk, b, b1, b2, by rw [f.1]; exact b3, rm', rg', b4.fr f (by unfold At; omega), b5⟩
  · obtain ⟨f1, e1⟩ := key p' fj hj
    obtain ⟨f2, e2⟩ := key p'' fk hk
    exact h5 p' p'' f1 f2 e1 e2 hg
theorem mix_at {α : Type} {r c : List α} {p : Nat} (hr : p ≤ r.length) : (r.take p ++ c.drop p)[p]? = c[p]? := by
  rw [List.getElem?_append_right (by simp; omega)]
  simp
  rw [show p - min p r.length = 0 by omega]
  simp
theorem mix_set {α : Type} {r c : List α} {p : Nat} {y : α} (hr : r[p]? = some y) (hc : p < c.length) : (r.take p ++ c.drop p).set p y = r.take (p + 1) ++ c.drop (p + 1) := by
  have hrl : p < r.length := (List.getElem?_eq_some_iff.mp hr).1
  rw [List.set_append_right _ _ (by simp; omega), take_at hr, List.append_assoc]
  congr 1
  have : p - (List.take p r).length = 0 := by simp; omega
  rw [this, List.drop_eq_getElem_cons hc]
  rfl
set_option maxRecDepth 100000 in
set_option maxHeartbeats 4000000 in
theorem c_settle (l : Launch) (G : xG) {h : xh} {x dy : Nat} {d m0 : Int32} {la s1 s2 : Nat} {ch rn : List (Option Fi)} (hO : h.1 x = some (eO 8 (co x d m0 la s1 s2))) (hxd : x + 35 ≤ dy) (hrl : rn.length = 8) (hcl : ch.length = 8) (hN : CnR G h (x + 18) dy ch rn) : Ct l G yX8_settleFilters cX8_settleFilters 3 (Option.none : Option Jvm.ClassFile.FieldType) { frames := 1, cells := 0, slots := 0, locals := 20 } [.ref x] h (fun v h' => v = none ∧ CnR G h' (x + 18) dy rn rn ∧ Fr (AG dy) h h' ∧ ∀ q w, dy ≤ q → Rp G h q w → Rp G h' q w) := by
  refine Ct.of [some (.ref x), none, none] (by decide +kernel) (Nat.le_of_ble_eq_true rfl) (fun p e s m args below meth c bs C hini => ?_)
  have loop : ∀ (n pq : Nat) (h1 : xh), 8 - pq < n → pq ≤ 8 → CnR G h1 (x + 18) dy (rn.take pq ++ ch.drop pq) rn → Fr (AG dy) h h1 → (∀ q w, dy ≤ q → Rp G h q w → Rp G h1 q w) → X p l e { frames := 1, cells := 0, slots := 0, locals := 20 } s m args below meth c G bs (MQ below (x_Q G bs (fun v h' => v = none ∧ CnR G h' (x + 18) dy rn rn ∧ Fr (AG dy) h h' ∧ ∀ q w, dy ≤ q → Rp G h q w → Rp G h' q w)) args s 0 0 (fun q => bs ≤ q)) 0 0 2 [some (.ref x), some (.int (nI pq)), none] [] h1 := by
    intro n
    induction n with
    | zero => intro pq h1 hn; omega
    | succ n ih =>
      intro pq h1 hn hp hN1 hf hrp
      have hO1 := hf.at (b := x) (by unfold AG; omega) hO
      obtain ⟨g0, g, g1, g3, g4, g5⟩ := hN1
      refine x_iload_n C dX8_settleFilters_2 (kk := ?_)
      refine x_bipush C dX8_settleFilters_3 (v := 8) (kk := ?_)
      refine x_ncmp_ge C pq 8 dX8_settleFilters_5 29 (fun hc5 => ?_) (fun hc5 => ?_)
      · refine x_vret C rfl dX8_settleFilters_29 (hp := ?_)
        have e8 : pq = 8 := by omega
        subst e8
        rw [List.take_of_length_le (by omega), List.drop_eq_nil_of_le (by omega), List.append_nil] at g0 g3 g4 g5
        exact ⟨rfl, ⟨g0, g, g1, g3, g4, g5⟩, hf, hrp⟩
      obtain ⟨y, hy⟩ : ∃ y, rn[pq]? = some y := ⟨rn[pq]'(by omega), List.getElem?_eq_getElem (by omega)⟩
      obtain ⟨o, ho⟩ : ∃ o, ch[pq]? = some o := ⟨ch[pq]'(by omega), List.getElem?_eq_getElem (by omega)⟩
      have hm : (rn.take pq ++ ch.drop pq)[pq]? = some o := (mix_at (by omega)).trans ho
      have hms := mix_set hy (show pq < ch.length by omega)
      refine x_aload_n C dX8_settleFilters_8 (kk := ?_)
      refine x_get C fl_X8_57 dX8_settleFilters_9 (kk := ?_)
      refine x_iload_n C dX8_settleFilters_12 (kk := ?_)
      refine x_aald C _ dX8_settleFilters_13 (t := 1) (cn := RX0) (kk := ?_)
      rcases o with _ | fi
      · obtain ⟨e1, e2⟩ := g3 pq hm
        have e3 : y = none := e2 y hy
        rw [e1]
        show X p l e { frames := 1, cells := 0, slots := 0, locals := 20 } s m args below meth c G bs (MQ below (x_Q G bs (fun v h' => v = none ∧ CnR G h' (x + 18) dy rn rn ∧ Fr (AG dy) h h' ∧ ∀ q w, dy ≤ q → Rp G h q w → Rp G h' q w)) args s 0 0 (fun q => bs ≤ q)) 0 0 14 _ [.null] _
        have hN2 : CnR G h1 (x + 18) dy (rn.take (pq + 1) ++ ch.drop (pq + 1)) rn := by
          rw [← hms, e3]
          have hid : (rn.take pq ++ ch.drop pq).set pq none = rn.take pq ++ ch.drop pq := by
            apply List.ext_getElem?
            intro j
            by_cases hj : j = pq
            · subst hj; rw [List.getElem?_set_self (by omega), hm]
            · rw [List.getElem?_set_ne (Ne.symm hj)]
          rw [hid]
          exact ⟨g0, g, g1, g3, g4, g5⟩
        refine x_astore_nN C dX8_settleFilters_14 (kk := ?_)
        refine x_aload_nN C dX8_settleFilters_15 (kk := ?_)
        refine x_ifnullN C dX8_settleFilters_16 23 ?_
        refine x_iinc1 C dX8_settleFilters_23 (kk := ?_)
        refine x_goto C dX8_settleFilters_26 2 ?_
        refine x_fg 2 ?_
        first | exact ih (pq + 1) _ (by omega) (by omega) hN2 (hf.tr (hfr2.mono (fun b z => by unfold At at z; unfold AG; omega))) (fun q w hq hw => (hrp q w hq hw).same (fun b hb => hfr2.2 b (fun z => (hrp q w hq hw).ne a4 b hb (by unfold At at z; omega)))) | exact ih (pq + 1) _ (by omega) (by omega) hN2 hf hrp
      obtain ⟨hk, a, a1, a2, a3, rm, rg, a4, a5⟩ := g4 pq fi hm
      have e3 := a5 y hy
      rw [a1]
      show X p l e { frames := 1, cells := 0, slots := 0, locals := 20 } s m args below meth c G bs (MQ below (x_Q G bs (fun v h' => v = none ∧ CnR G h' (x + 18) dy rn rn ∧ Fr (AG dy) h h' ∧ ∀ q w, dy ≤ q → Rp G h q w → Rp G h' q w)) args s 0 0 (fun q => bs ≤ q)) 0 0 14 _ [.ref a] _
      have hfa : h1.1 a = some (eO 0 [.int fi.1, .int fi.2.1, .int fi.2.2.1, .int fi.2.2.2, .int rm, .int rg]) := a4
      refine x_astore_n C dX8_settleFilters_14 (kk := ?_)
      refine x_aload_n C dX8_settleFilters_15 (kk := ?_)
      refine x_ifnull C dX8_settleFilters_16 ?_
      refine x_aload_n C dX8_settleFilters_19 (kk := ?_)
      refine x_callV C ml_X0_settleRun lk_X8_201 (c_f_settle l G a4) dX8_settleFilters_20 (fun r20 h20 hp20 => ?_)
      obtain ⟨rfl, hF2, hfr2⟩ := hp20
      have hN2 : CnR G h20 (x + 18) dy (rn.take (pq + 1) ++ ch.drop (pq + 1)) rn := by
        rw [← hms, e3]
        exact CnR.settle g0 g1 g3 g4 g5 hm a1 (by omega) a2 hfr2 hF2 a5
      refine x_iinc1 C dX8_settleFilters_23 (kk := ?_)
      refine x_goto C dX8_settleFilters_26 2 ?_
      refine x_fg 2 ?_
      first | exact ih (pq + 1) _ (by omega) (by omega) hN2 (hf.tr (hfr2.mono (fun b z => by unfold At at z; unfold AG; omega))) (fun q w hq hw => (hrp q w hq hw).same (fun b hb => hfr2.2 b (fun z => (hrp q w hq hw).ne a4 b hb (by unfold At at z; omega)))) | exact ih (pq + 1) _ (by omega) (by omega) hN2 hf hrp
  refine x_iconst C dX8_settleFilters_0 (v := 0) (kk := ?_)
  refine x_istore_n C dX8_settleFilters_1 (kk := ?_)
  exact loop 9 0 h (by omega) (by omega) (by simpa using hN) Fr.rf (fun q w _ hw => hw)
def RA (s1 s2 dy : Nat) : Nat → Prop := fun b => At s1 4 b ∨ At s2 4 b ∨ dy ≤ b
def RB2 (x s1 s2 dy : Nat) : Nat → Prop := fun b => At x 1 b ∨ RA s1 s2 dy b
theorem x_hpG {p : Program} {l : Launch} {e : Env} {R : Room} {s : State} {m : MethodId} {args : Array Value} {below : List Frame} {meth : Method} {c : Code} {G : xG} {bs : Nat} {Q : State → Prop} {cells slots pc : Nat} {L : List (Option Value)} {st : List Value} {h : xh} (kk : ∀ h', h' = h → X p l e R s m args below meth c G bs Q cells slots pc L st h') : X p l e R s m args below meth c G bs Q cells slots pc L st h := kk h rfl
theorem runL_cons_none {ts : TS} {t : List (Option Fi)} {q : List Sg} : runL ts (none :: t) q = (runL ts t q).map (fun z => (z.1, none :: z.2)) := rfl
theorem runL_cons {ts : TS} {f : Fi} {t : List (Option Fi)} {q : List Sg} : runL ts (some f :: t) q = if 300 < (pas ts f.1 f.2.1 q).1.length then none else (runL ts t (pas ts f.1 f.2.1 q).1).map (fun z => (z.1, some (f.1, f.2.1, (pas ts f.1 f.2.1 q).2.1, (pas ts f.1 f.2.1 q).2.2) :: z.2)) := rfl
set_option maxRecDepth 100000 in
set_option maxHeartbeats 4000000 in
theorem c_run (l : Launch) (G : xG) {h : xh} {x dy : Nat} {u : List Int32} {km : Nat} {src lat : List Sg} {fo : List Fo} {pa : List Pr} {ze : List Int32} {ra : List Rg} {sr : List Sr} {ch : List (Option Fi)} (hC : Cs G h x dy (u, km, src, lat, (fo, pa, ze, ra, sr), ch)) : Ct l G yX8_run cX8_run 6 (Option.some Jvm.ClassFile.FieldType.int) { frames := 6, cells := 0, slots := 0, locals := 140 } [.ref x] h (fun r h' => OpP G x dy h (opRun (u, km, src, lat, (fo, pa, ze, ra, sr), ch)) r h') := by
  obtain ⟨la, s1, s2, hO, hul, hmu, ⟨f, hf, hfu⟩, hFt, hPt, hZt, hRt, hSx, hCn, hSr, hsl, hpm, hLa, ⟨w1, hS1⟩, ⟨w2, hS2⟩, hxd, hdh⟩ := id hC
  dsimp only at hO hul hmu hfu hFt hPt hZt hRt hSx hCn hSr hsl hLa
  have hso := hSr.ob
  have hs1 := hS1.ob
  have hpr : isR x la ∧ isR x s1 ∧ isR x s2 ∧ la ≠ s1 ∧ la ≠ s2 ∧ s1 ≠ s2 := hpm
  refine Ct.of [some (.ref x), none, none, none, none, none] (by decide +kernel) (Nat.le_of_ble_eq_true rfl) (fun p e s m args below meth c bs C hini => ?_)
  have loop : ∀ (n pq ri ro : Nat) (h1 : xh) (qp w : List Sg) (rn : List (Option Fi)), 8 - pq < n → pq ≤ 8 → (ri = s1 ∧ ro = s2 ∨ ri = s2 ∧ ro = s1) → Rw G h1 ri qp → Rw G h1 ro w → CnR G h1 (x + 18) dy ch rn → rn.length = pq → runL (fo, pa, ze, ra, sr) ch src = (runL (fo, pa, ze, ra, sr) (ch.drop pq) qp).map (fun z => (z.1, rn ++ z.2)) → Fr (RA s1 s2 dy) h h1 → Sx G h1 (x + 16) dy sr → X p l e { frames := 6, cells := 0, slots := 0, locals := 140 } s m args below meth c G bs (MQ below (x_Q G bs (fun r h' => OpP G x dy h (opRun (u, km, src, lat, (fo, pa, ze, ra, sr), ch)) r h')) args s 0 0 (fun q => bs ≤ q)) 0 0 20 [some (.ref x), some (.ref ri), some (.ref ro), some (.int (nI pq)), none, none] [] h1 := by
    intro n
    induction n with
    | zero => intro pq ri ro h1 qp w rn hn; omega
    | succ n ih =>
      intro pq ri ro h1 qp w rn hn hp hrr hri hro hN hrl hsp hfr hSx1
      have hO1 := hfr.at (b := x) (by unfold isR RA At at *; omega) hO
      have hf1 := hfr.at (b := x + 1) (by unfold isR RA At at *; omega) hf
      have ft1 := hFt.fr hfr (fun b z1 z2 => by unfold isR RA At at *; omega)
      have pt1 := hPt.fr hfr (fun b z1 z2 => by unfold isR RA At at *; omega)
      have zt1 := hZt.fr hfr (fun b z1 z2 => by unfold isR RA At at *; omega)
      have rt1 := hRt.fr hfr (fun b z1 z2 => by unfold isR RA At at *; omega)
      have sr1 := hSr.fr hfr (fun b z1 z2 => by unfold isR RA At at *; omega)
      have la1 := hLa.fr hfr (fun b z1 z2 => by unfold isR RA At at *; omega)
      have hnr := hN
      obtain ⟨g0, g, g1, g3, g4, g5⟩ := hN
      refine x_iload_n C dX8_run_20 (kk := ?_)
      refine x_bipush C dX8_run_21 (v := 8) (kk := ?_)
      refine x_ncmp_ge C pq 8 dX8_run_23 72 (fun hc23 => ?_) (fun hc23 => ?_)
      · have e8 : pq = 8 := by omega
        subst e8
        rw [List.drop_eq_nil_of_le (by omega)] at hsp
        have hsp2 : runL (fo, pa, ze, ra, sr) ch src = some (qp, rn) := by rw [hsp]; simp [runL]
        refine x_aload_n C dX8_run_72 (kk := ?_)
        refine x_aload_n C dX8_run_73 (kk := ?_)
        refine x_get C fl_X8_68 dX8_run_74 (kk := ?_)
        refine x_put C fp_X8_71 dX8_run_77 (kk := ?_)
        refine x_aload_n C dX8_run_80 (kk := ?_)
        refine x_aload_n C dX8_run_81 (kk := ?_)
        refine x_put C fp_X8_74 dX8_run_82 (kk := ?_)
        refine x_aload_n C dX8_run_85 (kk := ?_)
        refine x_aload_n C dX8_run_86 (kk := ?_)
        refine x_put C fp_X8_68 dX8_run_87 (kk := ?_)
        refine x_hpG (fun h3 e3 => ?_)
        have hO3 : h3.1 x = some (eO 8 (co x (nI u.length) (nI km) ri la ro)) := by rw [e3]; exact x_set_eq
        have f3 : Fr (At x 1) h1 h3 := by rw [e3]; exact ((Fr.rf.set ⟨by omega, by omega⟩).set ⟨by omega, by omega⟩).set ⟨by omega, by omega⟩
        refine x_aload_n C dX8_run_90 (kk := ?_)
        refine x_callV C ml_X8_settleFilters lk_X8_141 (c_settle l G hO3 hxd hrl g0 (hnr.fr f3 (by unfold At; omega) (fun b z => by unfold At at z; omega))) dX8_run_91 (fun r91 h91 hp91 => ?_)
        obtain ⟨rfl, hN5, hfr5, hrp5⟩ := hp91
        have hO5 := hfr5.at (b := x) (by unfold AG; omega) hO3
        have ri5 := (hri.fr f3 (fun b z1 z2 => by unfold isR At at *; omega)).fr hfr5 (fun b z1 z2 => by unfold isR At AG at *; omega)
        have ro5 := (hro.fr f3 (fun b z1 z2 => by unfold isR At at *; omega)).fr hfr5 (fun b z1 z2 => by unfold isR At AG at *; omega)
        have la5 := (la1.fr f3 (fun b z1 z2 => by unfold isR At at *; omega)).fr hfr5 (fun b z1 z2 => by unfold isR At AG at *; omega)
        have rio5 := ri5.ob
        have sx5 : Sx G h91 (x + 16) dy sr := (hSx1.fr f3 (fun b z1 z2 => by unfold At at *; omega) (fun b z => by unfold At at z; omega)).same (Nat.le_of_eq hfr5.1.symm) (fun b hb => hfr5.2 b (by unfold At AG at *; omega)) (fun q z1 z2 w hw => hrp5 q w z1 hw)
        have fend : Fr (RB2 x s1 s2 dy) h h91 := ((hfr.mono (fun b z => Or.inr z)).tr (f3.mono (fun b z => Or.inl z))).tr (hfr5.mono (fun b z => Or.inr (Or.inr (Or.inr z))))
        refine x_aload_n C dX8_run_94 (kk := ?_)
        refine x_get C fl_X8_68 dX8_run_95 (kk := ?_)
        refine x_callV C ml_X5_size lk_X8_85 (c_row_size l G ri5) dX8_run_98 (fun r98 h98 hp98 => ?_)
        obtain ⟨rfl, rfl⟩ := hp98
        refine x_iret C rfl dX8_run_101 (hp := ?_)
        exact ⟨by simp only [opRun, hsp2], by simp only [opRun, hsp2]; exact ⟨ri, la, ro, hO5, hul, hmu, ⟨f, fend.at (by unfold isR RB2 RA At at *; omega) hf, hfu⟩, hFt.fr fend (fun b z1 z2 => by unfold isR RB2 RA At at *; omega), hPt.fr fend (fun b z1 z2 => by unfold isR RB2 RA At at *; omega), hZt.fr fend (fun b z1 z2 => by unfold isR RB2 RA At at *; omega), hRt.fr fend (fun b z1 z2 => by unfold isR RB2 RA At at *; omega), sx5, hN5.c, hSr.fr fend (fun b z1 z2 => by unfold isR RB2 RA At at *; omega), hsl, (by unfold isR at *; omega), ri5, ⟨_, la5⟩, ⟨_, ro5⟩, hxd, (Nat.le_trans hdh (Nat.le_of_eq fend.1.symm))⟩, fend.c (fun b z => by unfold isR RB2 RA At at *; omega)⟩
      obtain ⟨o, ho⟩ : ∃ o, ch[pq]? = some o := ⟨ch[pq]'(by omega), List.getElem?_eq_getElem (by omega)⟩
      rw [drop_at ho] at hsp
      refine x_aload_n C dX8_run_26 (kk := ?_)
      refine x_get C fl_X8_57 dX8_run_27 (kk := ?_)
      refine x_iload_n C dX8_run_30 (kk := ?_)
      refine x_aald C _ dX8_run_31 (t := 1) (cn := RX0) (kk := ?_)
      rcases o with _ | fi
      · obtain ⟨e1, e2⟩ := g3 pq ho
        rw [e1]
        show X p l e { frames := 6, cells := 0, slots := 0, locals := 140 } s m args below meth c G bs (MQ below (x_Q G bs (fun r h' => OpP G x dy h (opRun (u, km, src, lat, (fo, pa, ze, ra, sr), ch)) r h')) args s 0 0 (fun q => bs ≤ q)) 0 0 32 _ [.null] _
        have hN2 := hnr.skip (by rw [hrl]; exact ho)
        have hsp2 : runL (fo, pa, ze, ra, sr) ch src = (runL (fo, pa, ze, ra, sr) (ch.drop (pq + 1)) qp).map (fun z => (z.1, (rn ++ [none]) ++ z.2)) := by
          rw [hsp, runL_cons_none, Option.map_map]
          congr 1
          funext z
          simp
        refine x_astoreN C dX8_run_32 (kk := ?_)
        refine x_aloadN C dX8_run_34 (kk := ?_)
        refine x_ifnullN C dX8_run_36 66 ?_
        refine x_iinc1 C dX8_run_66 (kk := ?_)
        refine x_goto C dX8_run_69 20 ?_
        refine x_fg 4 ?_
        exact ih (pq + 1) ri ro _ qp w (rn ++ [none]) (by omega) (by omega) hrr hri hro hN2 (by simp [hrl]) hsp2 hfr hSx1
      obtain ⟨⟨k, hk6, hke⟩, a, a1, a2, a3, rm, rg, a4, a5⟩ := g4 pq fi ho
      obtain ⟨kd, rl, sm, sg⟩ := fi
      dsimp only at hke a4 a5
      subst hke
      rw [a1]
      show X p l e { frames := 6, cells := 0, slots := 0, locals := 140 } s m args below meth c G bs (MQ below (x_Q G bs (fun r h' => OpP G x dy h (opRun (u, km, src, lat, (fo, pa, ze, ra, sr), ch)) r h')) args s 0 0 (fun q => bs ≤ q)) 0 0 32 _ [.ref a] _
      have hfa : h1.1 a = some (eO 0 [.int (nI k), .int rl, .int sm, .int sg, .int rm, .int rg]) := a4
      refine x_astore C dX8_run_32 (kk := ?_)
      refine x_aload C dX8_run_34 (kk := ?_)
      refine x_ifnull C dX8_run_36 ?_
      refine x_aload C dX8_run_39 (kk := ?_)
      refine x_callV C ml_X0_beginRun lk_X8_134 (c_f_begin l G a4) dX8_run_41 (fun r41 h41 hp41 => ?_)
      obtain ⟨rfl, hF2, hfr2⟩ := hp41
      have hnf : ∀ b, At a 1 b → dy ≤ b := fun b z => by unfold At at z; omega
      have hO2 := hfr2.at (b := x) (by unfold At; omega) hO1
      have ri2 := hri.fr hfr2 (fun b z1 z2 => by unfold isR At at *; omega)
      have ro2 := hro.fr hfr2 (fun b z1 z2 => by unfold isR At at *; omega)
      have sx2 : Sx G h41 (x + 16) dy sr := hSx1.pa a4 hxd (ro := s1) (by unfold isR at hpr; omega) (by omega) (hfr2.mono (fun b z => Or.inr (by unfold At at z; omega)))
      have ft2 := ft1.fr hfr2 (fun b z1 z2 => by unfold At at *; omega)
      have pt2 := pt1.fr hfr2 (fun b z1 z2 => by unfold At at *; omega)
      have zt2 := zt1.fr hfr2 (fun b z1 z2 => by unfold At at *; omega)
      have rt2 := rt1.fr hfr2 (fun b z1 z2 => by unfold At at *; omega)
      refine x_aload_n C dX8_run_44 (kk := ?_)
      refine x_aload C dX8_run_45 (kk := ?_)
      refine x_aload_n C dX8_run_47 (kk := ?_)
      refine x_aload_n C dX8_run_48 (kk := ?_)
      refine x_callV C ml_X8_passThrough lk_X8_137 (c_passThrough l G (ri := ri) (ro := ro) (dy := dy) (fo, pa, ze, ra, sr) hk6 hO2 (by unfold isR at hpr; omega) (by unfold isR at hpr; omega) (by unfold isR at hpr; omega) (by omega) hxd ri2 ro2 hF2 ft2 pt2 zt2 rt2 sx2) dX8_run_49 (fun r49 h49 hp49 => ?_)
      obtain ⟨hfr3, hpp⟩ := hp49
      have f13 : Fr (PA ro a) h1 h49 := (hfr2.mono (fun b z => Or.inr (by unfold At at z; omega))).tr hfr3
      have fall : Fr (RA s1 s2 dy) h h49 := hfr.tr (f13.mono (fun b z => by unfold isR RA PA At at *; omega))
      have sx3 : Sx G h49 (x + 16) dy sr := sx2.pa hF2 hxd (ro := ro) (by unfold isR at hpr; omega) (by omega) hfr3
      have hnPc : ¬ PA ro a (x + 18) := by unfold isR PA At at *; omega
      have hAb : ∀ b, PA ro a b → b < dy ∨ b = a := fun b z => by unfold isR PA At at *; omega
      rcases hpp with ⟨rfl, hlen, hr3, hF3⟩ | ⟨rfl, hlen, ⟨w3, hr3⟩, rm3, rg3, hF3⟩
      rotate_left
      · have hN3 := CnR.step g0 g1 g3 g4 g5 f13 hnPc hAb (by rw [hrl]; exact ho) (by rw [hrl]; exact a1) hF3
        rw [runL_cons, if_pos hlen] at hsp
        have hsn : runL (fo, pa, ze, ra, sr) ch src = none := hsp
        have ri3 := ri2.fr hfr3 (fun b z1 z2 => by unfold isR PA At at *; omega)
        refine x_if_ne C dX8_run_52 58 (fun z => absurd rfl z) (fun _ => ?_)
        refine x_bipush C dX8_run_55 (v := -3) (kk := ?_)
        refine x_iret C rfl dX8_run_57 (hp := ?_)
        have hS12 : (∃ w, Rw G h49 s1 w) ∧ ∃ w, Rw G h49 s2 w := by
          rcases hrr with ⟨rfl, rfl⟩ | ⟨rfl, rfl⟩
          · exact ⟨⟨_, ri3⟩, ⟨_, hr3⟩⟩
          · exact ⟨⟨_, hr3⟩, ⟨_, ri3⟩⟩
        exact ⟨by simp only [opRun, hsn], by simp only [opRun, hsn]; exact ⟨la, s1, s2, fall.at (by unfold isR RA At at *; omega) hO, hul, hmu, ⟨f, fall.at (by unfold isR RA At at *; omega) hf, hfu⟩, hFt.fr fall (fun b z1 z2 => by unfold isR RA At at *; omega), hPt.fr fall (fun b z1 z2 => by unfold isR RA At at *; omega), hZt.fr fall (fun b z1 z2 => by unfold isR RA At at *; omega), hRt.fr fall (fun b z1 z2 => by unfold isR RA At at *; omega), sx3, hN3.c, hSr.fr fall (fun b z1 z2 => by unfold isR RA At at *; omega), hsl, hpm, hLa.fr fall (fun b z1 z2 => by unfold isR RA At at *; omega), hS12.1, hS12.2, hxd, (Nat.le_trans hdh (Nat.le_of_eq fall.1.symm))⟩, fall.c (fun b z => by unfold isR RA At at *; omega)⟩
      have hN3 := CnR.step g0 g1 g3 g4 g5 f13 hnPc hAb (by rw [hrl]; exact ho) (by rw [hrl]; exact a1) hF3
      rw [runL_cons, if_neg (Nat.not_lt.mpr hlen)] at hsp
      have ri3 := ri2.fr hfr3 (fun b z1 z2 => by unfold isR PA At at *; omega)
      refine x_if_ne C dX8_run_52 58 (fun _ => ?_) (fun z => absurd z (by decide))
      refine x_aload_n C dX8_run_58 (kk := ?_)
      refine x_astore C dX8_run_59 (kk := ?_)
      refine x_aload_n C dX8_run_61 (kk := ?_)
      refine x_astore_n C dX8_run_62 (kk := ?_)
      refine x_aload C dX8_run_63 (kk := ?_)
      refine x_astore_n C dX8_run_65 (kk := ?_)
      refine x_iinc1 C dX8_run_66 (kk := ?_)
      refine x_goto C dX8_run_69 20 ?_
      refine x_fg 5 ?_
      refine x_fg 4 ?_
      exact ih (pq + 1) ro ri _ _ _ _ (by omega) (by omega) (by omega) hr3 ri3 hN3 (by simp [hrl]) (by rw [hsp, Option.map_map]; congr 1; funext z; simp) fall sx3
  refine x_aload_n C dX8_run_0 (kk := ?_)
  refine x_get C fl_X8_71 dX8_run_1 (kk := ?_)
  refine x_astore_n C dX8_run_4 (kk := ?_)
  refine x_aload_n C dX8_run_5 (kk := ?_)
  refine x_get C fl_X8_74 dX8_run_6 (kk := ?_)
  refine x_astore_n C dX8_run_9 (kk := ?_)
  refine x_aload_n C dX8_run_10 (kk := ?_)
  refine x_aload_n C dX8_run_11 (kk := ?_)
  refine x_get C fl_X8_64 dX8_run_12 (kk := ?_)
  refine x_callV C ml_X5_copyFrom lk_X8_130 (c_row_copyFrom l G (by unfold isR at hpr; omega) hS1 hSr) dX8_run_15 (fun r15 h15 hp15 => ?_)
  obtain ⟨rfl, hr1, hfr1⟩ := hp15
  refine x_iconst C dX8_run_18 (v := 0) (kk := ?_)
  refine x_istore_n C dX8_run_19 (kk := ?_)
  exact loop 9 0 s1 s2 _ src w2 [] (by omega) (by omega) (Or.inl ⟨rfl, rfl⟩) hr1 (hS2.fr hfr1 (fun b z1 z2 => by unfold isR At at *; omega)) (hCn.r.fr hfr1 (by unfold isR At at *; omega) (fun b z => by unfold isR At at *; omega)) rfl (by simp) (hfr1.mono (fun b z => Or.inl z)) (hSx.fr hfr1 (fun b z1 z2 => by unfold isR At at *; omega) (fun b z => by unfold isR At at *; omega))
