/-! THE RUN OF THE CLASS -/
theorem PPost.pre {G : xG} {ts : TS} {K rl : Int32} {q : List Sg} {h h0 h' : xh} {ro fa : Nat} {sm sg : Int32} {v : Option Value} (k : PPost G ts K rl q h ro fa sm sg v h') (f : Fr (At ro 4) h0 h) : PPost G ts K rl q h0 ro fa sm sg v h' := ⟨(f.mono (fun b z => Or.inl z)).tr k.1, k.2⟩
set_option maxRecDepth 100000 in
set_option maxHeartbeats 4000000 in
theorem c_passThrough (l : Launch) (G : xG) {h : xh} {x fa ri ro dy k : Nat} {dsz km sm sg rl : Int32} {la s1 s2 : Nat} {q w : List Sg} (ts : TS) (hk : k ≤ 6) (hO : h.1 x = some (eO 8 (co x dsz km la s1 s2))) (hri : x + 19 ≤ ri ∧ ri + 4 ≤ x + 35) (hro : x + 19 ≤ ro ∧ ro + 4 ≤ x + 35) (hd : ri + 4 ≤ ro ∨ ro + 4 ≤ ri) (hfa : x + 35 ≤ fa) (hdy : x + 35 ≤ dy) (hin : Rw G h ri q) (hout : Rw G h ro w) (hF : Fa h fa (nI k) rl sm sg 0 0) (hFt : Ft G h (x + 2) ts.1) (hPt : Pt G h (x + 7) ts.2.1) (hZt : Zt G h (x + 11) ts.2.2.1) (hRt : Rt G h (x + 13) ts.2.2.2.1) (hSx : Sx G h (x + 16) dy ts.2.2.2.2) : Ct l G yX8_passThrough cX8_passThrough 4 (Option.some Jvm.ClassFile.FieldType.boolean) { frames := 5, cells := 0, slots := 0, locals := 117 } [.ref x, .ref fa, .ref ri, .ref ro] h (fun v h' => PPost G ts (nI k) rl q h ro fa sm sg v h') := by
  have hoo := hout.ob
  refine Ct.of [some (.ref x), some (.ref fa), some (.ref ri), some (.ref ro)] (by decide +kernel) (Nat.le_of_ble_eq_true rfl) (fun p e s m args below meth c bs C hini => ?_)
  refine x_aload_n C dX8_passThrough_0 (kk := ?_)
  refine x_callV C ml_X5_clear lk_X8_190 (c_row_clear l G hout) dX8_passThrough_1 (fun r1 h1 hp1 => ?_)
  obtain ⟨rfl, hout1, f1⟩ := hp1
  have hO1 := f1.at (by unfold At; omega) hO
  have hin1 := hin.fr f1 (fun b z1 z2 => by unfold At at *; omega)
  have hF1 := hF.fr f1 (by unfold At; omega)
  have hfo1 : h1.1 fa = some (eO 0 [.int (nI k), .int rl, .int sm, .int sg, .int 0, .int 0]) := hF1
  have t0 := hFt.fr f1 (fun b z1 z2 => by unfold At at *; omega)
  have t1 := hPt.fr f1 (fun b z1 z2 => by unfold At at *; omega)
  have t2 := hZt.fr f1 (fun b z1 z2 => by unfold At at *; omega)
  have t3 := hRt.fr f1 (fun b z1 z2 => by unfold At at *; omega)
  have t4 := hSx.fr f1 (fun b z1 z2 => by unfold At at *; omega) (fun b z => by unfold At at z; omega)
  refine x_aload_n C dX8_passThrough_4 (kk := ?_)
  refine x_get C fl_X8_124 dX8_passThrough_5 (kk := ?_)
  have hk7 : k = 0 ∨ k = 1 ∨ k = 2 ∨ k = 3 ∨ k = 4 ∨ k = 5 ∨ k = 6 := by omega
  rcases hk7 with rfl | rfl | rfl | rfl | rfl | rfl | rfl
  · refine x_tabI C 0 dX8_passThrough_8 48 (by decide) (by decide) rfl ?_
    refine x_aload_n C dX8_passThrough_48 (kk := ?_)
    refine x_aload_n C dX8_passThrough_49 (kk := ?_)
    refine x_aload_n C dX8_passThrough_50 (kk := ?_)
    refine x_aload_n C dX8_passThrough_51 (kk := ?_)
    refine x_callV C ml_X8_passFolding lk_X8_204 (c_x_folding l G ts hO1 hri hro hd hfa hin1 hout1 hF1 t0) dX8_passThrough_52 (fun r52 h52 hp52 => ?_)
    have hpost := PPost.pre hp52 f1
    have h01 : r52 = some (.int 1) ∨ r52 = some (.int 0) := hpost.2.elim (fun z => Or.inl z.1) (fun z => Or.inr z.1)
    rcases h01 with rfl | rfl
    · skip
      refine x_zret C rfl dX8_passThrough_55 (by first | exact Or.inl rfl | exact Or.inr rfl | assumption | exact ite01 _) (hp := ?_)
      exact hpost
    refine x_zret C rfl dX8_passThrough_55 (by first | exact Or.inl rfl | exact Or.inr rfl | assumption | exact ite01 _) (hp := ?_)
    exact hpost
  · refine x_tabI C 1 dX8_passThrough_8 56 (by decide) (by decide) rfl ?_
    refine x_aload_n C dX8_passThrough_56 (kk := ?_)
    refine x_aload_n C dX8_passThrough_57 (kk := ?_)
    refine x_aload_n C dX8_passThrough_58 (kk := ?_)
    refine x_aload_n C dX8_passThrough_59 (kk := ?_)
    refine x_callV C ml_X8_passComposing lk_X8_207 (c_x_composing l G ts hO1 hri hro hd hfa hin1 hout1 hF1 t1) dX8_passThrough_60 (fun r60 h60 hp60 => ?_)
    have hpost := PPost.pre hp60 f1
    have h01 : r60 = some (.int 1) ∨ r60 = some (.int 0) := hpost.2.elim (fun z => Or.inl z.1) (fun z => Or.inr z.1)
    rcases h01 with rfl | rfl
    · skip
      refine x_zret C rfl dX8_passThrough_63 (by first | exact Or.inl rfl | exact Or.inr rfl | assumption | exact ite01 _) (hp := ?_)
      exact hpost
    refine x_zret C rfl dX8_passThrough_63 (by first | exact Or.inl rfl | exact Or.inr rfl | assumption | exact ite01 _) (hp := ?_)
    exact hpost
  · refine x_tabI C 2 dX8_passThrough_8 64 (by decide) (by decide) rfl ?_
    refine x_aload_n C dX8_passThrough_64 (kk := ?_)
    refine x_aload_n C dX8_passThrough_65 (kk := ?_)
    refine x_aload_n C dX8_passThrough_66 (kk := ?_)
    refine x_aload_n C dX8_passThrough_67 (kk := ?_)
    refine x_callV C ml_X8_passDigits lk_X8_210 (c_x_digits l G ts hO1 hri hro hd hfa hin1 hout1 hF1 t2) dX8_passThrough_68 (fun r68 h68 hp68 => ?_)
    have hpost := PPost.pre hp68 f1
    have h01 : r68 = some (.int 1) ∨ r68 = some (.int 0) := hpost.2.elim (fun z => Or.inl z.1) (fun z => Or.inr z.1)
    rcases h01 with rfl | rfl
    · skip
      refine x_zret C rfl dX8_passThrough_71 (by first | exact Or.inl rfl | exact Or.inr rfl | assumption | exact ite01 _) (hp := ?_)
      exact hpost
    refine x_zret C rfl dX8_passThrough_71 (by first | exact Or.inl rfl | exact Or.inr rfl | assumption | exact ite01 _) (hp := ?_)
    exact hpost
  · refine x_tabI C 3 dX8_passThrough_8 72 (by decide) (by decide) rfl ?_
    refine x_aload_n C dX8_passThrough_72 (kk := ?_)
    refine x_aload_n C dX8_passThrough_73 (kk := ?_)
    refine x_aload_n C dX8_passThrough_74 (kk := ?_)
    refine x_aload_n C dX8_passThrough_75 (kk := ?_)
    refine x_callV C ml_X8_passDropping lk_X8_213 (c_x_dropping l G ts hO1 hri hro hd hfa hin1 hout1 hF1 t3) dX8_passThrough_76 (fun r76 h76 hp76 => ?_)
    have hpost := PPost.pre hp76 f1
    have h01 : r76 = some (.int 1) ∨ r76 = some (.int 0) := hpost.2.elim (fun z => Or.inl z.1) (fun z => Or.inr z.1)
    rcases h01 with rfl | rfl
    · skip
      refine x_zret C rfl dX8_passThrough_79 (by first | exact Or.inl rfl | exact Or.inr rfl | assumption | exact ite01 _) (hp := ?_)
      exact hpost
    refine x_zret C rfl dX8_passThrough_79 (by first | exact Or.inl rfl | exact Or.inr rfl | assumption | exact ite01 _) (hp := ?_)
    exact hpost
  · refine x_tabI C 4 dX8_passThrough_8 80 (by decide) (by decide) rfl ?_
    refine x_aload_n C dX8_passThrough_80 (kk := ?_)
    refine x_aload_n C dX8_passThrough_81 (kk := ?_)
    refine x_aload_n C dX8_passThrough_82 (kk := ?_)
    refine x_aload_n C dX8_passThrough_83 (kk := ?_)
    refine x_callV C ml_X8_passReplacing lk_X8_216 (c_x_replacing l G ts hO1 hri hro hd hfa hdy hin1 hout1 hF1 t4) dX8_passThrough_84 (fun r84 h84 hp84 => ?_)
    have hpost := PPost.pre hp84 f1
    have h01 : r84 = some (.int 1) ∨ r84 = some (.int 0) := hpost.2.elim (fun z => Or.inl z.1) (fun z => Or.inr z.1)
    rcases h01 with rfl | rfl
    · skip
      refine x_zret C rfl dX8_passThrough_87 (by first | exact Or.inl rfl | exact Or.inr rfl | assumption | exact ite01 _) (hp := ?_)
      exact hpost
    refine x_zret C rfl dX8_passThrough_87 (by first | exact Or.inl rfl | exact Or.inr rfl | assumption | exact ite01 _) (hp := ?_)
    exact hpost
  · refine x_tabI C 5 dX8_passThrough_8 88 (by decide) (by decide) rfl ?_
    refine x_aload_n C dX8_passThrough_88 (kk := ?_)
    refine x_aload_n C dX8_passThrough_89 (kk := ?_)
    refine x_aload_n C dX8_passThrough_90 (kk := ?_)
    refine x_aload_n C dX8_passThrough_91 (kk := ?_)
    refine x_callV C ml_X8_passHalves lk_X8_219 (c_x_halves l G ts hO1 hri hro hd hfa hin1 hout1 hF1 ) dX8_passThrough_92 (fun r92 h92 hp92 => ?_)
    have hpost := PPost.pre hp92 f1
    have h01 : r92 = some (.int 1) ∨ r92 = some (.int 0) := hpost.2.elim (fun z => Or.inl z.1) (fun z => Or.inr z.1)
    rcases h01 with rfl | rfl
    · skip
      refine x_zret C rfl dX8_passThrough_95 (by first | exact Or.inl rfl | exact Or.inr rfl | assumption | exact ite01 _) (hp := ?_)
      exact hpost
    refine x_zret C rfl dX8_passThrough_95 (by first | exact Or.inl rfl | exact Or.inr rfl | assumption | exact ite01 _) (hp := ?_)
    exact hpost
  · refine x_tabO C dX8_passThrough_8 96 (Or.inr (by decide)) ?_
    refine x_aload_n C dX8_passThrough_96 (kk := ?_)
    refine x_aload_n C dX8_passThrough_97 (kk := ?_)
    refine x_aload_n C dX8_passThrough_98 (kk := ?_)
    refine x_aload_n C dX8_passThrough_99 (kk := ?_)
    refine x_callV C ml_X8_passWidths lk_X8_222 (c_x_widths l G ts hO1 hri hro hd hfa hin1 hout1 hF1 ) dX8_passThrough_100 (fun r100 h100 hp100 => ?_)
    have hpost := PPost.pre hp100 f1
    have h01 : r100 = some (.int 1) ∨ r100 = some (.int 0) := hpost.2.elim (fun z => Or.inl z.1) (fun z => Or.inr z.1)
    rcases h01 with rfl | rfl
    · skip
      refine x_zret C rfl dX8_passThrough_103 (by first | exact Or.inl rfl | exact Or.inr rfl | assumption | exact ite01 _) (hp := ?_)
      exact hpost
    refine x_zret C rfl dX8_passThrough_103 (by first | exact Or.inl rfl | exact Or.inr rfl | assumption | exact ite01 _) (hp := ?_)
    exact hpost
/-- the chain, with what its filters hold of the run at hand -/
def CnR (G : xG) (h : xh) (c dy : Nat) (ch rn : List (Option Fi)) : Prop := ch.length = 8 ∧ ∃ f : Nat → Option Nat, h.1 c = some (eR G 1 8 f) ∧ (∀ p : Nat, ch[p]? = some none → f p = none ∧ ∀ y, rn[p]? = some y → y = none) ∧ (∀ (p : Nat) (fi : Fi), ch[p]? = some (some fi) → (∃ k : Nat, k ≤ 6 ∧ fi.1 = nI k) ∧ ∃ a, f p = some a ∧ dy ≤ a ∧ a < h.2 ∧ ∃ rm rg, Fa h a fi.1 fi.2.1 fi.2.2.1 fi.2.2.2 rm rg ∧ ∀ y, rn[p]? = some y → y = some (fi.1, fi.2.1, rm, rg)) ∧ ∀ (p p' : Nat) (fi fi' : Fi), ch[p]? = some (some fi) → ch[p']? = some (some fi') → f p = f p' → p = p'
theorem Cn.r {G : xG} {h : xh} {c dy : Nat} {ch : List (Option Fi)} (k : Cn G h c dy ch) : CnR G h c dy ch [] := by
  obtain ⟨h0, f, h1, h2, h3, h4⟩ := k
  refine ⟨h0, f, h1, fun p hp => ⟨h2 p hp, fun y hy => by simp at hy⟩, fun p fi hp => ?_, h4⟩
  obtain ⟨hk, a, a1, a2, a3, rm, rg, a4⟩ := h3 p fi hp
  exact ⟨hk, a, a1, a2, a3, rm, rg, a4, fun y hy => by simp at hy⟩
theorem CnR.c {G : xG} {h : xh} {c dy : Nat} {ch rn : List (Option Fi)} (k : CnR G h c dy ch rn) : Cn G h c dy ch := by
  obtain ⟨h0, f, h1, h2, h3, h4⟩ := k
  refine ⟨h0, f, h1, fun p hp => (h2 p hp).1, fun p fi hp => ?_, h4⟩
  obtain ⟨hk, a, a1, a2, a3, rm, rg, a4, -⟩ := h3 p fi hp
  exact ⟨hk, a, a1, a2, a3, rm, rg, a4⟩
theorem CnR.fr {G : xG} {h h' : xh} {c dy : Nat} {ch rn : List (Option Fi)} {A : Nat → Prop} (k : CnR G h c dy ch rn) (f : Fr A h h') (hd : ¬ A c) (h2 : ∀ b, A b → b < dy) : CnR G h' c dy ch rn := by
  obtain ⟨h0, g, h1, h3, h4, h5⟩ := k
  refine ⟨h0, g, f.at hd h1, h3, fun p fi hp => ?_, h5⟩
  obtain ⟨hk, a, a1, a2, a3, rm, rg, a4, a5⟩ := h4 p fi hp
  exact ⟨hk, a, a1, a2, by rw [f.1]; exact a3, rm, rg, a4.fr f (fun z => by have := h2 a z; omega), a5⟩
/-- one filter more has run -/
theorem CnR.step {G : xG} {h h' : xh} {c dy : Nat} {ch rn : List (Option Fi)} {A : Nat → Prop} {fi : Fi} {a : Nat} {g : Nat → Option Nat} {met gr : Int32} (h0 : ch.length = 8) (h1 : h.1 c = some (eR G 1 8 g)) (h3 : ∀ p : Nat, ch[p]? = some none → g p = none ∧ ∀ y, rn[p]? = some y → y = none) (h4 : ∀ (p : Nat) (fi : Fi), ch[p]? = some (some fi) → (∃ k : Nat, k ≤ 6 ∧ fi.1 = nI k) ∧ ∃ a, g p = some a ∧ dy ≤ a ∧ a < h.2 ∧ ∃ rm rg, Fa h a fi.1 fi.2.1 fi.2.2.1 fi.2.2.2 rm rg ∧ ∀ y, rn[p]? = some y → y = some (fi.1, fi.2.1, rm, rg)) (h5 : ∀ (p p' : Nat) (fi fi' : Fi), ch[p]? = some (some fi) → ch[p']? = some (some fi') → g p = g p' → p = p')
    (f : Fr A h h') (hd : ¬ A c) (h2 : ∀ b, A b → b < dy ∨ b = a) (hp : ch[rn.length]? = some (some fi)) (ha : g rn.length = some a) (hF : Fa h' a fi.1 fi.2.1 fi.2.2.1 fi.2.2.2 met gr) : CnR G h' c dy ch (rn ++ [some (fi.1, fi.2.1, met, gr)]) := by
  refine ⟨h0, g, f.at hd h1, fun p hn => ⟨(h3 p hn).1, fun y hy => ?_⟩, fun p fj hj => ?_, h5⟩
  · by_cases hpl : p < rn.length
    · rw [List.getElem?_append_left hpl] at hy
      exact (h3 p hn).2 y hy
    · have : p ≠ rn.length := by intro z; subst z; rw [hp] at hn; cases hn
      rw [List.getElem?_append_right (by omega)] at hy
      have hz : p - rn.length < 1 := by simpa using (List.getElem?_eq_some_iff.mp hy).1
      omega
  · obtain ⟨hk, b, b1, b2, b3, rm, rg, b4, b5⟩ := h4 p fj hj
    by_cases hpl : p = rn.length
    · subst hpl
      rw [hp] at hj
      cases hj
      rw [ha] at b1
      cases b1
      exact ⟨hk, a, ha, b2, by rw [f.1]; exact b3, met, gr, hF, fun y hy => by simp at hy; exact hy.symm⟩
    · have hne : b ≠ a := fun z => hpl (h5 p rn.length fj fi hj hp (by rw [b1, ha, z]))
      refine ⟨hk, b, b1, b2, by rw [f.1]; exact b3, rm, rg, b4.fr f (fun z => by have := h2 b z; omega), fun y hy => ?_⟩
      by_cases hlt : p < rn.length
      · rw [List.getElem?_append_left hlt] at hy
        exact b5 y hy
      · rw [List.getElem?_append_right (by omega)] at hy
        have hz : p - rn.length < 1 := by simpa using (List.getElem?_eq_some_iff.mp hy).1
        omega
theorem CnR.skip {G : xG} {h : xh} {c dy : Nat} {ch rn : List (Option Fi)} (k : CnR G h c dy ch rn) (hp : ch[rn.length]? = some none) : CnR G h c dy ch (rn ++ [none]) := by
  obtain ⟨h0, g, h1, h3, h4, h5⟩ := k
  refine ⟨h0, g, h1, fun p hn => ⟨(h3 p hn).1, fun y hy => ?_⟩, fun p fj hj => ?_, h5⟩
  · by_cases hpl : p < rn.length
    · rw [List.getElem?_append_left hpl] at hy
      exact (h3 p hn).2 y hy
    · rw [List.getElem?_append_right (by omega)] at hy
      have hz : p - rn.length < 1 := by simpa using (List.getElem?_eq_some_iff.mp hy).1
      have : p - rn.length = 0 := by omega
      rw [this] at hy
      simp at hy
      exact hy.symm
  · obtain ⟨hk, b, b1, b2, b3, rm, rg, b4, b5⟩ := h4 p fj hj
    refine ⟨hk, b, b1, b2, b3, rm, rg, b4, fun y hy => ?_⟩
    by_cases hlt : p < rn.length
    · rw [List.getElem?_append_left hlt] at hy
      exact b5 y hy
    · have : p ≠ rn.length := by intro z; subst z; rw [hp] at hj; cases hj
      rw [List.getElem?_append_right (by omega)] at hy
      have hz : p - rn.length < 1 := by simpa using (List.getElem?_eq_some_iff.mp hy).1
      omega
