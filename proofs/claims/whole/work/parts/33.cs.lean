/-! THE STATE OF THE CLASS, AND WHAT EACH CALL DOES -/
def sg2 : List Int32 → Int32 → List Sg
  | [], _ => []
  | [u], k => [(u, k, k + 1)]
  | u :: w :: t, k => if (55296 ≤ u ∧ u ≤ 56319) ∧ 56320 ≤ w ∧ w ≤ 57343 then (two u w, k, k + 2) :: sg2 t (k + 2) else (u, k, k + 1) :: sg2 (w :: t) (k + 1)
theorem sg2_len : ∀ (n : Nat) (l : List Int32) (k : Int32), l.length ≤ n → (sg2 l k).length ≤ l.length := by
  intro n
  induction n with
  | zero => intro l k h; cases l with
    | nil => simp [sg2]
    | cons a t => simp at h
  | succ n ih =>
    intro l k h
    match l with
    | [] => simp [sg2]
    | [u] => simp [sg2]
    | u :: w :: t =>
      unfold sg2
      simp at h
      split
      · have := ih t (k + 2) (by omega)
        simp
        omega
      · have := ih (w :: t) (k + 1) (by simp; omega)
        simp at this ⊢
        omega
theorem sg2_pos {u : Int32} {t : List Int32} {k : Int32} : 1 ≤ (sg2 (u :: t) k).length := by
  cases t with
  | nil => simp [sg2]
  | cons w t => unfold sg2; split <;> simp
/-- draft, mark, text, what came out last, tables, filters -/
abbrev Ab : Type := List Int32 × Nat × List Sg × List Sg × TS × List (Option Fi)
def Cn (G : xG) (h : xh) (c dy : Nat) (ch : List (Option Fi)) : Prop := ch.length = 8 ∧ ∃ f : Nat → Option Nat, h.1 c = some (eR G 1 8 f) ∧ (∀ p : Nat, ch[p]? = some none → f p = none) ∧ (∀ (p : Nat) (fi : Fi), ch[p]? = some (some fi) → (∃ k : Nat, k ≤ 6 ∧ fi.1 = nI k) ∧ ∃ a, f p = some a ∧ dy ≤ a ∧ a < h.2 ∧ ∃ rm rg, Fa h a fi.1 fi.2.1 fi.2.2.1 fi.2.2.2 rm rg) ∧ ∀ (p p' : Nat) (fi fi' : Fi), ch[p]? = some (some fi) → ch[p']? = some (some fi') → f p = f p' → p = p'
def isR (x r : Nat) : Prop := r = x + 23 ∨ r = x + 27 ∨ r = x + 31
def Cs (G : xG) (h : xh) (x dy : Nat) (a : Ab) : Prop := ∃ la s1 s2 : Nat, h.1 x = some (eO 8 (co x (nI a.1.length) (nI a.2.1) la s1 s2)) ∧ a.1.length ≤ 100 ∧ a.2.1 ≤ a.1.length ∧ (∃ f : Nat → Int32, h.1 (x + 1) = some (eI G 100 f) ∧ fL f a.1) ∧
  Ft G h (x + 2) a.2.2.2.2.1.1 ∧ Pt G h (x + 7) a.2.2.2.2.1.2.1 ∧ Zt G h (x + 11) a.2.2.2.2.1.2.2.1 ∧ Rt G h (x + 13) a.2.2.2.2.1.2.2.2.1 ∧ Sx G h (x + 16) dy a.2.2.2.2.1.2.2.2.2 ∧ Cn G h (x + 18) dy a.2.2.2.2.2 ∧ Rw G h (x + 19) a.2.2.1 ∧ a.2.2.1.length ≤ 100 ∧
  (isR x la ∧ isR x s1 ∧ isR x s2 ∧ la ≠ s1 ∧ la ≠ s2 ∧ s1 ≠ s2) ∧ Rw G h la a.2.2.2.1 ∧ (∃ w, Rw G h s1 w) ∧ (∃ w, Rw G h s2 w) ∧ x + 35 ≤ dy ∧ dy ≤ h.2
/-- what a call on the class at x may change -/
def Fc (x dy : Nat) (h h' : xh) : Prop := h.2 ≤ h'.2 ∧ ∀ b, b < dy → ¬ At x 35 b → h'.1 b = h.1 b
theorem Fc.rf {x dy : Nat} {h : xh} : Fc x dy h h := ⟨Nat.le_refl _, fun _ _ _ => rfl⟩
theorem Fr.c {x dy : Nat} {h h' : xh} {A : Nat → Prop} (f : Fr A h h') (hA : ∀ b, A b → At x 35 b ∨ dy ≤ b) : Fc x dy h h' := ⟨Nat.le_of_eq f.1.symm, fun b h1 h2 => f.2 b (fun z => (hA b z).elim h2 (fun q => by omega))⟩
def OpP (G : xG) (x dy : Nat) (h : xh) (z : Int32 × Ab) (v : Option Value) (h' : xh) : Prop := v = some (.int z.1) ∧ Cs G h' x dy z.2 ∧ Fc x dy h h'
/-- a filter is no row -/
theorem fa_row {G : xG} {h : xh} {fa r : Nat} {y : List Sg} {kd rl sm sg rm rg : Int32} (hF : Fa h fa kd rl sm sg rm rg) (hr : Rw G h r y) : ¬ At r 4 fa := by
  intro z
  obtain ⟨-, f0, f1, f2, ⟨g0, g1, g2, g3⟩, -⟩ := hr
  unfold Fa at hF
  have : fa = r ∨ fa = r + 1 ∨ fa = r + 2 ∨ fa = r + 3 := by unfold At at z; omega
  rcases this with rfl | rfl | rfl | rfl
  · rw [hF] at g0; simp [eO] at g0
  · rw [hF] at g1; simp [eO, eI] at g1
  · rw [hF] at g2; simp [eO, eI] at g2
  · rw [hF] at g3; simp [eO, eI] at g3
theorem Cn.same {G : xG} {h h' : xh} {c dy : Nat} {ch : List (Option Fi)} (k : Cn G h c dy ch) (hsz : h.2 ≤ h'.2) (e : h'.1 c = h.1 c) (e2 : ∀ b, dy ≤ b → b < h.2 → ∀ kd rl sm sg rm rg, Fa h b kd rl sm sg rm rg → h'.1 b = h.1 b) : Cn G h' c dy ch := by
  obtain ⟨h0, f, h1, h2, h3, h4⟩ := k
  refine ⟨h0, f, e.trans h1, h2, fun p fi hp => ?_, h4⟩
  obtain ⟨hk, a, a1, a2, a3, rm, rg, a4⟩ := h3 p fi hp
  exact ⟨hk, a, a1, a2, by omega, rm, rg, (e2 a a2 a3 _ _ _ _ _ _ a4).trans a4⟩
theorem Sx.fr {G : xG} {h h' : xh} {z dy : Nat} {ss : List Sr} {A : Nat → Prop} (k : Sx G h z dy ss) (f : Fr A h h') (hd : ∀ b, At z 2 b → ¬ A b) (h2 : ∀ b, A b → b < dy) : Sx G h' z dy ss :=
  k.same (Nat.le_of_eq f.1.symm) (fun b hb => f.2 b (hd b hb)) (fun q h1 _ w hw => hw.same (fun b hb => f.2 b (fun z => by have := h2 b z; unfold At at hb; omega)))
theorem Cn.fr {G : xG} {h h' : xh} {c dy : Nat} {ch : List (Option Fi)} {A : Nat → Prop} (k : Cn G h c dy ch) (f : Fr A h h') (hd : ¬ A c) (h2 : ∀ b, A b → b < dy) : Cn G h' c dy ch :=
  k.same (Nat.le_of_eq f.1.symm) (f.2 c hd) (fun b h1 _ _ _ _ _ _ _ _ => f.2 b (fun z => by have := h2 b z; omega))

set_option maxRecDepth 100000 in
set_option maxHeartbeats 4000000 in
theorem c_readSigns (l : Launch) (G : xG) {h : xh} {x r a b : Nat} {dsz mk : Int32} {la s1 s2 : Nat} {u : List Int32} {w0 : List Sg} {f : Nat → Int32} (hO : h.1 x = some (eO 8 (co x dsz mk la s1 s2))) (hf : h.1 (x + 1) = some (eI G 100 f)) (hu : fL f u) (hul : u.length ≤ 100) (hab : a ≤ b) (hbu : b ≤ u.length) (hr : x + 19 ≤ r) (hrw : Rw G h r w0) : Ct l G yX8_readSigns cX8_readSigns 7 (Option.none : Option Jvm.ClassFile.FieldType) { frames := 1, cells := 0, slots := 0, locals := 23 } [.ref x, .int (nI a), .int (nI b), .ref r] h (fun v h' => v = none ∧ Rw G h' r (sg2 ((u.take b).drop a) (nI a)) ∧ Fr (At r 4) h h') := by
  have hro := hrw.ob
  have hwl : (u.take b).length = b := by simp; omega
  refine Ct.of [some (.ref x), some (.int (nI a)), some (.int (nI b)), some (.ref r), none, none, none] (by decide +kernel) (Nat.le_of_ble_eq_true rfl) (fun p e s m args below meth c bs C hini => ?_)
  have loop : ∀ (n i : Nat) (h1 : xh) (acc : List Sg), b - i < n → a ≤ i → i ≤ b → acc.length ≤ i → Rw G h1 r acc → acc ++ sg2 ((u.take b).drop i) (nI i) = sg2 ((u.take b).drop a) (nI a) → Fr (At r 4) h h1 → X p l e { frames := 1, cells := 0, slots := 0, locals := 23 } s m args below meth c G bs (MQ below (x_Q G bs (fun v h' => v = none ∧ Rw G h' r (sg2 ((u.take b).drop a) (nI a)) ∧ Fr (At r 4) h h')) args s 0 0 (fun q => bs ≤ q)) 0 0 7 [some (.ref x), some (.int (nI a)), some (.int (nI b)), some (.ref r), some (.int (nI i)), none, none] [] h1 := by
    intro n
    induction n with
    | zero => intro i h1 acc hn; omega
    | succ n ih =>
      intro i h1 acc hn hai hib hal hr1 heq hf1
      have hO1 := hf1.at (by unfold At; omega) hO
      have hff1 := hf1.at (b := x + 1) (by unfold At; omega) hf
      have hro1 := hr1.ob
      refine x_iload C dX8_readSigns_7 (kk := ?_)
      refine x_if_lt C dX8_readSigns_9 120 (fun hc9 => ?_) (fun hc9 => ?_)
      · exact absurd hc9 (nI_pos (by omega))
      · refine x_iload C dX8_readSigns_12 (kk := ?_)
        refine x_iload_n C dX8_readSigns_14 (kk := ?_)
        refine x_ncmp_ge C i b dX8_readSigns_15 120 (fun hc15 => ?_) (fun hc15 => ?_)
        · refine x_vret C rfl dX8_readSigns_120 (hp := ?_)
          rw [List.drop_eq_nil_of_le (by omega)] at heq
          simp only [sg2, List.append_nil] at heq
          exact ⟨rfl, by rw [← heq]; exact hr1, hf1⟩
        obtain ⟨c1, hc1⟩ : ∃ c1, (u.take b)[i]? = some c1 := ⟨(u.take b)[i]'(by omega), List.getElem?_eq_getElem (by omega)⟩
        have hfc : f i = c1 := hu i c1 (by rw [List.getElem?_take_of_lt hc15] at hc1; exact hc1)
        rw [drop_at hc1] at heq
        refine x_iload C dX8_readSigns_18 (kk := ?_)
        refine x_bipush C dX8_readSigns_20 (v := 100) (kk := ?_)
        refine x_ncmp_ge C i 100 dX8_readSigns_22 120 (fun hc22 => ?_) (fun hc22 => ?_)
        · omega
        · refine x_aload_n C dX8_readSigns_25 (kk := ?_)
          refine x_get C fl_X8_9 dX8_readSigns_26 (kk := ?_)
          refine x_iload C dX8_readSigns_29 (kk := ?_)
          refine x_iald C i dX8_readSigns_31 (kk := ?_)
          rw [hfc]
          refine x_istore C dX8_readSigns_32 (kk := ?_)
          refine x_iload C dX8_readSigns_34 (kk := ?_)
          refine x_iconst C dX8_readSigns_36 (v := 1) (kk := ?_)
          refine x_iadd C dX8_readSigns_37 ?_
          refine x_top _ (nI_1 i) ?_
          refine x_istore C dX8_readSigns_38 (kk := ?_)
          refine x_iload C dX8_readSigns_40 (kk := ?_)
          refine x_callS C ml_X8_isHigh lk_X8_193 (c_isHigh l G c1) dX8_readSigns_42 (fun r42 h42 hp42 => ?_)
          obtain ⟨rfl, rfl⟩ := hp42
          refine x_ifB_eq C dX8_readSigns_45 102 (fun hc45 => ?_) (fun hc45 => ?_)
          · have heq2 : (acc ++ [(c1, nI i, nI (i+1))]) ++ sg2 ((u.take b).drop (i+1)) (nI (i+1)) = sg2 ((u.take b).drop a) (nI a) := by rw [← heq, ← nI_1]; cases hq : (u.take b).drop (i+1) with
              | nil => simp [sg2]
              | cons d t => simp only [sg2]; rw [if_neg (fun z => hc45 z.1)]; simp
            refine x_aload_n C dX8_readSigns_102 (kk := ?_)
            refine x_iload C dX8_readSigns_103 (kk := ?_)
            refine x_iload C dX8_readSigns_105 (kk := ?_)
            refine x_iload C dX8_readSigns_107 (kk := ?_)
            refine x_callV C ml_X5_add lk_X8_199 (c_row_add3 l G _ _ _ hr1) dX8_readSigns_109 (fun r109 h109 hp109 => ?_)
            rcases hp109 with ⟨-, rfl, hr2, hf2⟩ | ⟨hbad, -, -⟩
            rotate_left
            · omega
            refine x_pop C dX8_readSigns_112 (kk := ?_)
            refine x_iload C dX8_readSigns_113 (kk := ?_)
            refine x_istore C dX8_readSigns_115 (kk := ?_)
            refine x_goto C dX8_readSigns_117 7 ?_
            refine x_fg 6 ?_
            refine x_fg 5 ?_
            first | exact ih (i + 1) _ _ (by omega) (by omega) (by omega) (by simp; omega) hr2 heq2 (hf1.tr hf2) | exact ih (i + 2) _ _ (by omega) (by omega) (by omega) (by simp; omega) hr2 heq2 (hf1.tr hf2)
          · refine x_iload C dX8_readSigns_48 (kk := ?_)
            refine x_iload_n C dX8_readSigns_50 (kk := ?_)
            refine x_ncmp_ge C (i+1) b dX8_readSigns_51 102 (fun hc51 => ?_) (fun hc51 => ?_)
            · have heq2 : (acc ++ [(c1, nI i, nI (i+1))]) ++ sg2 ((u.take b).drop (i+1)) (nI (i+1)) = sg2 ((u.take b).drop a) (nI a) := by rw [← heq, ← nI_1, List.drop_eq_nil_of_le (by omega)]; simp [sg2]
              refine x_aload_n C dX8_readSigns_102 (kk := ?_)
              refine x_iload C dX8_readSigns_103 (kk := ?_)
              refine x_iload C dX8_readSigns_105 (kk := ?_)
              refine x_iload C dX8_readSigns_107 (kk := ?_)
              refine x_callV C ml_X5_add lk_X8_199 (c_row_add3 l G _ _ _ hr1) dX8_readSigns_109 (fun r109 h109 hp109 => ?_)
              rcases hp109 with ⟨-, rfl, hr2, hf2⟩ | ⟨hbad, -, -⟩
              rotate_left
              · omega
              refine x_pop C dX8_readSigns_112 (kk := ?_)
              refine x_iload C dX8_readSigns_113 (kk := ?_)
              refine x_istore C dX8_readSigns_115 (kk := ?_)
              refine x_goto C dX8_readSigns_117 7 ?_
              refine x_fg 6 ?_
              refine x_fg 5 ?_
              first | exact ih (i + 1) _ _ (by omega) (by omega) (by omega) (by simp; omega) hr2 heq2 (hf1.tr hf2) | exact ih (i + 2) _ _ (by omega) (by omega) (by omega) (by simp; omega) hr2 heq2 (hf1.tr hf2)
            · refine x_iload C dX8_readSigns_54 (kk := ?_)
              refine x_bipush C dX8_readSigns_56 (v := 100) (kk := ?_)
              refine x_ncmp_ge C (i+1) 100 dX8_readSigns_58 102 (fun hc58 => ?_) (fun hc58 => ?_)
              · omega
              · refine x_aload_n C dX8_readSigns_61 (kk := ?_)
                refine x_get C fl_X8_9 dX8_readSigns_62 (kk := ?_)
                refine x_iload C dX8_readSigns_65 (kk := ?_)
                refine x_iald C (i+1) dX8_readSigns_67 (kk := ?_)
                obtain ⟨c2, hc2⟩ : ∃ c2, (u.take b)[i+1]? = some c2 := ⟨(u.take b)[i+1]'(by omega), List.getElem?_eq_getElem (by omega)⟩
                have hfc2 : f (i+1) = c2 := hu (i+1) c2 (by rw [List.getElem?_take_of_lt hc51] at hc2; exact hc2)
                rw [hfc2]
                rw [drop_at hc2] at heq
                refine x_callS C ml_X8_isLow lk_X8_196 (c_isLow l G c2) dX8_readSigns_68 (fun r68 h68 hp68 => ?_)
                obtain ⟨rfl, rfl⟩ := hp68
                refine x_ifB_eq C dX8_readSigns_71 102 (fun hc71 => ?_) (fun hc71 => ?_)
                · have heq2 : (acc ++ [(c1, nI i, nI (i+1))]) ++ sg2 ((u.take b).drop (i+1)) (nI (i+1)) = sg2 ((u.take b).drop a) (nI a) := by rw [← heq, ← nI_1, drop_at hc2]; simp only [sg2]; rw [if_neg (fun z => hc71 z.2)]; simp
                  refine x_aload_n C dX8_readSigns_102 (kk := ?_)
                  refine x_iload C dX8_readSigns_103 (kk := ?_)
                  refine x_iload C dX8_readSigns_105 (kk := ?_)
                  refine x_iload C dX8_readSigns_107 (kk := ?_)
                  refine x_callV C ml_X5_add lk_X8_199 (c_row_add3 l G _ _ _ hr1) dX8_readSigns_109 (fun r109 h109 hp109 => ?_)
                  rcases hp109 with ⟨-, rfl, hr2, hf2⟩ | ⟨hbad, -, -⟩
                  rotate_left
                  · omega
                  refine x_pop C dX8_readSigns_112 (kk := ?_)
                  refine x_iload C dX8_readSigns_113 (kk := ?_)
                  refine x_istore C dX8_readSigns_115 (kk := ?_)
                  refine x_goto C dX8_readSigns_117 7 ?_
                  refine x_fg 6 ?_
                  refine x_fg 5 ?_
                  first | exact ih (i + 1) _ _ (by omega) (by omega) (by omega) (by simp; omega) hr2 heq2 (hf1.tr hf2) | exact ih (i + 2) _ _ (by omega) (by omega) (by omega) (by simp; omega) hr2 heq2 (hf1.tr hf2)
                · refine x_ldc C tw_150 dX8_readSigns_74 ?_
                  refine x_sipush C dX8_readSigns_76 (v := 1024) (kk := ?_)
                  refine x_iload C dX8_readSigns_79 (kk := ?_)
                  refine x_ldc C tw_144 dX8_readSigns_81 ?_
                  refine x_isub C dX8_readSigns_83 ?_
                  refine x_imul C dX8_readSigns_84 ?_
                  refine x_iadd C dX8_readSigns_85 ?_
                  refine x_aload_n C dX8_readSigns_86 (kk := ?_)
                  refine x_get C fl_X8_9 dX8_readSigns_87 (kk := ?_)
                  refine x_iload C dX8_readSigns_90 (kk := ?_)
                  refine x_iald C (i+1) dX8_readSigns_92 (kk := ?_)
                  rw [hfc2]
                  refine x_iadd C dX8_readSigns_93 ?_
                  refine x_ldc C tw_145 dX8_readSigns_94 ?_
                  refine x_isub C dX8_readSigns_96 ?_
                  refine x_istore C dX8_readSigns_97 (kk := ?_)
                  refine x_iinc1 C dX8_readSigns_99 (kk := ?_)
                  have heq2 : (acc ++ [(two c1 c2, nI i, nI (i+2))]) ++ sg2 ((u.take b).drop (i+2)) (nI (i+2)) = sg2 ((u.take b).drop a) (nI a) := by rw [← heq, show nI (i+2) = nI i + 2 from (nI_add i 2).symm]; simp only [sg2]; rw [if_pos ⟨hc45, hc71⟩]; simp
                  refine x_aload_n C dX8_readSigns_102 (kk := ?_)
                  refine x_iload C dX8_readSigns_103 (kk := ?_)
                  refine x_iload C dX8_readSigns_105 (kk := ?_)
                  refine x_iload C dX8_readSigns_107 (kk := ?_)
                  refine x_callV C ml_X5_add lk_X8_199 (c_row_add3 l G _ _ _ hr1) dX8_readSigns_109 (fun r109 h109 hp109 => ?_)
                  rcases hp109 with ⟨-, rfl, hr2, hf2⟩ | ⟨hbad, -, -⟩
                  rotate_left
                  · omega
                  refine x_pop C dX8_readSigns_112 (kk := ?_)
                  refine x_iload C dX8_readSigns_113 (kk := ?_)
                  refine x_istore C dX8_readSigns_115 (kk := ?_)
                  refine x_goto C dX8_readSigns_117 7 ?_
                  refine x_fg 6 ?_
                  refine x_fg 5 ?_
                  first | exact ih (i + 1) _ _ (by omega) (by omega) (by omega) (by simp; omega) hr2 heq2 (hf1.tr hf2) | exact ih (i + 2) _ _ (by omega) (by omega) (by omega) (by simp; omega) hr2 heq2 (hf1.tr hf2)
  refine x_aload_n C dX8_readSigns_0 (kk := ?_)
  refine x_callV C ml_X5_clear lk_X8_190 (c_row_clear l G hrw) dX8_readSigns_1 (fun r1 h1 hp1 => ?_)
  obtain ⟨rfl, hr1, hf1⟩ := hp1
  refine x_iload_n C dX8_readSigns_4 (kk := ?_)
  refine x_istore C dX8_readSigns_5 (kk := ?_)
  exact loop (b + 1) a _ [] (by omega) (by omega) (by omega) (by simp) hr1 (by simp) hf1
