/-! THE REFERENCE, VIII: strings that are replaced, signs that are changed -/
set_option maxRecDepth 100000 in
set_option maxHeartbeats 4000000 in
theorem m_replacing (l : Launch) (G : xG) {h : xh} {o : Nat} {I : Nat → Int32} {A : Nat → Nat → Int32} {sr : List Sr} {q out : List Sg} {pp i : Nat} {x1 x2 x3 : Int32} (hT : MrT (I 7) (A 13) (A 14) (A 15) (A 16) sr) (hb : out.length < 2 ^ 29) (hQ : MrS (I 9) (A 26) (A 27) (A 28) q 300) (hx : q[i]? = some (x1, x2, x3)) (hp : pp < 8) (hL : MrL (I 10) (A 29) (A 30) (A 31) out) (hM : MO G h o I A) : Ct l G yX9_replacing cX9_replacing 6 (Option.some Jvm.ClassFile.FieldType.int) { frames := 1, cells := 0, slots := 0, locals := 25 } [.ref o, .int (nI pp), .int (nI i)] h (fun r h' => (longest sr (q.map (·.1)) i = none ∧ r = some (.int (nI 1)) ∧ StP G o pp h I A (out ++ [(x1, x2, x3)], A 21 pp, A 22 pp) h') ∨ ∃ w : Sr, longest sr (q.map (·.1)) i = some w ∧ r = some (.int (nI w.1.length)) ∧ StP G o pp h I A (out ++ w.2.map (fun v => (v, x2, ((q[i + w.1.length - 1]?).map (·.2.2)).getD 0)), A 21 pp + 1, A 22 pp) h') := by
  have hf : Mf o h h := Fr.rf
  have hiq : i < q.length := (List.getElem?_eq_some_iff.mp hx).1
  have hil : i < 300 := by have h2 := hQ.2.1; omega
  have hr0 : A 26 i = x1 := fL_at hQ.2.2.1 hx
  have hr1 : A 27 i = x2 := fL_at hQ.2.2.2.1 hx
  have hr2 : A 28 i = x3 := fL_at hQ.2.2.2.2 hx
  refine Ct.of [some (.ref o), some (.int (nI pp)), some (.int (nI i)), none, none, none] (by decide +kernel) (Nat.le_of_ble_eq_true rfl) (fun p e s m args below meth c bs C hini => ?_)
  have loop : ∀ (k : Nat) (w : Sr), sr[k]? = some w → longest sr (q.map (·.1)) i = some w → ∀ (n j : Nat) (h1 : xh) (I1 : Nat → Int32) (A1 : Nat → Nat → Int32), w.2.length - j < n → j ≤ w.2.length → MO G h1 o I1 A1 → Kp I I1 A A1 → A1 21 = upd (A 21) pp (A 21 pp + 1) → A1 22 = A 22 → MrL (I1 10) (A1 29) (A1 30) (A1 31) (out ++ (w.2.take j).map (fun v => (v, x2, ((q[i + w.1.length - 1]?).map (·.2.2)).getD 0))) → Mf o h h1 → X p l e { frames := 1, cells := 0, slots := 0, locals := 25 } s m args below meth c G bs (MQ below (x_Q G bs (fun r h' => (longest sr (q.map (·.1)) i = none ∧ r = some (.int (nI 1)) ∧ StP G o pp h I A (out ++ [(x1, x2, x3)], A 21 pp, A 22 pp) h') ∨ ∃ w : Sr, longest sr (q.map (·.1)) i = some w ∧ r = some (.int (nI w.1.length)) ∧ StP G o pp h I A (out ++ w.2.map (fun v => (v, x2, ((q[i + w.1.length - 1]?).map (·.2.2)).getD 0)), A 21 pp + 1, A 22 pp) h')) args s 0 0 (fun q => bs ≤ q)) 0 0 64 [some (.ref o), some (.int (nI pp)), some (.int (nI i)), some (.int (nI k)), some (.int (((q[i + w.1.length - 1]?).map (·.2.2)).getD 0)), some (.int (nI j))] [] h1 := by
    intro k w hk hlo n
    have hk20 : k < 20 := by have h1 := (List.getElem?_eq_some_iff.mp hk).1; have h2 := hT.2.1; omega
    obtain ⟨⟨w1, w2, w3⟩, b1, b2, b3, b4⟩ := hT.2.2.2 k w hk
    induction n with
    | zero => intro j h1 I1 A1 hn; omega
    | succ n ih =>
      intro j h1 I1 A1 hn hj hM hkp h21 h22 hL1 hf
      refine x_iload C dX9_replacing_64 (kk := ?_)
      refine x_aload_n C dX9_replacing_66 (kk := ?_)
      refine x_get C fl_X9_52 dX9_replacing_67 (hh := hM.1) (kk := ?_)
      refine x_iload_n C dX9_replacing_70 (kk := ?_)
      refine x_mld C 14 k hM dX9_replacing_71 rfl (n := 21) (by omega) (kk := ?_)
      refine x_top _ ((congrFun (hkp.2 14 (by decide) (by decide) (by decide)) k).trans b2) ?_
      refine x_ncmp_ge C j w.2.length dX9_replacing_72 105 (fun hc72 => ?_) (fun hc72 => ?_)
      · skip
        refine x_aload_n C dX9_replacing_105 (kk := ?_)
        refine x_get C fl_X9_49 dX9_replacing_106 (hh := hM.1) (kk := ?_)
        refine x_iload_n C dX9_replacing_109 (kk := ?_)
        refine x_mld C 13 k hM dX9_replacing_110 rfl (n := 21) (by omega) (kk := ?_)
        refine x_top _ ((congrFun (hkp.2 13 (by decide) (by decide) (by decide)) k).trans b1) ?_
        refine x_iret C rfl dX9_replacing_111 (hp := ?_)
        rw [List.take_of_length_le hc72] at hL1
        exact Or.inr ⟨w, hlo, rfl, ⟨I1, A1, hM, hkp, hL1, h21, h22.trans (upd_id rfl).symm⟩, hf⟩
      obtain ⟨v, hv⟩ : ∃ v, w.2[j]? = some v := ⟨w.2[j], List.getElem?_eq_getElem hc72⟩
      refine x_aload_n C dX9_replacing_75 (kk := ?_)
      refine x_aload_n C dX9_replacing_76 (kk := ?_)
      refine x_get C fl_X9_58 dX9_replacing_77 (hh := hM.1) (kk := ?_)
      refine x_bipush C dX9_replacing_80 (v := 100) (kk := ?_)
      refine x_iload_n C dX9_replacing_82 (kk := ?_)
      refine x_imul C dX9_replacing_83 ?_
      refine x_top _ (nI_mul 100 k) ?_
      refine x_iload C dX9_replacing_84 (kk := ?_)
      refine x_iadd C dX9_replacing_86 ?_
      refine x_top _ (nI_add (100 * k) j) ?_
      refine x_mld C 16 (100 * k + j) hM dX9_replacing_87 rfl (n := 2100) (by omega) (kk := ?_)
      refine x_top _ ((congrFun (hkp.2 16 (by decide) (by decide) (by decide)) _).trans (b4 j v hv)) ?_
      refine x_aload_n C dX9_replacing_88 (kk := ?_)
      refine x_get C fl_X9_91 dX9_replacing_89 (hh := hM.1) (kk := ?_)
      refine x_iload_n C dX9_replacing_92 (kk := ?_)
      refine x_mld C 27 i hM dX9_replacing_93 rfl (n := 300) (by omega) (kk := ?_)
      refine x_top _ ((congrFun (hkp.2 27 (by decide) (by decide) (by decide)) i).trans hr1) ?_
      refine x_iload C dX9_replacing_94 (kk := ?_)
      refine x_callV C ml_X9_lay lk_X9_187 (m_lay l G v x2 (((q[i + w.1.length - 1]?).map (·.2.2)).getD 0) hL1 (by simp; omega) hM) dX9_replacing_96 (fun r96 h96 hp96 => ?_) (hh := hM.1)
      obtain ⟨rfl, ⟨I2, A2, hM, hkp2, e21, e22, hL2⟩, hfl⟩ := hp96
      have hf := hf.tr hfl
      refine x_iinc1 C dX9_replacing_99 (kk := ?_)
      refine x_goto C dX9_replacing_102 64 ?_
      exact ih (j + 1) _ _ _ (by omega) (by omega) hM (hkp.tr hkp2) (e21.trans h21) (e22.trans h22) (by rw [take_at hv, List.map_append, ← List.append_assoc]; exact hL2) hf
  refine x_aload_n C dX9_replacing_0 (kk := ?_)
  refine x_iload_n C dX9_replacing_1 (kk := ?_)
  refine x_callV C ml_X9_stringAt lk_X9_197 (m_stringAt l G hT hQ hiq hM) dX9_replacing_2 (fun r2 h2 hp2 => ?_) (hh := hM.1)
  obtain ⟨r, rfl, hsl, hz⟩ := hp2
  subst hz
  rcases hsl with ⟨hlo, rfl⟩ | ⟨k, w, hlo, rfl, hk⟩
  · skip
    refine x_istore_n C dX9_replacing_5 (kk := ?_)
    refine x_iload_n C dX9_replacing_6 (kk := ?_)
    refine x_if_ge C dX9_replacing_7 34 (fun z => absurd z (by decide)) (fun _ => ?_)
    refine x_aload_n C dX9_replacing_10 (kk := ?_)
    refine x_aload_n C dX9_replacing_11 (kk := ?_)
    refine x_get C fl_X9_88 dX9_replacing_12 (hh := hM.1) (kk := ?_)
    refine x_iload_n C dX9_replacing_15 (kk := ?_)
    refine x_mld C 26 i hM dX9_replacing_16 rfl (n := 300) (by omega) (kk := ?_)
    refine x_top _ hr0 ?_
    refine x_aload_n C dX9_replacing_17 (kk := ?_)
    refine x_get C fl_X9_91 dX9_replacing_18 (hh := hM.1) (kk := ?_)
    refine x_iload_n C dX9_replacing_21 (kk := ?_)
    refine x_mld C 27 i hM dX9_replacing_22 rfl (n := 300) (by omega) (kk := ?_)
    refine x_top _ hr1 ?_
    refine x_aload_n C dX9_replacing_23 (kk := ?_)
    refine x_get C fl_X9_94 dX9_replacing_24 (hh := hM.1) (kk := ?_)
    refine x_iload_n C dX9_replacing_27 (kk := ?_)
    refine x_mld C 28 i hM dX9_replacing_28 rfl (n := 300) (by omega) (kk := ?_)
    refine x_top _ hr2 ?_
    refine x_callV C ml_X9_lay lk_X9_187 (m_lay l G x1 x2 x3 hL (by omega) hM) dX9_replacing_29 (fun r29 h29 hp29 => ?_) (hh := hM.1)
    obtain ⟨rfl, ⟨I2, A2, hM, hkp, e21, e22, hL2⟩, hfl⟩ := hp29
    have hf := hf.tr hfl
    refine x_iconst C dX9_replacing_32 (v := 1) (kk := ?_)
    refine x_iret C rfl dX9_replacing_33 (hp := ?_)
    exact Or.inl ⟨hlo, rfl, ⟨I2, A2, hM, hkp, hL2, e21.trans (upd_id rfl).symm, e22.trans (upd_id rfl).symm⟩, hf⟩
  have hk20 : k < 20 := by have h1 := (List.getElem?_eq_some_iff.mp hk).1; have h2 := hT.2.1; omega
  obtain ⟨⟨w1, w2, w3⟩, b1, b2, b3, b4⟩ := hT.2.2.2 k w hk
  have hsl := st_len (longest_st hlo)
  rw [List.length_map] at hsl
  obtain ⟨z5, hz5⟩ : ∃ z5, q[i + w.1.length - 1]? = some z5 := ⟨q[i + w.1.length - 1]'(by omega), List.getElem?_eq_getElem (by omega)⟩
  have hve : A 28 (i + w.1.length - 1) = ((q[i + w.1.length - 1]?).map (·.2.2)).getD 0 := by rw [hz5]; exact fL_at (π := fun w : Sg => w.2.2) hQ.2.2.2.2 hz5
  have hql := hQ.2.1
  refine x_istore_n C dX9_replacing_5 (kk := ?_)
  refine x_iload_n C dX9_replacing_6 (kk := ?_)
  refine x_if_ge C dX9_replacing_7 34 (fun _ => ?_) (fun z => absurd (nI_pos' (by omega)) z)
  refine x_aload_n C dX9_replacing_34 (kk := ?_)
  refine x_get C fl_X9_73 dX9_replacing_35 (hh := hM.1) (kk := ?_)
  refine x_iload_n C dX9_replacing_38 (kk := ?_)
  refine x_dup2 C dX9_replacing_39 (kk := ?_)
  refine x_mld C 21 (pp) hM dX9_replacing_40 rfl (n := 8) (by omega) (kk := ?_)
  refine x_iconst C dX9_replacing_41 (v := 1) (kk := ?_)
  refine x_iadd C dX9_replacing_42 ?_
  refine x_mst C 21 (pp) hM hf dX9_replacing_43 rfl (n := 8) (by omega) (kk := fun h hM hf => ?_)
  refine x_aload_n C dX9_replacing_44 (kk := ?_)
  refine x_get C fl_X9_94 dX9_replacing_45 (hh := hM.1) (kk := ?_)
  refine x_iload_n C dX9_replacing_48 (kk := ?_)
  refine x_aload_n C dX9_replacing_49 (kk := ?_)
  refine x_get C fl_X9_49 dX9_replacing_50 (hh := hM.1) (kk := ?_)
  refine x_iload_n C dX9_replacing_53 (kk := ?_)
  refine x_mld C 13 k hM dX9_replacing_54 rfl (n := 21) (by omega) (kk := ?_)
  refine x_top _ b1 ?_
  refine x_iadd C dX9_replacing_55 ?_
  refine x_top _ (nI_add i w.1.length) ?_
  refine x_iconst C dX9_replacing_56 (v := 1) (kk := ?_)
  refine x_isub C dX9_replacing_57 ?_
  refine x_top _ (nI_sub1 (by omega)) ?_
  refine x_mld C 28 (i + w.1.length - 1) hM dX9_replacing_58 rfl (n := 300) (by omega) (kk := ?_)
  refine x_top _ hve ?_
  refine x_istore C dX9_replacing_59 (kk := ?_)
  refine x_iconst C dX9_replacing_61 (v := 0) (kk := ?_)
  refine x_istore C dX9_replacing_62 (kk := ?_)
  exact loop k w hk hlo (w.2.length + 1) 0 _ _ _ (by omega) (by omega) hM ⟨fun _ _ => rfl, fun k h1 h2 h3 => upF_un h2⟩ rfl rfl (by rw [List.take_zero, List.map_nil, List.append_nil]; exact hL) hf
theorem zdig_sg {ze : List Int32} {x : Int32} (h : ∀ z ∈ ze, (0 : Int32) ≤ z ∧ z ≤ 1114102) : (zdig ze x < 0 → zdig ze x = -9) ∧ (zdig ze x = -9 → zdig ze x < 0) := by
  refine ⟨?_, fun z => by rw [z]; decide⟩
  induction ze with
  | nil => intro _; rfl
  | cons z t ih =>
    rw [zdig_cons]
    by_cases hc : z ≤ x ∧ x ≤ z + 9
    · rw [if_pos hc]
      intro hlt
      exfalso
      obtain ⟨a, ha, rfl⟩ := nI_of (x := z) (Int32.not_lt.mpr (h z (List.mem_cons_self ..)).1)
      obtain ⟨b, hb, rfl⟩ := nI_of (x := x) (Int32.not_lt.mpr (Int32.le_trans (h _ (List.mem_cons_self ..)).1 hc.1))
      have hab := (nI_leI ha hb).mp hc.1
      rw [pk_sub hab] at hlt
      exact nI_pos (by omega) hlt
    · rw [if_neg hc]
      exact ih (fun w hw => h w (List.mem_cons_of_mem _ hw))
set_option maxRecDepth 100000 in
set_option maxHeartbeats 4000000 in
theorem m_changed (l : Launch) (G : xG) {h : xh} {o : Nat} {I : Nat → Int32} {A : Nat → Nat → Int32} {ze : List Int32} {ra : List Rg} {q out : List Sg} {pp i kd : Nat} {x1 x2 x3 : Int32} (hZ : MrZ (I 5) (A 10) ze) (hR : MrR (I 6) (A 11) (A 12) ra) (hkd : kd = 2 ∨ kd = 3 ∨ kd = 5 ∨ kd = 6) (hc : A 17 pp = nI (kd + 1)) (hb : out.length < 2 ^ 29) (hQ : MrS (I 9) (A 26) (A 27) (A 28) q 300) (hx : q[i]? = some (x1, x2, x3)) (hp : pp < 8) (hL : MrL (I 10) (A 29) (A 30) (A 31) out) (hM : MO G h o I A) : Ct l G yX9_changed cX9_changed 7 (Option.none : Option Jvm.ClassFile.FieldType) { frames := 2, cells := 0, slots := 0, locals := 45 } [.ref o, .int (nI pp), .int (nI i)] h (fun r h' => r = none ∧ StP G o pp h I A (if kd = 2 then stDig ze (out, A 21 pp, A 22 pp) (x1, x2, x3) else if kd = 3 then stDrop ra (out, A 21 pp, A 22 pp) (x1, x2, x3) else if kd = 5 then stHalf (A 18 pp) (out, A 21 pp, A 22 pp) (x1, x2, x3) else stWide (out, A 21 pp, A 22 pp) (x1, x2, x3)) h') := by
  have hf : Mf o h h := Fr.rf
  have hiq : i < q.length := (List.getElem?_eq_some_iff.mp hx).1
  have hil : i < 300 := by have h2 := hQ.2.1; omega
  have hr0 : A 26 i = x1 := fL_at hQ.2.2.1 hx
  have hr1 : A 27 i = x2 := fL_at hQ.2.2.2.1 hx
  have hr2 : A 28 i = x3 := fL_at hQ.2.2.2.2 hx
  refine Ct.of [some (.ref o), some (.int (nI pp)), some (.int (nI i)), none, none, none, none] (by decide +kernel) (Nat.le_of_ble_eq_true rfl) (fun p e s m args below meth c bs C hini => ?_)
  have tail : ∀ (b9 g5 d6 : Int32), (d6 = 0 ∨ d6 = 1) → (if kd = 2 then stDig ze (out, A 21 pp, A 22 pp) (x1, x2, x3) else if kd = 3 then stDrop ra (out, A 21 pp, A 22 pp) (x1, x2, x3) else if kd = 5 then stHalf (A 18 pp) (out, A 21 pp, A 22 pp) (x1, x2, x3) else stWide (out, A 21 pp, A 22 pp) (x1, x2, x3)) = ((if g5 = 0 then out ++ [(b9, x2, x3)] else out), A 21 pp + d6, A 22 pp) → X p l e { frames := 2, cells := 0, slots := 0, locals := 45 } s m args below meth c G bs (MQ below (x_Q G bs (fun r h' => r = none ∧ StP G o pp h I A (if kd = 2 then stDig ze (out, A 21 pp, A 22 pp) (x1, x2, x3) else if kd = 3 then stDrop ra (out, A 21 pp, A 22 pp) (x1, x2, x3) else if kd = 5 then stHalf (A 18 pp) (out, A 21 pp, A 22 pp) (x1, x2, x3) else stWide (out, A 21 pp, A 22 pp) (x1, x2, x3)) h')) args s 0 0 (fun q => bs ≤ q)) 0 0 217 [some (.ref o), some (.int (nI pp)), some (.int (nI i)), some (.int x1), some (.int b9), some (.int g5), some (.int d6)] [] h := by
    intro b9 g5 d6 hd6 hz
    rw [hz]
    refine x_aload_n C dX9_changed_217 (kk := ?_)
    refine x_get C fl_X9_73 dX9_changed_218 (hh := hM.1) (kk := ?_)
    refine x_iload_n C dX9_changed_221 (kk := ?_)
    refine x_dup2 C dX9_changed_222 (kk := ?_)
    refine x_mld C 21 (pp) hM dX9_changed_223 rfl (n := 8) (by omega) (kk := ?_)
    refine x_iload C dX9_changed_224 (kk := ?_)
    refine x_if_eq C dX9_changed_226 233 (fun hc226 => ?_) (fun hc226 => ?_)
    · refine x_iconst C dX9_changed_233 (v := 0) (kk := ?_)
      refine x_iadd C dX9_changed_234 ?_
      refine x_top _ (show _ = A 21 pp + d6 from by rw [hc226]) ?_
      refine x_mst C 21 (pp) hM hf dX9_changed_235 rfl (n := 8) (by omega) (kk := fun h hM hf => ?_)
      refine x_iload C dX9_changed_236 (kk := ?_)
      refine x_if_ne C dX9_changed_238 259 (fun hc238 => ?_) (fun hc238 => ?_)
      · refine x_vret C rfl dX9_changed_259 (hp := ?_)
        rw [if_neg hc238]
        exact ⟨rfl, ⟨_, _, hM, ⟨fun _ _ => rfl, fun k h1 h2 h3 => upF_un h2⟩, hL, rfl, (upd_id rfl).symm⟩, hf⟩
      · refine x_aload_n C dX9_changed_241 (kk := ?_)
        refine x_iload C dX9_changed_242 (kk := ?_)
        refine x_aload_n C dX9_changed_244 (kk := ?_)
        refine x_get C fl_X9_91 dX9_changed_245 (hh := hM.1) (kk := ?_)
        refine x_iload_n C dX9_changed_248 (kk := ?_)
        refine x_mld C 27 i hM dX9_changed_249 rfl (n := 300) (by omega) (kk := ?_)
        refine x_top _ hr1 ?_
        refine x_aload_n C dX9_changed_250 (kk := ?_)
        refine x_get C fl_X9_94 dX9_changed_251 (hh := hM.1) (kk := ?_)
        refine x_iload_n C dX9_changed_254 (kk := ?_)
        refine x_mld C 28 i hM dX9_changed_255 rfl (n := 300) (by omega) (kk := ?_)
        refine x_top _ hr2 ?_
        refine x_callV C ml_X9_lay lk_X9_187 (m_lay (q := out) l G b9 x2 x3 (by exact hL) (by omega) hM) dX9_changed_256 (fun r256 h256 hp256 => ?_) (hh := hM.1)
        obtain ⟨rfl, ⟨I2, A2, hM, hkp2, e21, e22, hL2⟩, hfl⟩ := hp256
        have hf := hf.tr hfl
        refine x_vret C rfl dX9_changed_259 (hp := ?_)
        rw [if_pos hc238]
        exact ⟨rfl, ⟨I2, A2, hM, ⟨hkp2.1, fun k h1 h2 h3 => (hkp2.2 k h1 h2 h3).trans (upF_un h2)⟩, hL2, e21, e22.trans (upd_id rfl).symm⟩, hf⟩
    · refine x_iconst C dX9_changed_229 (v := 1) (kk := ?_)
      refine x_goto C dX9_changed_230 234 ?_
      refine x_iadd C dX9_changed_234 ?_
      refine x_top _ (show _ = A 21 pp + d6 from by rw [hd6.resolve_left hc226]) ?_
      refine x_mst C 21 (pp) hM hf dX9_changed_235 rfl (n := 8) (by omega) (kk := fun h hM hf => ?_)
      refine x_iload C dX9_changed_236 (kk := ?_)
      refine x_if_ne C dX9_changed_238 259 (fun hc238 => ?_) (fun hc238 => ?_)
      · refine x_vret C rfl dX9_changed_259 (hp := ?_)
        rw [if_neg hc238]
        exact ⟨rfl, ⟨_, _, hM, ⟨fun _ _ => rfl, fun k h1 h2 h3 => upF_un h2⟩, hL, rfl, (upd_id rfl).symm⟩, hf⟩
      · refine x_aload_n C dX9_changed_241 (kk := ?_)
        refine x_iload C dX9_changed_242 (kk := ?_)
        refine x_aload_n C dX9_changed_244 (kk := ?_)
        refine x_get C fl_X9_91 dX9_changed_245 (hh := hM.1) (kk := ?_)
        refine x_iload_n C dX9_changed_248 (kk := ?_)
        refine x_mld C 27 i hM dX9_changed_249 rfl (n := 300) (by omega) (kk := ?_)
        refine x_top _ hr1 ?_
        refine x_aload_n C dX9_changed_250 (kk := ?_)
        refine x_get C fl_X9_94 dX9_changed_251 (hh := hM.1) (kk := ?_)
        refine x_iload_n C dX9_changed_254 (kk := ?_)
        refine x_mld C 28 i hM dX9_changed_255 rfl (n := 300) (by omega) (kk := ?_)
        refine x_top _ hr2 ?_
        refine x_callV C ml_X9_lay lk_X9_187 (m_lay (q := out) l G b9 x2 x3 (by exact hL) (by omega) hM) dX9_changed_256 (fun r256 h256 hp256 => ?_) (hh := hM.1)
        obtain ⟨rfl, ⟨I2, A2, hM, hkp2, e21, e22, hL2⟩, hfl⟩ := hp256
        have hf := hf.tr hfl
        refine x_vret C rfl dX9_changed_259 (hp := ?_)
        rw [if_pos hc238]
        exact ⟨rfl, ⟨I2, A2, hM, ⟨hkp2.1, fun k h1 h2 h3 => (hkp2.2 k h1 h2 h3).trans (upF_un h2)⟩, hL2, e21, e22.trans (upd_id rfl).symm⟩, hf⟩
  refine x_aload_n C dX9_changed_0 (kk := ?_)
  refine x_get C fl_X9_88 dX9_changed_1 (hh := hM.1) (kk := ?_)
  refine x_iload_n C dX9_changed_4 (kk := ?_)
  refine x_mld C 26 i hM dX9_changed_5 rfl (n := 300) (by omega) (kk := ?_)
  refine x_top _ hr0 ?_
  refine x_istore_n C dX9_changed_6 (kk := ?_)
  refine x_iload_n C dX9_changed_7 (kk := ?_)
  refine x_istore C dX9_changed_8 (kk := ?_)
  refine x_iconst C dX9_changed_10 (v := 0) (kk := ?_)
  refine x_istore C dX9_changed_11 (kk := ?_)
  refine x_iconst C dX9_changed_13 (v := 0) (kk := ?_)
  refine x_istore C dX9_changed_14 (kk := ?_)
  refine x_aload_n C dX9_changed_16 (kk := ?_)
  refine x_get C fl_X9_61 dX9_changed_17 (hh := hM.1) (kk := ?_)
  refine x_iload_n C dX9_changed_20 (kk := ?_)
  refine x_mld C 17 pp hM dX9_changed_21 rfl (n := 8) (by omega) (kk := ?_)
  refine x_top _ hc ?_
  refine x_iconst C dX9_changed_22 (v := 1) (kk := ?_)
  refine x_isub C dX9_changed_23 ?_
  refine x_top _ (nI_pred kd) ?_
  rcases hkd with rfl | rfl | rfl | rfl
  · refine x_tabI C 0 dX9_changed_24 56 (by decide) (by decide) rfl ?_
    refine x_aload_n C dX9_changed_56 (kk := ?_)
    refine x_iload_n C dX9_changed_57 (kk := ?_)
    refine x_callV C ml_X9_digitOf lk_X9_200 (m_digitOf l G x1 hM hZ) dX9_changed_58 (fun r58 h58 hp58 => ?_) (hh := hM.1)
    obtain ⟨rfl, rfl⟩ := hp58
    refine x_if_lt C dX9_changed_61 68 (fun hc61 => ?_) (fun hc61 => ?_)
    · refine x_iconst C dX9_changed_68 (v := 0) (kk := ?_)
      refine x_istore C dX9_changed_69 (kk := ?_)
      refine x_iload C dX9_changed_71 (kk := ?_)
      refine x_if_eq C dX9_changed_73 87 (fun _ => ?_) (fun z => absurd rfl z)
      refine x_iload_n C dX9_changed_87 (kk := ?_)
      refine x_istore C dX9_changed_88 (kk := ?_)
      refine x_goto C dX9_changed_90 217 ?_
      exact tail x1 0 0 (Or.inl rfl) (by simp only [stDig, if_pos ((zdig_sg hZ.2.2.2).1 hc61)]; simp)
    · refine x_iconst C dX9_changed_64 (v := 1) (kk := ?_)
      refine x_goto C dX9_changed_65 69 ?_
      refine x_istore C dX9_changed_69 (kk := ?_)
      refine x_iload C dX9_changed_71 (kk := ?_)
      refine x_if_eq C dX9_changed_73 87 (fun z => absurd z (by decide)) (fun _ => ?_)
      refine x_bipush C dX9_changed_76 (v := 48) (kk := ?_)
      refine x_aload_n C dX9_changed_78 (kk := ?_)
      refine x_iload_n C dX9_changed_79 (kk := ?_)
      refine x_callV C ml_X9_digitOf lk_X9_200 (m_digitOf l G x1 hM hZ) dX9_changed_80 (fun r80 h80 hp80 => ?_) (hh := hM.1)
      obtain ⟨rfl, rfl⟩ := hp80
      refine x_iadd C dX9_changed_83 ?_
      refine x_goto C dX9_changed_84 88 ?_
      refine x_istore C dX9_changed_88 (kk := ?_)
      refine x_goto C dX9_changed_90 217 ?_
      exact tail (48 + zdig ze x1) 0 1 (Or.inr rfl) (by simp only [stDig, if_neg (fun z => hc61 ((zdig_sg hZ.2.2.2).2 z))]; simp)
  · refine x_tabI C 1 dX9_changed_24 93 (by decide) (by decide) rfl ?_
    refine x_aload_n C dX9_changed_93 (kk := ?_)
    refine x_iload_n C dX9_changed_94 (kk := ?_)
    refine x_callV C ml_X9_isDropped lk_X9_203 (m_isDropped l G x1 hM hR) dX9_changed_95 (fun r95 h95 hp95 => ?_) (hh := hM.1)
    obtain ⟨rfl, hz⟩ := hp95
    subst hz
    by_cases hrh : rhas ra x1 = true
    · rw [if_pos hrh]
      refine x_istore C dX9_changed_98 (kk := ?_)
      refine x_iload C dX9_changed_100 (kk := ?_)
      refine x_istore C dX9_changed_102 (kk := ?_)
      refine x_goto C dX9_changed_104 217 ?_
      exact tail x1 1 1 (Or.inr rfl) (by simp [stDrop, hrh])
    rw [if_neg hrh]
    refine x_istore C dX9_changed_98 (kk := ?_)
    refine x_iload C dX9_changed_100 (kk := ?_)
    refine x_istore C dX9_changed_102 (kk := ?_)
    refine x_goto C dX9_changed_104 217 ?_
    exact tail x1 0 0 (Or.inl rfl) (by simp [stDrop, hrh])
  · refine x_tabI C 3 dX9_changed_24 107 (by decide) (by decide) rfl ?_
    refine x_iload_n C dX9_changed_107 (kk := ?_)
    refine x_ldc C tw_606 dX9_changed_108 ?_
    refine x_ldc C tw_615 dX9_changed_110 ?_
    refine x_callS C ml_X9_isIn lk_X9_111 (m_isIn l G x1 55296 57343) dX9_changed_112 (fun r112 h112 hp112 => ?_)
    obtain ⟨rfl, hz⟩ := hp112
    subst hz
    by_cases hh : 55296 ≤ x1 ∧ x1 ≤ 57343
    · rw [if_pos hh]
      refine x_istore C dX9_changed_115 (kk := ?_)
      refine x_iload C dX9_changed_117 (kk := ?_)
      refine x_if_eq C dX9_changed_119 137 (fun z => absurd z (by decide)) (fun _ => ?_)
      refine x_aload_n C dX9_changed_122 (kk := ?_)
      refine x_get C fl_X9_64 dX9_changed_123 (hh := hM.1) (kk := ?_)
      refine x_iload_n C dX9_changed_126 (kk := ?_)
      refine x_mld C 18 (pp) hM dX9_changed_127 rfl (n := 8) (by omega) (kk := ?_)
      refine x_iconst C dX9_changed_128 (v := 1) (kk := ?_)
      refine x_icmp_ne C dX9_changed_129 137 (fun hc129 => ?_) (fun hc129 => ?_)
      · refine x_iload_n C dX9_changed_137 (kk := ?_)
        refine x_istore C dX9_changed_138 (kk := ?_)
        refine x_iload C dX9_changed_140 (kk := ?_)
        refine x_if_eq C dX9_changed_142 159 (fun z => absurd z (by decide)) (fun _ => ?_)
        refine x_aload_n C dX9_changed_145 (kk := ?_)
        refine x_get C fl_X9_64 dX9_changed_146 (hh := hM.1) (kk := ?_)
        refine x_iload_n C dX9_changed_149 (kk := ?_)
        refine x_mld C 18 (pp) hM dX9_changed_150 rfl (n := 8) (by omega) (kk := ?_)
        refine x_iconst C dX9_changed_151 (v := 2) (kk := ?_)
        refine x_icmp_ne C dX9_changed_152 159 (fun hc152 => ?_) (fun hc152 => ?_)
        · refine x_iconst C dX9_changed_159 (v := 0) (kk := ?_)
          refine x_istore C dX9_changed_160 (kk := ?_)
          refine x_goto C dX9_changed_162 217 ?_
          first | exact tail x1 0 1 (Or.inr rfl) (by simp [stHalf, hh, hc129, hc152]) | exact tail 65533 0 1 (Or.inr rfl) (by simp [stHalf, hh, hc129])
        · refine x_iconst C dX9_changed_155 (v := 1) (kk := ?_)
          refine x_goto C dX9_changed_156 160 ?_
          refine x_istore C dX9_changed_160 (kk := ?_)
          refine x_goto C dX9_changed_162 217 ?_
          first | exact tail x1 1 1 (Or.inr rfl) (by simp [stHalf, hh, hc152]) | exact absurd (hc129.symm.trans hc152) (by decide)
      · refine x_ldc C tw_709 dX9_changed_132 ?_
        refine x_goto C dX9_changed_134 138 ?_
        refine x_istore C dX9_changed_138 (kk := ?_)
        refine x_iload C dX9_changed_140 (kk := ?_)
        refine x_if_eq C dX9_changed_142 159 (fun z => absurd z (by decide)) (fun _ => ?_)
        refine x_aload_n C dX9_changed_145 (kk := ?_)
        refine x_get C fl_X9_64 dX9_changed_146 (hh := hM.1) (kk := ?_)
        refine x_iload_n C dX9_changed_149 (kk := ?_)
        refine x_mld C 18 (pp) hM dX9_changed_150 rfl (n := 8) (by omega) (kk := ?_)
        refine x_iconst C dX9_changed_151 (v := 2) (kk := ?_)
        refine x_icmp_ne C dX9_changed_152 159 (fun hc152 => ?_) (fun hc152 => ?_)
        · refine x_iconst C dX9_changed_159 (v := 0) (kk := ?_)
          refine x_istore C dX9_changed_160 (kk := ?_)
          refine x_goto C dX9_changed_162 217 ?_
          first | exact tail x1 0 1 (Or.inr rfl) (by simp [stHalf, hh, hc129, hc152]) | exact tail 65533 0 1 (Or.inr rfl) (by simp [stHalf, hh, hc129])
        · refine x_iconst C dX9_changed_155 (v := 1) (kk := ?_)
          refine x_goto C dX9_changed_156 160 ?_
          refine x_istore C dX9_changed_160 (kk := ?_)
          refine x_goto C dX9_changed_162 217 ?_
          first | exact tail x1 1 1 (Or.inr rfl) (by simp [stHalf, hh, hc152]) | exact absurd (hc129.symm.trans hc152) (by decide)
    rw [if_neg hh]
    refine x_istore C dX9_changed_115 (kk := ?_)
    refine x_iload C dX9_changed_117 (kk := ?_)
    refine x_if_eq C dX9_changed_119 137 (fun _ => ?_) (fun z => absurd rfl z)
    refine x_iload_n C dX9_changed_137 (kk := ?_)
    refine x_istore C dX9_changed_138 (kk := ?_)
    refine x_iload C dX9_changed_140 (kk := ?_)
    refine x_if_eq C dX9_changed_142 159 (fun _ => ?_) (fun z => absurd rfl z)
    refine x_iconst C dX9_changed_159 (v := 0) (kk := ?_)
    refine x_istore C dX9_changed_160 (kk := ?_)
    refine x_goto C dX9_changed_162 217 ?_
    exact tail x1 0 0 (Or.inl rfl) (by simp [stHalf, hh])
  · refine x_tabO C dX9_changed_24 165 (Or.inr (by decide)) ?_
    refine x_iload_n C dX9_changed_165 (kk := ?_)
    refine x_ldc C tw_710 dX9_changed_166 ?_
    refine x_ldc C tw_711 dX9_changed_168 ?_
    refine x_callS C ml_X9_isIn lk_X9_111 (m_isIn l G x1 65281 65374) dX9_changed_170 (fun r170 h170 hp170 => ?_)
    obtain ⟨rfl, hz⟩ := hp170
    subst hz
    by_cases hw : 65281 ≤ x1 ∧ x1 ≤ 65374
    · rw [if_pos hw]
      have hne : ¬ x1 = 12288 := fun z => by rw [z] at hw; exact absurd hw.1 (by decide)
      refine x_if_ne C dX9_changed_173 183 (fun _ => ?_) (fun z => absurd z (by decide))
      refine x_iconst C dX9_changed_183 (v := 1) (kk := ?_)
      refine x_goto C dX9_changed_184 188 ?_
      refine x_istore C dX9_changed_188 (kk := ?_)
      refine x_iload C dX9_changed_190 (kk := ?_)
      refine x_if_ne C dX9_changed_192 199 (fun _ => ?_) (fun z => absurd z (by decide))
      refine x_iload_n C dX9_changed_199 (kk := ?_)
      refine x_sipush C dX9_changed_200 (v := 12288) (kk := ?_)
      refine x_icmp_ne C dX9_changed_203 211 (fun _ => ?_) (fun z => absurd z hne)
      refine x_iload_n C dX9_changed_211 (kk := ?_)
      refine x_ldc C tw_712 dX9_changed_212 ?_
      refine x_isub C dX9_changed_214 ?_
      refine x_istore C dX9_changed_215 (kk := ?_)
      exact tail (x1 - 65248) 0 1 (Or.inr rfl) (by simp [stWide, hw])
    rw [if_neg hw]
    by_cases h12 : x1 = 12288
    · skip
      refine x_if_ne C dX9_changed_173 183 (fun z => absurd rfl z) (fun _ => ?_)
      refine x_iload_n C dX9_changed_176 (kk := ?_)
      refine x_sipush C dX9_changed_177 (v := 12288) (kk := ?_)
      refine x_icmp_ne C dX9_changed_180 187 (fun z => absurd h12 z) (fun _ => ?_)
      refine x_iconst C dX9_changed_183 (v := 1) (kk := ?_)
      refine x_goto C dX9_changed_184 188 ?_
      refine x_istore C dX9_changed_188 (kk := ?_)
      refine x_iload C dX9_changed_190 (kk := ?_)
      refine x_if_ne C dX9_changed_192 199 (fun _ => ?_) (fun z => absurd z (by decide))
      refine x_iload_n C dX9_changed_199 (kk := ?_)
      refine x_sipush C dX9_changed_200 (v := 12288) (kk := ?_)
      refine x_icmp_ne C dX9_changed_203 211 (fun z => absurd h12 z) (fun _ => ?_)
      refine x_bipush C dX9_changed_206 (v := 32) (kk := ?_)
      refine x_goto C dX9_changed_208 215 ?_
      refine x_istore C dX9_changed_215 (kk := ?_)
      exact tail 32 0 1 (Or.inr rfl) (by simp [stWide, h12])
    refine x_if_ne C dX9_changed_173 183 (fun z => absurd rfl z) (fun _ => ?_)
    refine x_iload_n C dX9_changed_176 (kk := ?_)
    refine x_sipush C dX9_changed_177 (v := 12288) (kk := ?_)
    refine x_icmp_ne C dX9_changed_180 187 (fun _ => ?_) (fun z => absurd z h12)
    refine x_iconst C dX9_changed_187 (v := 0) (kk := ?_)
    refine x_istore C dX9_changed_188 (kk := ?_)
    refine x_iload C dX9_changed_190 (kk := ?_)
    refine x_if_ne C dX9_changed_192 199 (fun z => absurd rfl z) (fun _ => ?_)
    refine x_iload_n C dX9_changed_195 (kk := ?_)
    refine x_goto C dX9_changed_196 215 ?_
    refine x_istore C dX9_changed_215 (kk := ?_)
    exact tail x1 0 0 (Or.inl rfl) (by simp [stWide, hw, h12])
