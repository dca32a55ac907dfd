/-! THE CALLS OF THE LAW, ONE BY ONE -/
section XC
variable {p : Program} {l : Launch} {e : Env} {R : Room} {s : State} {m : MethodId} {args : Array Value} {below : List Frame} {meth : Method} {c : Code} {G : xG} {bs : Nat} {Q : State → Prop} {cells slots pc : Nat} {L : List (Option Value)} {st : List Value} {h : xh}
set_option maxRecDepth 100000 in
set_option maxHeartbeats 4000000 in
theorem law_0 (C : Cx p s m args meth c G RL code 4 ret) {b n x j : Nat} {xs : Nat → Int32} {a : Ab} (hX : va_X b n xs s s.heap) (hbl : b < s.heap.size) (hbs : b < bs) (hj : 5 * j + 5 ≤ n) (hn : n ≤ 2560) (hC : Cs G h x (x + 68) a) (hM : Ms G h (x + 35) a) (kk : ∀ (h' : xh) (a' : Ab), Cs G h' x (x + 68) a' → Ms G h' (x + 35) a' → X p l e room_1 s m args below meth c G bs Q (68 + 3 * (j + 1)) (12732 + 602 * (j + 1)) 698 [some (.ref b), some (.ref x), some (.ref (x + 35)), some (.int (nI (5 * j)))] [] h') : X p l e room_1 s m args below meth c G bs Q (68 + 3 * j) (12732 + 602 * j) 136 [some (.ref b), some (.ref x), some (.ref (x + 35)), some (.int (nI (5 * j)))] [] h := by
  obtain ⟨u, km, src, lat, ⟨fo, pa, ze, ra, sr⟩, ch⟩ := a
  obtain ⟨fs, hO⟩ := hC.ob
  refine x_aload_n C dL_law_136 (kk := ?_)
  refine x_aload_n C dL_law_137 (kk := ?_)
  refine x_iload_n C dL_law_138 (kk := ?_)
  refine x_iconst C dL_law_139 (v := 1) (kk := ?_)
  refine x_iadd C dL_law_140 ?_
  refine x_top _ (nI_add (5 * j) 1) ?_
  refine x_sld C (5 * j + 1) hX hbl hbs hn dL_law_141 (by omega) (kk := ?_)
  refine x_callV C ml_X8_unit lk_L_13 (c_unit l G (xs (5 * j + 1)) hC) dL_law_142 (fun r1 h1 hp1 => ?_) (hh := hO) (hR := ⟨⟨Nat.le_of_ble_eq_true rfl, Nat.le_of_ble_eq_true rfl⟩, by show 68 + 3 * j + 0 ≤ 600000; omega, by show 12732 + 602 * j + 0 ≤ 7302250; omega⟩)
  obtain ⟨rfl, hC1, hF1⟩ := hp1
  have hM1 := hM.fc hF1
  obtain ⟨fs1, hO1⟩ := hM1.ob
  refine x_aload_n C dL_law_145 (kk := ?_)
  refine x_aload_n C dL_law_146 (kk := ?_)
  refine x_iload_n C dL_law_147 (kk := ?_)
  refine x_iconst C dL_law_148 (v := 1) (kk := ?_)
  refine x_iadd C dL_law_149 ?_
  refine x_top _ (nI_add (5 * j) 1) ?_
  refine x_sld C (5 * j + 1) hX hbl hbs hn dL_law_150 (by omega) (kk := ?_)
  refine x_callV C ml_X9_unit lk_L_17 (m_unit l G (xs (5 * j + 1)) hM1) dL_law_151 (fun r2 h2 hp2 => ?_) (hh := hO1) (hR := ⟨⟨Nat.le_of_ble_eq_true rfl, Nat.le_of_ble_eq_true rfl⟩, by show 68 + 3 * j + 0 + 0 ≤ 600000; omega, by show 12732 + 602 * j + 0 + 0 ≤ 7302250; omega⟩)
  obtain ⟨rfl, hM2, hf2⟩ := hp2
  refine x_icmp_eq C dL_law_154 698 (fun _ => ?_) (fun z => absurd rfl z)
  exact x_wd C (by show 68 + 3 * j + 0 + 0 ≤ _; omega) (by show 12732 + 602 * j + 0 + 0 ≤ _; omega) (kk _ _ (hC1.mf hf2) hM2)
set_option maxRecDepth 100000 in
set_option maxHeartbeats 4000000 in
theorem law_1 (C : Cx p s m args meth c G RL code 4 ret) {b n x j : Nat} {xs : Nat → Int32} {a : Ab} (hX : va_X b n xs s s.heap) (hbl : b < s.heap.size) (hbs : b < bs) (hj : 5 * j + 5 ≤ n) (hn : n ≤ 2560) (hC : Cs G h x (x + 68) a) (hM : Ms G h (x + 35) a) (kk : ∀ (h' : xh) (a' : Ab), Cs G h' x (x + 68) a' → Ms G h' (x + 35) a' → X p l e room_1 s m args below meth c G bs Q (68 + 3 * (j + 1)) (12732 + 602 * (j + 1)) 698 [some (.ref b), some (.ref x), some (.ref (x + 35)), some (.int (nI (5 * j)))] [] h') : X p l e room_1 s m args below meth c G bs Q (68 + 3 * j) (12732 + 602 * j) 159 [some (.ref b), some (.ref x), some (.ref (x + 35)), some (.int (nI (5 * j)))] [] h := by
  obtain ⟨u, km, src, lat, ⟨fo, pa, ze, ra, sr⟩, ch⟩ := a
  obtain ⟨fs, hO⟩ := hC.ob
  refine x_aload_n C dL_law_159 (kk := ?_)
  refine x_callV C ml_X8_mark lk_L_18 (c_mark l G hC) dL_law_160 (fun r1 h1 hp1 => ?_) (hh := hO) (hR := ⟨⟨Nat.le_of_ble_eq_true rfl, Nat.le_of_ble_eq_true rfl⟩, by show 68 + 3 * j + 0 ≤ 600000; omega, by show 12732 + 602 * j + 0 ≤ 7302250; omega⟩)
  obtain ⟨rfl, hC1, hF1⟩ := hp1
  have hM1 := hM.fc hF1
  obtain ⟨fs1, hO1⟩ := hM1.ob
  refine x_aload_n C dL_law_163 (kk := ?_)
  refine x_callV C ml_X9_mark lk_L_22 (m_mark l G hM1) dL_law_164 (fun r2 h2 hp2 => ?_) (hh := hO1) (hR := ⟨⟨Nat.le_of_ble_eq_true rfl, Nat.le_of_ble_eq_true rfl⟩, by show 68 + 3 * j + 0 + 0 ≤ 600000; omega, by show 12732 + 602 * j + 0 + 0 ≤ 7302250; omega⟩)
  obtain ⟨rfl, hM2, hf2⟩ := hp2
  refine x_icmp_eq C dL_law_167 698 (fun _ => ?_) (fun z => absurd rfl z)
  exact x_wd C (by show 68 + 3 * j + 0 + 0 ≤ _; omega) (by show 12732 + 602 * j + 0 + 0 ≤ _; omega) (kk _ _ (hC1.mf hf2) hM2)
set_option maxRecDepth 100000 in
set_option maxHeartbeats 4000000 in
theorem law_2 (C : Cx p s m args meth c G RL code 4 ret) {b n x j : Nat} {xs : Nat → Int32} {a : Ab} (hX : va_X b n xs s s.heap) (hbl : b < s.heap.size) (hbs : b < bs) (hj : 5 * j + 5 ≤ n) (hn : n ≤ 2560) (hC : Cs G h x (x + 68) a) (hM : Ms G h (x + 35) a) (kk : ∀ (h' : xh) (a' : Ab), Cs G h' x (x + 68) a' → Ms G h' (x + 35) a' → X p l e room_1 s m args below meth c G bs Q (68 + 3 * (j + 1)) (12732 + 602 * (j + 1)) 698 [some (.ref b), some (.ref x), some (.ref (x + 35)), some (.int (nI (5 * j)))] [] h') : X p l e room_1 s m args below meth c G bs Q (68 + 3 * j) (12732 + 602 * j) 172 [some (.ref b), some (.ref x), some (.ref (x + 35)), some (.int (nI (5 * j)))] [] h := by
  obtain ⟨u, km, src, lat, ⟨fo, pa, ze, ra, sr⟩, ch⟩ := a
  obtain ⟨fs, hO⟩ := hC.ob
  refine x_aload_n C dL_law_172 (kk := ?_)
  refine x_callV C ml_X8_text lk_L_23 (c_text l G hC) dL_law_173 (fun r1 h1 hp1 => ?_) (hh := hO) (hR := ⟨⟨Nat.le_of_ble_eq_true rfl, Nat.le_of_ble_eq_true rfl⟩, by show 68 + 3 * j + 0 ≤ 600000; omega, by show 12732 + 602 * j + 0 ≤ 7302250; omega⟩)
  obtain ⟨rfl, hC1, hF1⟩ := hp1
  have hM1 := hM.fc hF1
  obtain ⟨fs1, hO1⟩ := hM1.ob
  refine x_aload_n C dL_law_176 (kk := ?_)
  refine x_callV C ml_X9_text lk_L_26 (m_text l G hM1) dL_law_177 (fun r2 h2 hp2 => ?_) (hh := hO1) (hR := ⟨⟨Nat.le_of_ble_eq_true rfl, Nat.le_of_ble_eq_true rfl⟩, by show 68 + 3 * j + 0 + 0 ≤ 600000; omega, by show 12732 + 602 * j + 0 + 0 ≤ 7302250; omega⟩)
  obtain ⟨rfl, hM2, hf2⟩ := hp2
  refine x_icmp_eq C dL_law_180 698 (fun _ => ?_) (fun z => absurd rfl z)
  exact x_wd C (by show 68 + 3 * j + 0 + 0 ≤ _; omega) (by show 12732 + 602 * j + 0 + 0 ≤ _; omega) (kk _ _ (hC1.mf hf2) hM2)
set_option maxRecDepth 100000 in
set_option maxHeartbeats 4000000 in
theorem law_3 (C : Cx p s m args meth c G RL code 4 ret) {b n x j : Nat} {xs : Nat → Int32} {a : Ab} (hX : va_X b n xs s s.heap) (hbl : b < s.heap.size) (hbs : b < bs) (hj : 5 * j + 5 ≤ n) (hn : n ≤ 2560) (hC : Cs G h x (x + 68) a) (hM : Ms G h (x + 35) a) (kk : ∀ (h' : xh) (a' : Ab), Cs G h' x (x + 68) a' → Ms G h' (x + 35) a' → X p l e room_1 s m args below meth c G bs Q (68 + 3 * (j + 1)) (12732 + 602 * (j + 1)) 698 [some (.ref b), some (.ref x), some (.ref (x + 35)), some (.int (nI (5 * j)))] [] h') : X p l e room_1 s m args below meth c G bs Q (68 + 3 * j) (12732 + 602 * j) 185 [some (.ref b), some (.ref x), some (.ref (x + 35)), some (.int (nI (5 * j)))] [] h := by
  obtain ⟨u, km, src, lat, ⟨fo, pa, ze, ra, sr⟩, ch⟩ := a
  obtain ⟨fs, hO⟩ := hC.ob
  refine x_aload_n C dL_law_185 (kk := ?_)
  refine x_callV C ml_X8_string lk_L_27 (c_string l G hC) dL_law_186 (fun r1 h1 hp1 => ?_) (hh := hO) (hR := ⟨⟨Nat.le_of_ble_eq_true rfl, Nat.le_of_ble_eq_true rfl⟩, by show 68 + 3 * j + 3 ≤ 600000; omega, by show 12732 + 602 * j + 602 ≤ 7302250; omega⟩)
  obtain ⟨rfl, hC1, hF1⟩ := hp1
  have hM1 := hM.fc hF1
  obtain ⟨fs1, hO1⟩ := hM1.ob
  refine x_aload_n C dL_law_189 (kk := ?_)
  refine x_callV C ml_X9_string lk_L_30 (m_string l G hM1) dL_law_190 (fun r2 h2 hp2 => ?_) (hh := hO1) (hR := ⟨⟨Nat.le_of_ble_eq_true rfl, Nat.le_of_ble_eq_true rfl⟩, by show 68 + 3 * j + 3 + 0 ≤ 600000; omega, by show 12732 + 602 * j + 602 + 0 ≤ 7302250; omega⟩)
  obtain ⟨rfl, hM2, hf2⟩ := hp2
  refine x_icmp_eq C dL_law_193 698 (fun _ => ?_) (fun z => absurd rfl z)
  exact x_wd C (by show 68 + 3 * j + 3 + 0 ≤ _; omega) (by show 12732 + 602 * j + 602 + 0 ≤ _; omega) (kk _ _ (hC1.mf hf2) hM2)
set_option maxRecDepth 100000 in
set_option maxHeartbeats 4000000 in
theorem law_4 (C : Cx p s m args meth c G RL code 4 ret) {b n x j : Nat} {xs : Nat → Int32} {a : Ab} (hX : va_X b n xs s s.heap) (hbl : b < s.heap.size) (hbs : b < bs) (hj : 5 * j + 5 ≤ n) (hn : n ≤ 2560) (hC : Cs G h x (x + 68) a) (hM : Ms G h (x + 35) a) (kk : ∀ (h' : xh) (a' : Ab), Cs G h' x (x + 68) a' → Ms G h' (x + 35) a' → X p l e room_1 s m args below meth c G bs Q (68 + 3 * (j + 1)) (12732 + 602 * (j + 1)) 698 [some (.ref b), some (.ref x), some (.ref (x + 35)), some (.int (nI (5 * j)))] [] h') : X p l e room_1 s m args below meth c G bs Q (68 + 3 * j) (12732 + 602 * j) 198 [some (.ref b), some (.ref x), some (.ref (x + 35)), some (.int (nI (5 * j)))] [] h := by
  obtain ⟨u, km, src, lat, ⟨fo, pa, ze, ra, sr⟩, ch⟩ := a
  obtain ⟨fs, hO⟩ := hC.ob
  refine x_aload_n C dL_law_198 (kk := ?_)
  refine x_aload_n C dL_law_199 (kk := ?_)
  refine x_iload_n C dL_law_200 (kk := ?_)
  refine x_iconst C dL_law_201 (v := 1) (kk := ?_)
  refine x_iadd C dL_law_202 ?_
  refine x_top _ (nI_add (5 * j) 1) ?_
  refine x_sld C (5 * j + 1) hX hbl hbs hn dL_law_203 (by omega) (kk := ?_)
  refine x_aload_n C dL_law_204 (kk := ?_)
  refine x_iload_n C dL_law_205 (kk := ?_)
  refine x_iconst C dL_law_206 (v := 2) (kk := ?_)
  refine x_iadd C dL_law_207 ?_
  refine x_top _ (nI_add (5 * j) 2) ?_
  refine x_sld C (5 * j + 2) hX hbl hbs hn dL_law_208 (by omega) (kk := ?_)
  refine x_aload_n C dL_law_209 (kk := ?_)
  refine x_iload_n C dL_law_210 (kk := ?_)
  refine x_iconst C dL_law_211 (v := 3) (kk := ?_)
  refine x_iadd C dL_law_212 ?_
  refine x_top _ (nI_add (5 * j) 3) ?_
  refine x_sld C (5 * j + 3) hX hbl hbs hn dL_law_213 (by omega) (kk := ?_)
  refine x_aload_n C dL_law_214 (kk := ?_)
  refine x_iload_n C dL_law_215 (kk := ?_)
  refine x_iconst C dL_law_216 (v := 4) (kk := ?_)
  refine x_iadd C dL_law_217 ?_
  refine x_top _ (nI_add (5 * j) 4) ?_
  refine x_sld C (5 * j + 4) hX hbl hbs hn dL_law_218 (by omega) (kk := ?_)
  refine x_callV C ml_X8_fold lk_L_31 (c_fold l G (xs (5 * j + 1)) (xs (5 * j + 2)) (xs (5 * j + 3)) (xs (5 * j + 4)) hC) dL_law_219 (fun r1 h1 hp1 => ?_) (hh := hO) (hR := ⟨⟨Nat.le_of_ble_eq_true rfl, Nat.le_of_ble_eq_true rfl⟩, by show 68 + 3 * j + 0 ≤ 600000; omega, by show 12732 + 602 * j + 0 ≤ 7302250; omega⟩)
  obtain ⟨rfl, hC1, hF1⟩ := hp1
  have hM1 := hM.fc hF1
  obtain ⟨fs1, hO1⟩ := hM1.ob
  refine x_aload_n C dL_law_222 (kk := ?_)
  refine x_aload_n C dL_law_223 (kk := ?_)
  refine x_iload_n C dL_law_224 (kk := ?_)
  refine x_iconst C dL_law_225 (v := 1) (kk := ?_)
  refine x_iadd C dL_law_226 ?_
  refine x_top _ (nI_add (5 * j) 1) ?_
  refine x_sld C (5 * j + 1) hX hbl hbs hn dL_law_227 (by omega) (kk := ?_)
  refine x_aload_n C dL_law_228 (kk := ?_)
  refine x_iload_n C dL_law_229 (kk := ?_)
  refine x_iconst C dL_law_230 (v := 2) (kk := ?_)
  refine x_iadd C dL_law_231 ?_
  refine x_top _ (nI_add (5 * j) 2) ?_
  refine x_sld C (5 * j + 2) hX hbl hbs hn dL_law_232 (by omega) (kk := ?_)
  refine x_aload_n C dL_law_233 (kk := ?_)
  refine x_iload_n C dL_law_234 (kk := ?_)
  refine x_iconst C dL_law_235 (v := 3) (kk := ?_)
  refine x_iadd C dL_law_236 ?_
  refine x_top _ (nI_add (5 * j) 3) ?_
  refine x_sld C (5 * j + 3) hX hbl hbs hn dL_law_237 (by omega) (kk := ?_)
  refine x_aload_n C dL_law_238 (kk := ?_)
  refine x_iload_n C dL_law_239 (kk := ?_)
  refine x_iconst C dL_law_240 (v := 4) (kk := ?_)
  refine x_iadd C dL_law_241 ?_
  refine x_top _ (nI_add (5 * j) 4) ?_
  refine x_sld C (5 * j + 4) hX hbl hbs hn dL_law_242 (by omega) (kk := ?_)
  refine x_callV C ml_X9_fold lk_L_35 (m_fold l G (xs (5 * j + 1)) (xs (5 * j + 2)) (xs (5 * j + 3)) (xs (5 * j + 4)) hM1) dL_law_243 (fun r2 h2 hp2 => ?_) (hh := hO1) (hR := ⟨⟨Nat.le_of_ble_eq_true rfl, Nat.le_of_ble_eq_true rfl⟩, by show 68 + 3 * j + 0 + 0 ≤ 600000; omega, by show 12732 + 602 * j + 0 + 0 ≤ 7302250; omega⟩)
  obtain ⟨rfl, hM2, hf2⟩ := hp2
  refine x_icmp_eq C dL_law_246 698 (fun _ => ?_) (fun z => absurd rfl z)
  exact x_wd C (by show 68 + 3 * j + 0 + 0 ≤ _; omega) (by show 12732 + 602 * j + 0 + 0 ≤ _; omega) (kk _ _ (hC1.mf hf2) hM2)
set_option maxRecDepth 100000 in
set_option maxHeartbeats 4000000 in
theorem law_5 (C : Cx p s m args meth c G RL code 4 ret) {b n x j : Nat} {xs : Nat → Int32} {a : Ab} (hX : va_X b n xs s s.heap) (hbl : b < s.heap.size) (hbs : b < bs) (hj : 5 * j + 5 ≤ n) (hn : n ≤ 2560) (hC : Cs G h x (x + 68) a) (hM : Ms G h (x + 35) a) (kk : ∀ (h' : xh) (a' : Ab), Cs G h' x (x + 68) a' → Ms G h' (x + 35) a' → X p l e room_1 s m args below meth c G bs Q (68 + 3 * (j + 1)) (12732 + 602 * (j + 1)) 698 [some (.ref b), some (.ref x), some (.ref (x + 35)), some (.int (nI (5 * j)))] [] h') : X p l e room_1 s m args below meth c G bs Q (68 + 3 * j) (12732 + 602 * j) 251 [some (.ref b), some (.ref x), some (.ref (x + 35)), some (.int (nI (5 * j)))] [] h := by
  obtain ⟨u, km, src, lat, ⟨fo, pa, ze, ra, sr⟩, ch⟩ := a
  obtain ⟨fs, hO⟩ := hC.ob
  refine x_aload_n C dL_law_251 (kk := ?_)
  refine x_aload_n C dL_law_252 (kk := ?_)
  refine x_iload_n C dL_law_253 (kk := ?_)
  refine x_iconst C dL_law_254 (v := 1) (kk := ?_)
  refine x_iadd C dL_law_255 ?_
  refine x_top _ (nI_add (5 * j) 1) ?_
  refine x_sld C (5 * j + 1) hX hbl hbs hn dL_law_256 (by omega) (kk := ?_)
  refine x_aload_n C dL_law_257 (kk := ?_)
  refine x_iload_n C dL_law_258 (kk := ?_)
  refine x_iconst C dL_law_259 (v := 2) (kk := ?_)
  refine x_iadd C dL_law_260 ?_
  refine x_top _ (nI_add (5 * j) 2) ?_
  refine x_sld C (5 * j + 2) hX hbl hbs hn dL_law_261 (by omega) (kk := ?_)
  refine x_aload_n C dL_law_262 (kk := ?_)
  refine x_iload_n C dL_law_263 (kk := ?_)
  refine x_iconst C dL_law_264 (v := 3) (kk := ?_)
  refine x_iadd C dL_law_265 ?_
  refine x_top _ (nI_add (5 * j) 3) ?_
  refine x_sld C (5 * j + 3) hX hbl hbs hn dL_law_266 (by omega) (kk := ?_)
  refine x_callV C ml_X8_pair lk_L_36 (c_pair l G (xs (5 * j + 1)) (xs (5 * j + 2)) (xs (5 * j + 3)) hC) dL_law_267 (fun r1 h1 hp1 => ?_) (hh := hO) (hR := ⟨⟨Nat.le_of_ble_eq_true rfl, Nat.le_of_ble_eq_true rfl⟩, by show 68 + 3 * j + 0 ≤ 600000; omega, by show 12732 + 602 * j + 0 ≤ 7302250; omega⟩)
  obtain ⟨rfl, hC1, hF1⟩ := hp1
  have hM1 := hM.fc hF1
  obtain ⟨fs1, hO1⟩ := hM1.ob
  refine x_aload_n C dL_law_270 (kk := ?_)
  refine x_aload_n C dL_law_271 (kk := ?_)
  refine x_iload_n C dL_law_272 (kk := ?_)
  refine x_iconst C dL_law_273 (v := 1) (kk := ?_)
  refine x_iadd C dL_law_274 ?_
  refine x_top _ (nI_add (5 * j) 1) ?_
  refine x_sld C (5 * j + 1) hX hbl hbs hn dL_law_275 (by omega) (kk := ?_)
  refine x_aload_n C dL_law_276 (kk := ?_)
  refine x_iload_n C dL_law_277 (kk := ?_)
  refine x_iconst C dL_law_278 (v := 2) (kk := ?_)
  refine x_iadd C dL_law_279 ?_
  refine x_top _ (nI_add (5 * j) 2) ?_
  refine x_sld C (5 * j + 2) hX hbl hbs hn dL_law_280 (by omega) (kk := ?_)
  refine x_aload_n C dL_law_281 (kk := ?_)
  refine x_iload_n C dL_law_282 (kk := ?_)
  refine x_iconst C dL_law_283 (v := 3) (kk := ?_)
  refine x_iadd C dL_law_284 ?_
  refine x_top _ (nI_add (5 * j) 3) ?_
  refine x_sld C (5 * j + 3) hX hbl hbs hn dL_law_285 (by omega) (kk := ?_)
  refine x_callV C ml_X9_pair lk_L_40 (m_pair l G (xs (5 * j + 1)) (xs (5 * j + 2)) (xs (5 * j + 3)) hM1) dL_law_286 (fun r2 h2 hp2 => ?_) (hh := hO1) (hR := ⟨⟨Nat.le_of_ble_eq_true rfl, Nat.le_of_ble_eq_true rfl⟩, by show 68 + 3 * j + 0 + 0 ≤ 600000; omega, by show 12732 + 602 * j + 0 + 0 ≤ 7302250; omega⟩)
  obtain ⟨rfl, hM2, hf2⟩ := hp2
  refine x_icmp_eq C dL_law_289 698 (fun _ => ?_) (fun z => absurd rfl z)
  exact x_wd C (by show 68 + 3 * j + 0 + 0 ≤ _; omega) (by show 12732 + 602 * j + 0 + 0 ≤ _; omega) (kk _ _ (hC1.mf hf2) hM2)
set_option maxRecDepth 100000 in
set_option maxHeartbeats 4000000 in
theorem law_6 (C : Cx p s m args meth c G RL code 4 ret) {b n x j : Nat} {xs : Nat → Int32} {a : Ab} (hX : va_X b n xs s s.heap) (hbl : b < s.heap.size) (hbs : b < bs) (hj : 5 * j + 5 ≤ n) (hn : n ≤ 2560) (hC : Cs G h x (x + 68) a) (hM : Ms G h (x + 35) a) (kk : ∀ (h' : xh) (a' : Ab), Cs G h' x (x + 68) a' → Ms G h' (x + 35) a' → X p l e room_1 s m args below meth c G bs Q (68 + 3 * (j + 1)) (12732 + 602 * (j + 1)) 698 [some (.ref b), some (.ref x), some (.ref (x + 35)), some (.int (nI (5 * j)))] [] h') : X p l e room_1 s m args below meth c G bs Q (68 + 3 * j) (12732 + 602 * j) 294 [some (.ref b), some (.ref x), some (.ref (x + 35)), some (.int (nI (5 * j)))] [] h := by
  obtain ⟨u, km, src, lat, ⟨fo, pa, ze, ra, sr⟩, ch⟩ := a
  obtain ⟨fs, hO⟩ := hC.ob
  refine x_aload_n C dL_law_294 (kk := ?_)
  refine x_aload_n C dL_law_295 (kk := ?_)
  refine x_iload_n C dL_law_296 (kk := ?_)
  refine x_iconst C dL_law_297 (v := 1) (kk := ?_)
  refine x_iadd C dL_law_298 ?_
  refine x_top _ (nI_add (5 * j) 1) ?_
  refine x_sld C (5 * j + 1) hX hbl hbs hn dL_law_299 (by omega) (kk := ?_)
  refine x_callV C ml_X8_zero lk_L_41 (c_zero l G (xs (5 * j + 1)) hC) dL_law_300 (fun r1 h1 hp1 => ?_) (hh := hO) (hR := ⟨⟨Nat.le_of_ble_eq_true rfl, Nat.le_of_ble_eq_true rfl⟩, by show 68 + 3 * j + 0 ≤ 600000; omega, by show 12732 + 602 * j + 0 ≤ 7302250; omega⟩)
  obtain ⟨rfl, hC1, hF1⟩ := hp1
  have hM1 := hM.fc hF1
  obtain ⟨fs1, hO1⟩ := hM1.ob
  refine x_aload_n C dL_law_303 (kk := ?_)
  refine x_aload_n C dL_law_304 (kk := ?_)
  refine x_iload_n C dL_law_305 (kk := ?_)
  refine x_iconst C dL_law_306 (v := 1) (kk := ?_)
  refine x_iadd C dL_law_307 ?_
  refine x_top _ (nI_add (5 * j) 1) ?_
  refine x_sld C (5 * j + 1) hX hbl hbs hn dL_law_308 (by omega) (kk := ?_)
  refine x_callV C ml_X9_zero lk_L_44 (m_zero l G (xs (5 * j + 1)) hM1) dL_law_309 (fun r2 h2 hp2 => ?_) (hh := hO1) (hR := ⟨⟨Nat.le_of_ble_eq_true rfl, Nat.le_of_ble_eq_true rfl⟩, by show 68 + 3 * j + 0 + 0 ≤ 600000; omega, by show 12732 + 602 * j + 0 + 0 ≤ 7302250; omega⟩)
  obtain ⟨rfl, hM2, hf2⟩ := hp2
  refine x_icmp_eq C dL_law_312 698 (fun _ => ?_) (fun z => absurd rfl z)
  exact x_wd C (by show 68 + 3 * j + 0 + 0 ≤ _; omega) (by show 12732 + 602 * j + 0 + 0 ≤ _; omega) (kk _ _ (hC1.mf hf2) hM2)
set_option maxRecDepth 100000 in
set_option maxHeartbeats 4000000 in
theorem law_7 (C : Cx p s m args meth c G RL code 4 ret) {b n x j : Nat} {xs : Nat → Int32} {a : Ab} (hX : va_X b n xs s s.heap) (hbl : b < s.heap.size) (hbs : b < bs) (hj : 5 * j + 5 ≤ n) (hn : n ≤ 2560) (hC : Cs G h x (x + 68) a) (hM : Ms G h (x + 35) a) (kk : ∀ (h' : xh) (a' : Ab), Cs G h' x (x + 68) a' → Ms G h' (x + 35) a' → X p l e room_1 s m args below meth c G bs Q (68 + 3 * (j + 1)) (12732 + 602 * (j + 1)) 698 [some (.ref b), some (.ref x), some (.ref (x + 35)), some (.int (nI (5 * j)))] [] h') : X p l e room_1 s m args below meth c G bs Q (68 + 3 * j) (12732 + 602 * j) 317 [some (.ref b), some (.ref x), some (.ref (x + 35)), some (.int (nI (5 * j)))] [] h := by
  obtain ⟨u, km, src, lat, ⟨fo, pa, ze, ra, sr⟩, ch⟩ := a
  obtain ⟨fs, hO⟩ := hC.ob
  refine x_aload_n C dL_law_317 (kk := ?_)
  refine x_aload_n C dL_law_318 (kk := ?_)
  refine x_iload_n C dL_law_319 (kk := ?_)
  refine x_iconst C dL_law_320 (v := 1) (kk := ?_)
  refine x_iadd C dL_law_321 ?_
  refine x_top _ (nI_add (5 * j) 1) ?_
  refine x_sld C (5 * j + 1) hX hbl hbs hn dL_law_322 (by omega) (kk := ?_)
  refine x_aload_n C dL_law_323 (kk := ?_)
  refine x_iload_n C dL_law_324 (kk := ?_)
  refine x_iconst C dL_law_325 (v := 2) (kk := ?_)
  refine x_iadd C dL_law_326 ?_
  refine x_top _ (nI_add (5 * j) 2) ?_
  refine x_sld C (5 * j + 2) hX hbl hbs hn dL_law_327 (by omega) (kk := ?_)
  refine x_callV C ml_X8_range lk_L_45 (c_range l G (xs (5 * j + 1)) (xs (5 * j + 2)) hC) dL_law_328 (fun r1 h1 hp1 => ?_) (hh := hO) (hR := ⟨⟨Nat.le_of_ble_eq_true rfl, Nat.le_of_ble_eq_true rfl⟩, by show 68 + 3 * j + 0 ≤ 600000; omega, by show 12732 + 602 * j + 0 ≤ 7302250; omega⟩)
  obtain ⟨rfl, hC1, hF1⟩ := hp1
  have hM1 := hM.fc hF1
  obtain ⟨fs1, hO1⟩ := hM1.ob
  refine x_aload_n C dL_law_331 (kk := ?_)
  refine x_aload_n C dL_law_332 (kk := ?_)
  refine x_iload_n C dL_law_333 (kk := ?_)
  refine x_iconst C dL_law_334 (v := 1) (kk := ?_)
  refine x_iadd C dL_law_335 ?_
  refine x_top _ (nI_add (5 * j) 1) ?_
  refine x_sld C (5 * j + 1) hX hbl hbs hn dL_law_336 (by omega) (kk := ?_)
  refine x_aload_n C dL_law_337 (kk := ?_)
  refine x_iload_n C dL_law_338 (kk := ?_)
  refine x_iconst C dL_law_339 (v := 2) (kk := ?_)
  refine x_iadd C dL_law_340 ?_
  refine x_top _ (nI_add (5 * j) 2) ?_
  refine x_sld C (5 * j + 2) hX hbl hbs hn dL_law_341 (by omega) (kk := ?_)
  refine x_callV C ml_X9_range lk_L_49 (m_range l G (xs (5 * j + 1)) (xs (5 * j + 2)) hM1) dL_law_342 (fun r2 h2 hp2 => ?_) (hh := hO1) (hR := ⟨⟨Nat.le_of_ble_eq_true rfl, Nat.le_of_ble_eq_true rfl⟩, by show 68 + 3 * j + 0 + 0 ≤ 600000; omega, by show 12732 + 602 * j + 0 + 0 ≤ 7302250; omega⟩)
  obtain ⟨rfl, hM2, hf2⟩ := hp2
  refine x_icmp_eq C dL_law_345 698 (fun _ => ?_) (fun z => absurd rfl z)
  exact x_wd C (by show 68 + 3 * j + 0 + 0 ≤ _; omega) (by show 12732 + 602 * j + 0 + 0 ≤ _; omega) (kk _ _ (hC1.mf hf2) hM2)
set_option maxRecDepth 100000 in
set_option maxHeartbeats 4000000 in
theorem law_8 (C : Cx p s m args meth c G RL code 4 ret) {b n x j : Nat} {xs : Nat → Int32} {a : Ab} (hX : va_X b n xs s s.heap) (hbl : b < s.heap.size) (hbs : b < bs) (hj : 5 * j + 5 ≤ n) (hn : n ≤ 2560) (hC : Cs G h x (x + 68) a) (hM : Ms G h (x + 35) a) (kk : ∀ (h' : xh) (a' : Ab), Cs G h' x (x + 68) a' → Ms G h' (x + 35) a' → X p l e room_1 s m args below meth c G bs Q (68 + 3 * (j + 1)) (12732 + 602 * (j + 1)) 698 [some (.ref b), some (.ref x), some (.ref (x + 35)), some (.int (nI (5 * j)))] [] h') : X p l e room_1 s m args below meth c G bs Q (68 + 3 * j) (12732 + 602 * j) 350 [some (.ref b), some (.ref x), some (.ref (x + 35)), some (.int (nI (5 * j)))] [] h := by
  obtain ⟨u, km, src, lat, ⟨fo, pa, ze, ra, sr⟩, ch⟩ := a
  obtain ⟨fs, hO⟩ := hC.ob
  refine x_aload_n C dL_law_350 (kk := ?_)
  refine x_aload_n C dL_law_351 (kk := ?_)
  refine x_iload_n C dL_law_352 (kk := ?_)
  refine x_iconst C dL_law_353 (v := 1) (kk := ?_)
  refine x_iadd C dL_law_354 ?_
  refine x_top _ (nI_add (5 * j) 1) ?_
  refine x_sld C (5 * j + 1) hX hbl hbs hn dL_law_355 (by omega) (kk := ?_)
  refine x_aload_n C dL_law_356 (kk := ?_)
  refine x_iload_n C dL_law_357 (kk := ?_)
  refine x_iconst C dL_law_358 (v := 2) (kk := ?_)
  refine x_iadd C dL_law_359 ?_
  refine x_top _ (nI_add (5 * j) 2) ?_
  refine x_sld C (5 * j + 2) hX hbl hbs hn dL_law_360 (by omega) (kk := ?_)
  refine x_callV C ml_X8_filter lk_L_50 (c_filter l G (xs (5 * j + 1)) (xs (5 * j + 2)) hC) dL_law_361 (fun r1 h1 hp1 => ?_) (hh := hO) (hR := ⟨⟨Nat.le_of_ble_eq_true rfl, Nat.le_of_ble_eq_true rfl⟩, by show 68 + 3 * j + 1 ≤ 600000; omega, by show 12732 + 602 * j + 6 ≤ 7302250; omega⟩)
  obtain ⟨rfl, hC1, hF1⟩ := hp1
  have hM1 := hM.fc hF1
  obtain ⟨fs1, hO1⟩ := hM1.ob
  refine x_aload_n C dL_law_364 (kk := ?_)
  refine x_aload_n C dL_law_365 (kk := ?_)
  refine x_iload_n C dL_law_366 (kk := ?_)
  refine x_iconst C dL_law_367 (v := 1) (kk := ?_)
  refine x_iadd C dL_law_368 ?_
  refine x_top _ (nI_add (5 * j) 1) ?_
  refine x_sld C (5 * j + 1) hX hbl hbs hn dL_law_369 (by omega) (kk := ?_)
  refine x_aload_n C dL_law_370 (kk := ?_)
  refine x_iload_n C dL_law_371 (kk := ?_)
  refine x_iconst C dL_law_372 (v := 2) (kk := ?_)
  refine x_iadd C dL_law_373 ?_
  refine x_top _ (nI_add (5 * j) 2) ?_
  refine x_sld C (5 * j + 2) hX hbl hbs hn dL_law_374 (by omega) (kk := ?_)
  refine x_callV C ml_X9_filter lk_L_53 (m_filter l G (xs (5 * j + 1)) (xs (5 * j + 2)) hM1) dL_law_375 (fun r2 h2 hp2 => ?_) (hh := hO1) (hR := ⟨⟨Nat.le_of_ble_eq_true rfl, Nat.le_of_ble_eq_true rfl⟩, by show 68 + 3 * j + 1 + 0 ≤ 600000; omega, by show 12732 + 602 * j + 6 + 0 ≤ 7302250; omega⟩)
  obtain ⟨rfl, hM2, hf2⟩ := hp2
  refine x_icmp_eq C dL_law_378 698 (fun _ => ?_) (fun z => absurd rfl z)
  exact x_wd C (by show 68 + 3 * j + 1 + 0 ≤ _; omega) (by show 12732 + 602 * j + 6 + 0 ≤ _; omega) (kk _ _ (hC1.mf hf2) hM2)
set_option maxRecDepth 100000 in
set_option maxHeartbeats 4000000 in
theorem law_9 (C : Cx p s m args meth c G RL code 4 ret) {b n x j : Nat} {xs : Nat → Int32} {a : Ab} (hX : va_X b n xs s s.heap) (hbl : b < s.heap.size) (hbs : b < bs) (hj : 5 * j + 5 ≤ n) (hn : n ≤ 2560) (hC : Cs G h x (x + 68) a) (hM : Ms G h (x + 35) a) (kk : ∀ (h' : xh) (a' : Ab), Cs G h' x (x + 68) a' → Ms G h' (x + 35) a' → X p l e room_1 s m args below meth c G bs Q (68 + 3 * (j + 1)) (12732 + 602 * (j + 1)) 698 [some (.ref b), some (.ref x), some (.ref (x + 35)), some (.int (nI (5 * j)))] [] h') : X p l e room_1 s m args below meth c G bs Q (68 + 3 * j) (12732 + 602 * j) 383 [some (.ref b), some (.ref x), some (.ref (x + 35)), some (.int (nI (5 * j)))] [] h := by
  obtain ⟨u, km, src, lat, ⟨fo, pa, ze, ra, sr⟩, ch⟩ := a
  obtain ⟨fs, hO⟩ := hC.ob
  refine x_aload_n C dL_law_383 (kk := ?_)
  refine x_aload_n C dL_law_384 (kk := ?_)
  refine x_iload_n C dL_law_385 (kk := ?_)
  refine x_iconst C dL_law_386 (v := 1) (kk := ?_)
  refine x_iadd C dL_law_387 ?_
  refine x_top _ (nI_add (5 * j) 1) ?_
  refine x_sld C (5 * j + 1) hX hbl hbs hn dL_law_388 (by omega) (kk := ?_)
  refine x_callV C ml_X8_drop lk_L_54 (c_drop l G (xs (5 * j + 1)) hC) dL_law_389 (fun r1 h1 hp1 => ?_) (hh := hO) (hR := ⟨⟨Nat.le_of_ble_eq_true rfl, Nat.le_of_ble_eq_true rfl⟩, by show 68 + 3 * j + 0 ≤ 600000; omega, by show 12732 + 602 * j + 0 ≤ 7302250; omega⟩)
  obtain ⟨rfl, hC1, hF1⟩ := hp1
  have hM1 := hM.fc hF1
  obtain ⟨fs1, hO1⟩ := hM1.ob
  refine x_aload_n C dL_law_392 (kk := ?_)
  refine x_aload_n C dL_law_393 (kk := ?_)
  refine x_iload_n C dL_law_394 (kk := ?_)
  refine x_iconst C dL_law_395 (v := 1) (kk := ?_)
  refine x_iadd C dL_law_396 ?_
  refine x_top _ (nI_add (5 * j) 1) ?_
  refine x_sld C (5 * j + 1) hX hbl hbs hn dL_law_397 (by omega) (kk := ?_)
  refine x_callV C ml_X9_drop lk_L_57 (m_drop l G (xs (5 * j + 1)) hM1) dL_law_398 (fun r2 h2 hp2 => ?_) (hh := hO1) (hR := ⟨⟨Nat.le_of_ble_eq_true rfl, Nat.le_of_ble_eq_true rfl⟩, by show 68 + 3 * j + 0 + 0 ≤ 600000; omega, by show 12732 + 602 * j + 0 + 0 ≤ 7302250; omega⟩)
  obtain ⟨rfl, hM2, hf2⟩ := hp2
  refine x_icmp_eq C dL_law_401 698 (fun _ => ?_) (fun z => absurd rfl z)
  exact x_wd C (by show 68 + 3 * j + 0 + 0 ≤ _; omega) (by show 12732 + 602 * j + 0 + 0 ≤ _; omega) (kk _ _ (hC1.mf hf2) hM2)
set_option maxRecDepth 100000 in
set_option maxHeartbeats 4000000 in
theorem law_10 (C : Cx p s m args meth c G RL code 4 ret) {b n x j : Nat} {xs : Nat → Int32} {a : Ab} (hX : va_X b n xs s s.heap) (hbl : b < s.heap.size) (hbs : b < bs) (hj : 5 * j + 5 ≤ n) (hn : n ≤ 2560) (hC : Cs G h x (x + 68) a) (hM : Ms G h (x + 35) a) (kk : ∀ (h' : xh) (a' : Ab), Cs G h' x (x + 68) a' → Ms G h' (x + 35) a' → X p l e room_1 s m args below meth c G bs Q (68 + 3 * (j + 1)) (12732 + 602 * (j + 1)) 698 [some (.ref b), some (.ref x), some (.ref (x + 35)), some (.int (nI (5 * j)))] [] h') : X p l e room_1 s m args below meth c G bs Q (68 + 3 * j) (12732 + 602 * j) 406 [some (.ref b), some (.ref x), some (.ref (x + 35)), some (.int (nI (5 * j)))] [] h := by
  obtain ⟨u, km, src, lat, ⟨fo, pa, ze, ra, sr⟩, ch⟩ := a
  obtain ⟨fs, hO⟩ := hC.ob
  refine x_aload_n C dL_law_406 (kk := ?_)
  refine x_aload_n C dL_law_407 (kk := ?_)
  refine x_iload_n C dL_law_408 (kk := ?_)
  refine x_iconst C dL_law_409 (v := 1) (kk := ?_)
  refine x_iadd C dL_law_410 ?_
  refine x_top _ (nI_add (5 * j) 1) ?_
  refine x_sld C (5 * j + 1) hX hbl hbs hn dL_law_411 (by omega) (kk := ?_)
  refine x_aload_n C dL_law_412 (kk := ?_)
  refine x_iload_n C dL_law_413 (kk := ?_)
  refine x_iconst C dL_law_414 (v := 2) (kk := ?_)
  refine x_iadd C dL_law_415 ?_
  refine x_top _ (nI_add (5 * j) 2) ?_
  refine x_sld C (5 * j + 2) hX hbl hbs hn dL_law_416 (by omega) (kk := ?_)
  refine x_callV C ml_X8_rule lk_L_58 (c_rule l G (xs (5 * j + 1)) (xs (5 * j + 2)) hC) dL_law_417 (fun r1 h1 hp1 => ?_) (hh := hO) (hR := ⟨⟨Nat.le_of_ble_eq_true rfl, Nat.le_of_ble_eq_true rfl⟩, by show 68 + 3 * j + 0 ≤ 600000; omega, by show 12732 + 602 * j + 0 ≤ 7302250; omega⟩)
  obtain ⟨rfl, hC1, hF1⟩ := hp1
  have hM1 := hM.fc hF1
  obtain ⟨fs1, hO1⟩ := hM1.ob
  refine x_aload_n C dL_law_420 (kk := ?_)
  refine x_aload_n C dL_law_421 (kk := ?_)
  refine x_iload_n C dL_law_422 (kk := ?_)
  refine x_iconst C dL_law_423 (v := 1) (kk := ?_)
  refine x_iadd C dL_law_424 ?_
  refine x_top _ (nI_add (5 * j) 1) ?_
  refine x_sld C (5 * j + 1) hX hbl hbs hn dL_law_425 (by omega) (kk := ?_)
  refine x_aload_n C dL_law_426 (kk := ?_)
  refine x_iload_n C dL_law_427 (kk := ?_)
  refine x_iconst C dL_law_428 (v := 2) (kk := ?_)
  refine x_iadd C dL_law_429 ?_
  refine x_top _ (nI_add (5 * j) 2) ?_
  refine x_sld C (5 * j + 2) hX hbl hbs hn dL_law_430 (by omega) (kk := ?_)
  refine x_callV C ml_X9_rule lk_L_61 (m_rule l G (xs (5 * j + 1)) (xs (5 * j + 2)) hM1) dL_law_431 (fun r2 h2 hp2 => ?_) (hh := hO1) (hR := ⟨⟨Nat.le_of_ble_eq_true rfl, Nat.le_of_ble_eq_true rfl⟩, by show 68 + 3 * j + 0 + 0 ≤ 600000; omega, by show 12732 + 602 * j + 0 + 0 ≤ 7302250; omega⟩)
  obtain ⟨rfl, hM2, hf2⟩ := hp2
  refine x_icmp_eq C dL_law_434 698 (fun _ => ?_) (fun z => absurd rfl z)
  exact x_wd C (by show 68 + 3 * j + 0 + 0 ≤ _; omega) (by show 12732 + 602 * j + 0 + 0 ≤ _; omega) (kk _ _ (hC1.mf hf2) hM2)
set_option maxRecDepth 100000 in
set_option maxHeartbeats 4000000 in
theorem law_11 (C : Cx p s m args meth c G RL code 4 ret) {b n x j : Nat} {xs : Nat → Int32} {a : Ab} (hX : va_X b n xs s s.heap) (hbl : b < s.heap.size) (hbs : b < bs) (hj : 5 * j + 5 ≤ n) (hn : n ≤ 2560) (hC : Cs G h x (x + 68) a) (hM : Ms G h (x + 35) a) (kk : ∀ (h' : xh) (a' : Ab), Cs G h' x (x + 68) a' → Ms G h' (x + 35) a' → X p l e room_1 s m args below meth c G bs Q (68 + 3 * (j + 1)) (12732 + 602 * (j + 1)) 698 [some (.ref b), some (.ref x), some (.ref (x + 35)), some (.int (nI (5 * j)))] [] h') : X p l e room_1 s m args below meth c G bs Q (68 + 3 * j) (12732 + 602 * j) 439 [some (.ref b), some (.ref x), some (.ref (x + 35)), some (.int (nI (5 * j)))] [] h := by
  obtain ⟨u, km, src, lat, ⟨fo, pa, ze, ra, sr⟩, ch⟩ := a
  obtain ⟨fs, hO⟩ := hC.ob
  refine x_aload_n C dL_law_439 (kk := ?_)
  refine x_callV C ml_X8_run lk_L_62 (c_run l G hC) dL_law_440 (fun r1 h1 hp1 => ?_) (hh := hO) (hR := ⟨⟨Nat.le_of_ble_eq_true rfl, Nat.le_of_ble_eq_true rfl⟩, by show 68 + 3 * j + 0 ≤ 600000; omega, by show 12732 + 602 * j + 0 ≤ 7302250; omega⟩)
  obtain ⟨rfl, hC1, hF1⟩ := hp1
  have hM1 := hM.fc hF1
  obtain ⟨fs1, hO1⟩ := hM1.ob
  refine x_aload_n C dL_law_443 (kk := ?_)
  refine x_callV C ml_X9_run lk_L_65 (m_run l G hM1) dL_law_444 (fun r2 h2 hp2 => ?_) (hh := hO1) (hR := ⟨⟨Nat.le_of_ble_eq_true rfl, Nat.le_of_ble_eq_true rfl⟩, by show 68 + 3 * j + 0 + 0 ≤ 600000; omega, by show 12732 + 602 * j + 0 + 0 ≤ 7302250; omega⟩)
  obtain ⟨rfl, hM2, hf2⟩ := hp2
  refine x_icmp_eq C dL_law_447 698 (fun _ => ?_) (fun z => absurd rfl z)
  exact x_wd C (by show 68 + 3 * j + 0 + 0 ≤ _; omega) (by show 12732 + 602 * j + 0 + 0 ≤ _; omega) (kk _ _ (hC1.mf hf2) hM2)
set_option maxRecDepth 100000 in
set_option maxHeartbeats 4000000 in
theorem law_12 (C : Cx p s m args meth c G RL code 4 ret) {b n x j : Nat} {xs : Nat → Int32} {a : Ab} (hX : va_X b n xs s s.heap) (hbl : b < s.heap.size) (hbs : b < bs) (hj : 5 * j + 5 ≤ n) (hn : n ≤ 2560) (hC : Cs G h x (x + 68) a) (hM : Ms G h (x + 35) a) (kk : ∀ (h' : xh) (a' : Ab), Cs G h' x (x + 68) a' → Ms G h' (x + 35) a' → X p l e room_1 s m args below meth c G bs Q (68 + 3 * (j + 1)) (12732 + 602 * (j + 1)) 698 [some (.ref b), some (.ref x), some (.ref (x + 35)), some (.int (nI (5 * j)))] [] h') : X p l e room_1 s m args below meth c G bs Q (68 + 3 * j) (12732 + 602 * j) 452 [some (.ref b), some (.ref x), some (.ref (x + 35)), some (.int (nI (5 * j)))] [] h := by
  obtain ⟨u, km, src, lat, ⟨fo, pa, ze, ra, sr⟩, ch⟩ := a
  obtain ⟨fs, hO⟩ := hC.ob
  refine x_aload_n C dL_law_452 (kk := ?_)
  refine x_aload_n C dL_law_453 (kk := ?_)
  refine x_iload_n C dL_law_454 (kk := ?_)
  refine x_iconst C dL_law_455 (v := 1) (kk := ?_)
  refine x_iadd C dL_law_456 ?_
  refine x_top _ (nI_add (5 * j) 1) ?_
  refine x_sld C (5 * j + 1) hX hbl hbs hn dL_law_457 (by omega) (kk := ?_)
  refine x_callV C ml_X8_sign lk_L_66 (c_sign l G (xs (5 * j + 1)) hC) dL_law_458 (fun r1 h1 hp1 => ?_) (hh := hO) (hR := ⟨⟨Nat.le_of_ble_eq_true rfl, Nat.le_of_ble_eq_true rfl⟩, by show 68 + 3 * j + 0 ≤ 600000; omega, by show 12732 + 602 * j + 0 ≤ 7302250; omega⟩)
  obtain ⟨rfl, hC1, hF1⟩ := hp1
  have hM1 := hM.fc hF1
  obtain ⟨fs1, hO1⟩ := hM1.ob
  refine x_aload_n C dL_law_461 (kk := ?_)
  refine x_aload_n C dL_law_462 (kk := ?_)
  refine x_iload_n C dL_law_463 (kk := ?_)
  refine x_iconst C dL_law_464 (v := 1) (kk := ?_)
  refine x_iadd C dL_law_465 ?_
  refine x_top _ (nI_add (5 * j) 1) ?_
  refine x_sld C (5 * j + 1) hX hbl hbs hn dL_law_466 (by omega) (kk := ?_)
  refine x_callV C ml_X9_sign lk_L_69 (m_sign l G (xs (5 * j + 1)) hM1) dL_law_467 (fun r2 h2 hp2 => ?_) (hh := hO1) (hR := ⟨⟨Nat.le_of_ble_eq_true rfl, Nat.le_of_ble_eq_true rfl⟩, by show 68 + 3 * j + 0 + 0 ≤ 600000; omega, by show 12732 + 602 * j + 0 + 0 ≤ 7302250; omega⟩)
  obtain ⟨rfl, hM2, hf2⟩ := hp2
  refine x_icmp_eq C dL_law_470 698 (fun _ => ?_) (fun z => absurd rfl z)
  exact x_wd C (by show 68 + 3 * j + 0 + 0 ≤ _; omega) (by show 12732 + 602 * j + 0 + 0 ≤ _; omega) (kk _ _ (hC1.mf hf2) hM2)
set_option maxRecDepth 100000 in
set_option maxHeartbeats 4000000 in
theorem law_13 (C : Cx p s m args meth c G RL code 4 ret) {b n x j : Nat} {xs : Nat → Int32} {a : Ab} (hX : va_X b n xs s s.heap) (hbl : b < s.heap.size) (hbs : b < bs) (hj : 5 * j + 5 ≤ n) (hn : n ≤ 2560) (hC : Cs G h x (x + 68) a) (hM : Ms G h (x + 35) a) (kk : ∀ (h' : xh) (a' : Ab), Cs G h' x (x + 68) a' → Ms G h' (x + 35) a' → X p l e room_1 s m args below meth c G bs Q (68 + 3 * (j + 1)) (12732 + 602 * (j + 1)) 698 [some (.ref b), some (.ref x), some (.ref (x + 35)), some (.int (nI (5 * j)))] [] h') : X p l e room_1 s m args below meth c G bs Q (68 + 3 * j) (12732 + 602 * j) 475 [some (.ref b), some (.ref x), some (.ref (x + 35)), some (.int (nI (5 * j)))] [] h := by
  obtain ⟨u, km, src, lat, ⟨fo, pa, ze, ra, sr⟩, ch⟩ := a
  obtain ⟨fs, hO⟩ := hC.ob
  refine x_aload_n C dL_law_475 (kk := ?_)
  refine x_aload_n C dL_law_476 (kk := ?_)
  refine x_iload_n C dL_law_477 (kk := ?_)
  refine x_iconst C dL_law_478 (v := 1) (kk := ?_)
  refine x_iadd C dL_law_479 ?_
  refine x_top _ (nI_add (5 * j) 1) ?_
  refine x_sld C (5 * j + 1) hX hbl hbs hn dL_law_480 (by omega) (kk := ?_)
  refine x_aload_n C dL_law_481 (kk := ?_)
  refine x_iload_n C dL_law_482 (kk := ?_)
  refine x_iconst C dL_law_483 (v := 2) (kk := ?_)
  refine x_iadd C dL_law_484 ?_
  refine x_top _ (nI_add (5 * j) 2) ?_
  refine x_sld C (5 * j + 2) hX hbl hbs hn dL_law_485 (by omega) (kk := ?_)
  refine x_if_eq C dL_law_486 493 (fun hz => ?_) (fun hz => ?_)
  · refine x_iconst C dL_law_493 (v := 0) (kk := ?_)
    refine x_callV C ml_X8_place lk_L_70 (c_place l G (xs (5 * j + 1)) 0 hC) dL_law_494 (fun r1 h1 hp1 => ?_) (hh := hO) (hR := ⟨⟨Nat.le_of_ble_eq_true rfl, Nat.le_of_ble_eq_true rfl⟩, by show 68 + 3 * j + 0 ≤ 600000; omega, by show 12732 + 602 * j + 0 ≤ 7302250; omega⟩)
    obtain ⟨rfl, hC1, hF1⟩ := hp1
    have hM1 := hM.fc hF1
    obtain ⟨fs1, hO1⟩ := hM1.ob
    refine x_aload_n C dL_law_497 (kk := ?_)
    refine x_aload_n C dL_law_498 (kk := ?_)
    refine x_iload_n C dL_law_499 (kk := ?_)
    refine x_iconst C dL_law_500 (v := 1) (kk := ?_)
    refine x_iadd C dL_law_501 ?_
    refine x_top _ (nI_add (5 * j) 1) ?_
    refine x_sld C (5 * j + 1) hX hbl hbs hn dL_law_502 (by omega) (kk := ?_)
    refine x_aload_n C dL_law_503 (kk := ?_)
    refine x_iload_n C dL_law_504 (kk := ?_)
    refine x_iconst C dL_law_505 (v := 2) (kk := ?_)
    refine x_iadd C dL_law_506 ?_
    refine x_top _ (nI_add (5 * j) 2) ?_
    refine x_sld C (5 * j + 2) hX hbl hbs hn dL_law_507 (by omega) (kk := ?_)
    refine x_if_eq C dL_law_508 515 (fun _ => ?_) (fun z => absurd hz z)
    refine x_iconst C dL_law_515 (v := 0) (kk := ?_)
    refine x_callV C ml_X9_place lk_L_74 (m_place l G (xs (5 * j + 1)) 0 hM1) dL_law_516 (fun r2 h2 hp2 => ?_) (hh := hO1) (hR := ⟨⟨Nat.le_of_ble_eq_true rfl, Nat.le_of_ble_eq_true rfl⟩, by show 68 + 3 * j + 0 + 0 ≤ 600000; omega, by show 12732 + 602 * j + 0 + 0 ≤ 7302250; omega⟩)
    obtain ⟨rfl, hM2, hf2⟩ := hp2
    refine x_icmp_eq C dL_law_519 698 (fun _ => ?_) (fun z => absurd rfl z)
    exact x_wd C (by show 68 + 3 * j + 0 + 0 ≤ _; omega) (by show 12732 + 602 * j + 0 + 0 ≤ _; omega) (kk _ _ (hC1.mf hf2) hM2)
  · refine x_iconst C dL_law_489 (v := 1) (kk := ?_)
    refine x_goto C dL_law_490 494 ?_
    refine x_callV C ml_X8_place lk_L_70 (c_place l G (xs (5 * j + 1)) 1 hC) dL_law_494 (fun r1 h1 hp1 => ?_) (hh := hO) (hR := ⟨⟨Nat.le_of_ble_eq_true rfl, Nat.le_of_ble_eq_true rfl⟩, by show 68 + 3 * j + 0 ≤ 600000; omega, by show 12732 + 602 * j + 0 ≤ 7302250; omega⟩)
    obtain ⟨rfl, hC1, hF1⟩ := hp1
    have hM1 := hM.fc hF1
    obtain ⟨fs1, hO1⟩ := hM1.ob
    refine x_aload_n C dL_law_497 (kk := ?_)
    refine x_aload_n C dL_law_498 (kk := ?_)
    refine x_iload_n C dL_law_499 (kk := ?_)
    refine x_iconst C dL_law_500 (v := 1) (kk := ?_)
    refine x_iadd C dL_law_501 ?_
    refine x_top _ (nI_add (5 * j) 1) ?_
    refine x_sld C (5 * j + 1) hX hbl hbs hn dL_law_502 (by omega) (kk := ?_)
    refine x_aload_n C dL_law_503 (kk := ?_)
    refine x_iload_n C dL_law_504 (kk := ?_)
    refine x_iconst C dL_law_505 (v := 2) (kk := ?_)
    refine x_iadd C dL_law_506 ?_
    refine x_top _ (nI_add (5 * j) 2) ?_
    refine x_sld C (5 * j + 2) hX hbl hbs hn dL_law_507 (by omega) (kk := ?_)
    refine x_if_eq C dL_law_508 515 (fun z => absurd z hz) (fun _ => ?_)
    refine x_iconst C dL_law_511 (v := 1) (kk := ?_)
    refine x_goto C dL_law_512 516 ?_
    refine x_callV C ml_X9_place lk_L_74 (m_place l G (xs (5 * j + 1)) 1 hM1) dL_law_516 (fun r2 h2 hp2 => ?_) (hh := hO1) (hR := ⟨⟨Nat.le_of_ble_eq_true rfl, Nat.le_of_ble_eq_true rfl⟩, by show 68 + 3 * j + 0 + 0 ≤ 600000; omega, by show 12732 + 602 * j + 0 + 0 ≤ 7302250; omega⟩)
    obtain ⟨rfl, hM2, hf2⟩ := hp2
    refine x_icmp_eq C dL_law_519 698 (fun _ => ?_) (fun z => absurd rfl z)
    exact x_wd C (by show 68 + 3 * j + 0 + 0 ≤ _; omega) (by show 12732 + 602 * j + 0 + 0 ≤ _; omega) (kk _ _ (hC1.mf hf2) hM2)
set_option maxRecDepth 100000 in
set_option maxHeartbeats 4000000 in
theorem law_14 (C : Cx p s m args meth c G RL code 4 ret) {b n x j : Nat} {xs : Nat → Int32} {a : Ab} (hX : va_X b n xs s s.heap) (hbl : b < s.heap.size) (hbs : b < bs) (hj : 5 * j + 5 ≤ n) (hn : n ≤ 2560) (hC : Cs G h x (x + 68) a) (hM : Ms G h (x + 35) a) (kk : ∀ (h' : xh) (a' : Ab), Cs G h' x (x + 68) a' → Ms G h' (x + 35) a' → X p l e room_1 s m args below meth c G bs Q (68 + 3 * (j + 1)) (12732 + 602 * (j + 1)) 698 [some (.ref b), some (.ref x), some (.ref (x + 35)), some (.int (nI (5 * j)))] [] h') : X p l e room_1 s m args below meth c G bs Q (68 + 3 * j) (12732 + 602 * j) 524 [some (.ref b), some (.ref x), some (.ref (x + 35)), some (.int (nI (5 * j)))] [] h := by
  obtain ⟨u, km, src, lat, ⟨fo, pa, ze, ra, sr⟩, ch⟩ := a
  obtain ⟨fs, hO⟩ := hC.ob
  refine x_aload_n C dL_law_524 (kk := ?_)
  refine x_aload_n C dL_law_525 (kk := ?_)
  refine x_iload_n C dL_law_526 (kk := ?_)
  refine x_iconst C dL_law_527 (v := 1) (kk := ?_)
  refine x_iadd C dL_law_528 ?_
  refine x_top _ (nI_add (5 * j) 1) ?_
  refine x_sld C (5 * j + 1) hX hbl hbs hn dL_law_529 (by omega) (kk := ?_)
  refine x_callV C ml_X8_unitAt lk_L_75 (c_unitAt l G (xs (5 * j + 1)) hC) dL_law_530 (fun r1 h1 hp1 => ?_) (hh := hO) (hR := ⟨⟨Nat.le_of_ble_eq_true rfl, Nat.le_of_ble_eq_true rfl⟩, by show 68 + 3 * j + 0 ≤ 600000; omega, by show 12732 + 602 * j + 0 ≤ 7302250; omega⟩)
  obtain ⟨rfl, hC1, hF1⟩ := hp1
  have hM1 := hM.fc hF1
  obtain ⟨fs1, hO1⟩ := hM1.ob
  refine x_aload_n C dL_law_533 (kk := ?_)
  refine x_aload_n C dL_law_534 (kk := ?_)
  refine x_iload_n C dL_law_535 (kk := ?_)
  refine x_iconst C dL_law_536 (v := 1) (kk := ?_)
  refine x_iadd C dL_law_537 ?_
  refine x_top _ (nI_add (5 * j) 1) ?_
  refine x_sld C (5 * j + 1) hX hbl hbs hn dL_law_538 (by omega) (kk := ?_)
  refine x_callV C ml_X9_unitAt lk_L_78 (m_unitAt l G (xs (5 * j + 1)) hM1) dL_law_539 (fun r2 h2 hp2 => ?_) (hh := hO1) (hR := ⟨⟨Nat.le_of_ble_eq_true rfl, Nat.le_of_ble_eq_true rfl⟩, by show 68 + 3 * j + 0 + 0 ≤ 600000; omega, by show 12732 + 602 * j + 0 + 0 ≤ 7302250; omega⟩)
  obtain ⟨rfl, hM2, hf2⟩ := hp2
  refine x_icmp_eq C dL_law_542 698 (fun _ => ?_) (fun z => absurd rfl z)
  exact x_wd C (by show 68 + 3 * j + 0 + 0 ≤ _; omega) (by show 12732 + 602 * j + 0 + 0 ≤ _; omega) (kk _ _ (hC1.mf hf2) hM2)
set_option maxRecDepth 100000 in
set_option maxHeartbeats 4000000 in
theorem law_15 (C : Cx p s m args meth c G RL code 4 ret) {b n x j : Nat} {xs : Nat → Int32} {a : Ab} (hX : va_X b n xs s s.heap) (hbl : b < s.heap.size) (hbs : b < bs) (hj : 5 * j + 5 ≤ n) (hn : n ≤ 2560) (hC : Cs G h x (x + 68) a) (hM : Ms G h (x + 35) a) (kk : ∀ (h' : xh) (a' : Ab), Cs G h' x (x + 68) a' → Ms G h' (x + 35) a' → X p l e room_1 s m args below meth c G bs Q (68 + 3 * (j + 1)) (12732 + 602 * (j + 1)) 698 [some (.ref b), some (.ref x), some (.ref (x + 35)), some (.int (nI (5 * j)))] [] h') : X p l e room_1 s m args below meth c G bs Q (68 + 3 * j) (12732 + 602 * j) 547 [some (.ref b), some (.ref x), some (.ref (x + 35)), some (.int (nI (5 * j)))] [] h := by
  obtain ⟨u, km, src, lat, ⟨fo, pa, ze, ra, sr⟩, ch⟩ := a
  obtain ⟨fs, hO⟩ := hC.ob
  refine x_aload_n C dL_law_547 (kk := ?_)
  refine x_callV C ml_X8_units lk_L_79 (c_units l G hC) dL_law_548 (fun r1 h1 hp1 => ?_) (hh := hO) (hR := ⟨⟨Nat.le_of_ble_eq_true rfl, Nat.le_of_ble_eq_true rfl⟩, by show 68 + 3 * j + 0 ≤ 600000; omega, by show 12732 + 602 * j + 0 ≤ 7302250; omega⟩)
  obtain ⟨rfl, hC1, hF1⟩ := hp1
  have hM1 := hM.fc hF1
  obtain ⟨fs1, hO1⟩ := hM1.ob
  refine x_aload_n C dL_law_551 (kk := ?_)
  refine x_callV C ml_X9_units lk_L_82 (m_units l G hM1) dL_law_552 (fun r2 h2 hp2 => ?_) (hh := hO1) (hR := ⟨⟨Nat.le_of_ble_eq_true rfl, Nat.le_of_ble_eq_true rfl⟩, by show 68 + 3 * j + 0 + 0 ≤ 600000; omega, by show 12732 + 602 * j + 0 + 0 ≤ 7302250; omega⟩)
  obtain ⟨rfl, hM2, hf2⟩ := hp2
  refine x_icmp_eq C dL_law_555 698 (fun _ => ?_) (fun z => absurd rfl z)
  exact x_wd C (by show 68 + 3 * j + 0 + 0 ≤ _; omega) (by show 12732 + 602 * j + 0 + 0 ≤ _; omega) (kk _ _ (hC1.mf hf2) hM2)
set_option maxRecDepth 100000 in
set_option maxHeartbeats 4000000 in
theorem law_16 (C : Cx p s m args meth c G RL code 4 ret) {b n x j : Nat} {xs : Nat → Int32} {a : Ab} (hX : va_X b n xs s s.heap) (hbl : b < s.heap.size) (hbs : b < bs) (hj : 5 * j + 5 ≤ n) (hn : n ≤ 2560) (hC : Cs G h x (x + 68) a) (hM : Ms G h (x + 35) a) (kk : ∀ (h' : xh) (a' : Ab), Cs G h' x (x + 68) a' → Ms G h' (x + 35) a' → X p l e room_1 s m args below meth c G bs Q (68 + 3 * (j + 1)) (12732 + 602 * (j + 1)) 698 [some (.ref b), some (.ref x), some (.ref (x + 35)), some (.int (nI (5 * j)))] [] h') : X p l e room_1 s m args below meth c G bs Q (68 + 3 * j) (12732 + 602 * j) 560 [some (.ref b), some (.ref x), some (.ref (x + 35)), some (.int (nI (5 * j)))] [] h := by
  obtain ⟨u, km, src, lat, ⟨fo, pa, ze, ra, sr⟩, ch⟩ := a
  obtain ⟨fs, hO⟩ := hC.ob
  refine x_aload_n C dL_law_560 (kk := ?_)
  refine x_aload_n C dL_law_561 (kk := ?_)
  refine x_iload_n C dL_law_562 (kk := ?_)
  refine x_iconst C dL_law_563 (v := 1) (kk := ?_)
  refine x_iadd C dL_law_564 ?_
  refine x_top _ (nI_add (5 * j) 1) ?_
  refine x_sld C (5 * j + 1) hX hbl hbs hn dL_law_565 (by omega) (kk := ?_)
  refine x_callV C ml_X8_broken lk_L_83 (c_broken l G (xs (5 * j + 1)) hC) dL_law_566 (fun r1 h1 hp1 => ?_) (hh := hO) (hR := ⟨⟨Nat.le_of_ble_eq_true rfl, Nat.le_of_ble_eq_true rfl⟩, by show 68 + 3 * j + 0 ≤ 600000; omega, by show 12732 + 602 * j + 0 ≤ 7302250; omega⟩)
  obtain ⟨rfl, hC1, hF1⟩ := hp1
  have hM1 := hM.fc hF1
  obtain ⟨fs1, hO1⟩ := hM1.ob
  refine x_aload_n C dL_law_569 (kk := ?_)
  refine x_aload_n C dL_law_570 (kk := ?_)
  refine x_iload_n C dL_law_571 (kk := ?_)
  refine x_iconst C dL_law_572 (v := 1) (kk := ?_)
  refine x_iadd C dL_law_573 ?_
  refine x_top _ (nI_add (5 * j) 1) ?_
  refine x_sld C (5 * j + 1) hX hbl hbs hn dL_law_574 (by omega) (kk := ?_)
  refine x_callV C ml_X9_broken lk_L_86 (m_broken l G (xs (5 * j + 1)) hM1) dL_law_575 (fun r2 h2 hp2 => ?_) (hh := hO1) (hR := ⟨⟨Nat.le_of_ble_eq_true rfl, Nat.le_of_ble_eq_true rfl⟩, by show 68 + 3 * j + 0 + 0 ≤ 600000; omega, by show 12732 + 602 * j + 0 + 0 ≤ 7302250; omega⟩)
  obtain ⟨rfl, hM2, hf2⟩ := hp2
  refine x_icmp_eq C dL_law_578 698 (fun _ => ?_) (fun z => absurd rfl z)
  exact x_wd C (by show 68 + 3 * j + 0 + 0 ≤ _; omega) (by show 12732 + 602 * j + 0 + 0 ≤ _; omega) (kk _ _ (hC1.mf hf2) hM2)
set_option maxRecDepth 100000 in
set_option maxHeartbeats 4000000 in
theorem law_17 (C : Cx p s m args meth c G RL code 4 ret) {b n x j : Nat} {xs : Nat → Int32} {a : Ab} (hX : va_X b n xs s s.heap) (hbl : b < s.heap.size) (hbs : b < bs) (hj : 5 * j + 5 ≤ n) (hn : n ≤ 2560) (hC : Cs G h x (x + 68) a) (hM : Ms G h (x + 35) a) (kk : ∀ (h' : xh) (a' : Ab), Cs G h' x (x + 68) a' → Ms G h' (x + 35) a' → X p l e room_1 s m args below meth c G bs Q (68 + 3 * (j + 1)) (12732 + 602 * (j + 1)) 698 [some (.ref b), some (.ref x), some (.ref (x + 35)), some (.int (nI (5 * j)))] [] h') : X p l e room_1 s m args below meth c G bs Q (68 + 3 * j) (12732 + 602 * j) 583 [some (.ref b), some (.ref x), some (.ref (x + 35)), some (.int (nI (5 * j)))] [] h := by
  obtain ⟨u, km, src, lat, ⟨fo, pa, ze, ra, sr⟩, ch⟩ := a
  obtain ⟨fs, hO⟩ := hC.ob
  refine x_aload_n C dL_law_583 (kk := ?_)
  refine x_aload_n C dL_law_584 (kk := ?_)
  refine x_iload_n C dL_law_585 (kk := ?_)
  refine x_iconst C dL_law_586 (v := 1) (kk := ?_)
  refine x_iadd C dL_law_587 ?_
  refine x_top _ (nI_add (5 * j) 1) ?_
  refine x_sld C (5 * j + 1) hX hbl hbs hn dL_law_588 (by omega) (kk := ?_)
  refine x_callV C ml_X8_met lk_L_87 (c_met l G (xs (5 * j + 1)) hC) dL_law_589 (fun r1 h1 hp1 => ?_) (hh := hO) (hR := ⟨⟨Nat.le_of_ble_eq_true rfl, Nat.le_of_ble_eq_true rfl⟩, by show 68 + 3 * j + 0 ≤ 600000; omega, by show 12732 + 602 * j + 0 ≤ 7302250; omega⟩)
  obtain ⟨rfl, hC1, hF1⟩ := hp1
  have hM1 := hM.fc hF1
  obtain ⟨fs1, hO1⟩ := hM1.ob
  refine x_aload_n C dL_law_592 (kk := ?_)
  refine x_aload_n C dL_law_593 (kk := ?_)
  refine x_iload_n C dL_law_594 (kk := ?_)
  refine x_iconst C dL_law_595 (v := 1) (kk := ?_)
  refine x_iadd C dL_law_596 ?_
  refine x_top _ (nI_add (5 * j) 1) ?_
  refine x_sld C (5 * j + 1) hX hbl hbs hn dL_law_597 (by omega) (kk := ?_)
  refine x_callV C ml_X9_met lk_L_90 (m_met l G (xs (5 * j + 1)) hM1) dL_law_598 (fun r2 h2 hp2 => ?_) (hh := hO1) (hR := ⟨⟨Nat.le_of_ble_eq_true rfl, Nat.le_of_ble_eq_true rfl⟩, by show 68 + 3 * j + 0 + 0 ≤ 600000; omega, by show 12732 + 602 * j + 0 + 0 ≤ 7302250; omega⟩)
  obtain ⟨rfl, hM2, hf2⟩ := hp2
  refine x_icmp_eq C dL_law_601 698 (fun _ => ?_) (fun z => absurd rfl z)
  exact x_wd C (by show 68 + 3 * j + 0 + 0 ≤ _; omega) (by show 12732 + 602 * j + 0 + 0 ≤ _; omega) (kk _ _ (hC1.mf hf2) hM2)
set_option maxRecDepth 100000 in
set_option maxHeartbeats 4000000 in
theorem law_18 (C : Cx p s m args meth c G RL code 4 ret) {b n x j : Nat} {xs : Nat → Int32} {a : Ab} (hX : va_X b n xs s s.heap) (hbl : b < s.heap.size) (hbs : b < bs) (hj : 5 * j + 5 ≤ n) (hn : n ≤ 2560) (hC : Cs G h x (x + 68) a) (hM : Ms G h (x + 35) a) (kk : ∀ (h' : xh) (a' : Ab), Cs G h' x (x + 68) a' → Ms G h' (x + 35) a' → X p l e room_1 s m args below meth c G bs Q (68 + 3 * (j + 1)) (12732 + 602 * (j + 1)) 698 [some (.ref b), some (.ref x), some (.ref (x + 35)), some (.int (nI (5 * j)))] [] h') : X p l e room_1 s m args below meth c G bs Q (68 + 3 * j) (12732 + 602 * j) 606 [some (.ref b), some (.ref x), some (.ref (x + 35)), some (.int (nI (5 * j)))] [] h := by
  obtain ⟨u, km, src, lat, ⟨fo, pa, ze, ra, sr⟩, ch⟩ := a
  obtain ⟨fs, hO⟩ := hC.ob
  refine x_aload_n C dL_law_606 (kk := ?_)
  refine x_aload_n C dL_law_607 (kk := ?_)
  refine x_iload_n C dL_law_608 (kk := ?_)
  refine x_iconst C dL_law_609 (v := 1) (kk := ?_)
  refine x_iadd C dL_law_610 ?_
  refine x_top _ (nI_add (5 * j) 1) ?_
  refine x_sld C (5 * j + 1) hX hbl hbs hn dL_law_611 (by omega) (kk := ?_)
  refine x_callV C ml_X8_grown lk_L_91 (c_grown l G (xs (5 * j + 1)) hC) dL_law_612 (fun r1 h1 hp1 => ?_) (hh := hO) (hR := ⟨⟨Nat.le_of_ble_eq_true rfl, Nat.le_of_ble_eq_true rfl⟩, by show 68 + 3 * j + 0 ≤ 600000; omega, by show 12732 + 602 * j + 0 ≤ 7302250; omega⟩)
  obtain ⟨rfl, hC1, hF1⟩ := hp1
  have hM1 := hM.fc hF1
  obtain ⟨fs1, hO1⟩ := hM1.ob
  refine x_aload_n C dL_law_615 (kk := ?_)
  refine x_aload_n C dL_law_616 (kk := ?_)
  refine x_iload_n C dL_law_617 (kk := ?_)
  refine x_iconst C dL_law_618 (v := 1) (kk := ?_)
  refine x_iadd C dL_law_619 ?_
  refine x_top _ (nI_add (5 * j) 1) ?_
  refine x_sld C (5 * j + 1) hX hbl hbs hn dL_law_620 (by omega) (kk := ?_)
  refine x_callV C ml_X9_grown lk_L_94 (m_grown l G (xs (5 * j + 1)) hM1) dL_law_621 (fun r2 h2 hp2 => ?_) (hh := hO1) (hR := ⟨⟨Nat.le_of_ble_eq_true rfl, Nat.le_of_ble_eq_true rfl⟩, by show 68 + 3 * j + 0 + 0 ≤ 600000; omega, by show 12732 + 602 * j + 0 + 0 ≤ 7302250; omega⟩)
  obtain ⟨rfl, hM2, hf2⟩ := hp2
  refine x_icmp_eq C dL_law_624 698 (fun _ => ?_) (fun z => absurd rfl z)
  exact x_wd C (by show 68 + 3 * j + 0 + 0 ≤ _; omega) (by show 12732 + 602 * j + 0 + 0 ≤ _; omega) (kk _ _ (hC1.mf hf2) hM2)
set_option maxRecDepth 100000 in
set_option maxHeartbeats 4000000 in
theorem law_19 (C : Cx p s m args meth c G RL code 4 ret) {b n x j : Nat} {xs : Nat → Int32} {a : Ab} (hX : va_X b n xs s s.heap) (hbl : b < s.heap.size) (hbs : b < bs) (hj : 5 * j + 5 ≤ n) (hn : n ≤ 2560) (hC : Cs G h x (x + 68) a) (hM : Ms G h (x + 35) a) (kk : ∀ (h' : xh) (a' : Ab), Cs G h' x (x + 68) a' → Ms G h' (x + 35) a' → X p l e room_1 s m args below meth c G bs Q (68 + 3 * (j + 1)) (12732 + 602 * (j + 1)) 698 [some (.ref b), some (.ref x), some (.ref (x + 35)), some (.int (nI (5 * j)))] [] h') : X p l e room_1 s m args below meth c G bs Q (68 + 3 * j) (12732 + 602 * j) 629 [some (.ref b), some (.ref x), some (.ref (x + 35)), some (.int (nI (5 * j)))] [] h := by
  obtain ⟨u, km, src, lat, ⟨fo, pa, ze, ra, sr⟩, ch⟩ := a
  obtain ⟨fs, hO⟩ := hC.ob
  refine x_aload_n C dL_law_629 (kk := ?_)
  refine x_aload_n C dL_law_630 (kk := ?_)
  refine x_iload_n C dL_law_631 (kk := ?_)
  refine x_iconst C dL_law_632 (v := 1) (kk := ?_)
  refine x_iadd C dL_law_633 ?_
  refine x_top _ (nI_add (5 * j) 1) ?_
  refine x_sld C (5 * j + 1) hX hbl hbs hn dL_law_634 (by omega) (kk := ?_)
  refine x_callV C ml_X8_table lk_L_95 (c_table l G (xs (5 * j + 1)) hC) dL_law_635 (fun r1 h1 hp1 => ?_) (hh := hO) (hR := ⟨⟨Nat.le_of_ble_eq_true rfl, Nat.le_of_ble_eq_true rfl⟩, by show 68 + 3 * j + 0 ≤ 600000; omega, by show 12732 + 602 * j + 0 ≤ 7302250; omega⟩)
  obtain ⟨rfl, hC1, hF1⟩ := hp1
  have hM1 := hM.fc hF1
  obtain ⟨fs1, hO1⟩ := hM1.ob
  refine x_aload_n C dL_law_638 (kk := ?_)
  refine x_aload_n C dL_law_639 (kk := ?_)
  refine x_iload_n C dL_law_640 (kk := ?_)
  refine x_iconst C dL_law_641 (v := 1) (kk := ?_)
  refine x_iadd C dL_law_642 ?_
  refine x_top _ (nI_add (5 * j) 1) ?_
  refine x_sld C (5 * j + 1) hX hbl hbs hn dL_law_643 (by omega) (kk := ?_)
  refine x_callV C ml_X9_table lk_L_98 (m_table l G (xs (5 * j + 1)) hM1) dL_law_644 (fun r2 h2 hp2 => ?_) (hh := hO1) (hR := ⟨⟨Nat.le_of_ble_eq_true rfl, Nat.le_of_ble_eq_true rfl⟩, by show 68 + 3 * j + 0 + 0 ≤ 600000; omega, by show 12732 + 602 * j + 0 + 0 ≤ 7302250; omega⟩)
  obtain ⟨rfl, hM2, hf2⟩ := hp2
  refine x_icmp_eq C dL_law_647 698 (fun _ => ?_) (fun z => absurd rfl z)
  exact x_wd C (by show 68 + 3 * j + 0 + 0 ≤ _; omega) (by show 12732 + 602 * j + 0 + 0 ≤ _; omega) (kk _ _ (hC1.mf hf2) hM2)
set_option maxRecDepth 100000 in
set_option maxHeartbeats 4000000 in
theorem law_20 (C : Cx p s m args meth c G RL code 4 ret) {b n x j : Nat} {xs : Nat → Int32} {a : Ab} (hX : va_X b n xs s s.heap) (hbl : b < s.heap.size) (hbs : b < bs) (hj : 5 * j + 5 ≤ n) (hn : n ≤ 2560) (hC : Cs G h x (x + 68) a) (hM : Ms G h (x + 35) a) (kk : ∀ (h' : xh) (a' : Ab), Cs G h' x (x + 68) a' → Ms G h' (x + 35) a' → X p l e room_1 s m args below meth c G bs Q (68 + 3 * (j + 1)) (12732 + 602 * (j + 1)) 698 [some (.ref b), some (.ref x), some (.ref (x + 35)), some (.int (nI (5 * j)))] [] h') : X p l e room_1 s m args below meth c G bs Q (68 + 3 * j) (12732 + 602 * j) 652 [some (.ref b), some (.ref x), some (.ref (x + 35)), some (.int (nI (5 * j)))] [] h := by
  obtain ⟨u, km, src, lat, ⟨fo, pa, ze, ra, sr⟩, ch⟩ := a
  obtain ⟨fs, hO⟩ := hC.ob
  refine x_aload_n C dL_law_652 (kk := ?_)
  refine x_aload_n C dL_law_653 (kk := ?_)
  refine x_iload_n C dL_law_654 (kk := ?_)
  refine x_iconst C dL_law_655 (v := 1) (kk := ?_)
  refine x_iadd C dL_law_656 ?_
  refine x_top _ (nI_add (5 * j) 1) ?_
  refine x_sld C (5 * j + 1) hX hbl hbs hn dL_law_657 (by omega) (kk := ?_)
  refine x_callV C ml_X8_digit lk_L_99 (c_digit l G (xs (5 * j + 1)) hC) dL_law_658 (fun r1 h1 hp1 => ?_) (hh := hO) (hR := ⟨⟨Nat.le_of_ble_eq_true rfl, Nat.le_of_ble_eq_true rfl⟩, by show 68 + 3 * j + 0 ≤ 600000; omega, by show 12732 + 602 * j + 0 ≤ 7302250; omega⟩)
  obtain ⟨rfl, hC1, hF1⟩ := hp1
  have hM1 := hM.fc hF1
  obtain ⟨fs1, hO1⟩ := hM1.ob
  refine x_aload_n C dL_law_661 (kk := ?_)
  refine x_aload_n C dL_law_662 (kk := ?_)
  refine x_iload_n C dL_law_663 (kk := ?_)
  refine x_iconst C dL_law_664 (v := 1) (kk := ?_)
  refine x_iadd C dL_law_665 ?_
  refine x_top _ (nI_add (5 * j) 1) ?_
  refine x_sld C (5 * j + 1) hX hbl hbs hn dL_law_666 (by omega) (kk := ?_)
  refine x_callV C ml_X9_digit lk_L_102 (m_digit l G (xs (5 * j + 1)) hM1) dL_law_667 (fun r2 h2 hp2 => ?_) (hh := hO1) (hR := ⟨⟨Nat.le_of_ble_eq_true rfl, Nat.le_of_ble_eq_true rfl⟩, by show 68 + 3 * j + 0 + 0 ≤ 600000; omega, by show 12732 + 602 * j + 0 + 0 ≤ 7302250; omega⟩)
  obtain ⟨rfl, hM2, hf2⟩ := hp2
  refine x_icmp_eq C dL_law_670 698 (fun _ => ?_) (fun z => absurd rfl z)
  exact x_wd C (by show 68 + 3 * j + 0 + 0 ≤ _; omega) (by show 12732 + 602 * j + 0 + 0 ≤ _; omega) (kk _ _ (hC1.mf hf2) hM2)
set_option maxRecDepth 100000 in
set_option maxHeartbeats 4000000 in
theorem law_21 (C : Cx p s m args meth c G RL code 4 ret) {b n x j : Nat} {xs : Nat → Int32} {a : Ab} (hX : va_X b n xs s s.heap) (hbl : b < s.heap.size) (hbs : b < bs) (hj : 5 * j + 5 ≤ n) (hn : n ≤ 2560) (hC : Cs G h x (x + 68) a) (hM : Ms G h (x + 35) a) (kk : ∀ (h' : xh) (a' : Ab), Cs G h' x (x + 68) a' → Ms G h' (x + 35) a' → X p l e room_1 s m args below meth c G bs Q (68 + 3 * (j + 1)) (12732 + 602 * (j + 1)) 698 [some (.ref b), some (.ref x), some (.ref (x + 35)), some (.int (nI (5 * j)))] [] h') : X p l e room_1 s m args below meth c G bs Q (68 + 3 * j) (12732 + 602 * j) 675 [some (.ref b), some (.ref x), some (.ref (x + 35)), some (.int (nI (5 * j)))] [] h := by
  obtain ⟨u, km, src, lat, ⟨fo, pa, ze, ra, sr⟩, ch⟩ := a
  obtain ⟨fs, hO⟩ := hC.ob
  refine x_aload_n C dL_law_675 (kk := ?_)
  refine x_aload_n C dL_law_676 (kk := ?_)
  refine x_iload_n C dL_law_677 (kk := ?_)
  refine x_iconst C dL_law_678 (v := 1) (kk := ?_)
  refine x_iadd C dL_law_679 ?_
  refine x_top _ (nI_add (5 * j) 1) ?_
  refine x_sld C (5 * j + 1) hX hbl hbs hn dL_law_680 (by omega) (kk := ?_)
  refine x_callV C ml_X8_count lk_L_103 (c_count l G (xs (5 * j + 1)) hC) dL_law_681 (fun r1 h1 hp1 => ?_) (hh := hO) (hR := ⟨⟨Nat.le_of_ble_eq_true rfl, Nat.le_of_ble_eq_true rfl⟩, by show 68 + 3 * j + 0 ≤ 600000; omega, by show 12732 + 602 * j + 0 ≤ 7302250; omega⟩)
  obtain ⟨rfl, hC1, hF1⟩ := hp1
  have hM1 := hM.fc hF1
  obtain ⟨fs1, hO1⟩ := hM1.ob
  refine x_aload_n C dL_law_684 (kk := ?_)
  refine x_aload_n C dL_law_685 (kk := ?_)
  refine x_iload_n C dL_law_686 (kk := ?_)
  refine x_iconst C dL_law_687 (v := 1) (kk := ?_)
  refine x_iadd C dL_law_688 ?_
  refine x_top _ (nI_add (5 * j) 1) ?_
  refine x_sld C (5 * j + 1) hX hbl hbs hn dL_law_689 (by omega) (kk := ?_)
  refine x_callV C ml_X9_count lk_L_106 (m_count l G (xs (5 * j + 1)) hM1) dL_law_690 (fun r2 h2 hp2 => ?_) (hh := hO1) (hR := ⟨⟨Nat.le_of_ble_eq_true rfl, Nat.le_of_ble_eq_true rfl⟩, by show 68 + 3 * j + 0 + 0 ≤ 600000; omega, by show 12732 + 602 * j + 0 + 0 ≤ 7302250; omega⟩)
  obtain ⟨rfl, hM2, hf2⟩ := hp2
  refine x_icmp_eq C dL_law_693 698 (fun _ => ?_) (fun z => absurd rfl z)
  exact x_wd C (by show 68 + 3 * j + 0 + 0 ≤ _; omega) (by show 12732 + 602 * j + 0 + 0 ≤ _; omega) (kk _ _ (hC1.mf hf2) hM2)
theorem law_sw (C : Cx p s m args meth c G RL code 4 ret) {b n x j : Nat} {xs : Nat → Int32} {a : Ab} (hX : va_X b n xs s s.heap) (hbl : b < s.heap.size) (hbs : b < bs) (hj : 5 * j + 5 ≤ n) (hn : n ≤ 2560) (hC : Cs G h x (x + 68) a) (hM : Ms G h (x + 35) a) (kk : ∀ (h' : xh) (a' : Ab), Cs G h' x (x + 68) a' → Ms G h' (x + 35) a' → X p l e room_1 s m args below meth c G bs Q (68 + 3 * (j + 1)) (12732 + 602 * (j + 1)) 698 [some (.ref b), some (.ref x), some (.ref (x + 35)), some (.int (nI (5 * j)))] [] h') : X p l e room_1 s m args below meth c G bs Q (68 + 3 * j) (12732 + 602 * j) 26 [some (.ref b), some (.ref x), some (.ref (x + 35)), some (.int (nI (5 * j)))] [] h := by
  refine x_aload_n C dL_law_26 (kk := ?_)
  refine x_iload_n C dL_law_27 (kk := ?_)
  refine x_sld C (5 * j) hX hbl hbs hn dL_law_28 (by omega) (kk := ?_)
  refine x_bipush C dL_law_29 (v := 31) (kk := ?_)
  refine x_iand C dL_law_31 ?_
  refine x_nm (fun _ => True) trivial (fun v _ => ?_)
  by_cases hr : 0 ≤ v.toInt ∧ v.toInt ≤ 21
  · obtain ⟨k, hk⟩ : ∃ k : Nat, v.toInt = (k : Int) := ⟨v.toInt.toNat, by omega⟩
    have hk2 : k ≤ 21 := by omega
    match k, hk, hk2 with
    | 0, hk, _ => exact x_tabI C 0 (off := 104) dL_law_32 136 (by rw [hk]; rfl) (by decide) rfl (law_0 C hX hbl hbs hj hn hC hM kk)
    | 1, hk, _ => exact x_tabI C 1 (off := 127) dL_law_32 159 (by rw [hk]; rfl) (by decide) rfl (law_1 C hX hbl hbs hj hn hC hM kk)
    | 2, hk, _ => exact x_tabI C 2 (off := 140) dL_law_32 172 (by rw [hk]; rfl) (by decide) rfl (law_2 C hX hbl hbs hj hn hC hM kk)
    | 3, hk, _ => exact x_tabI C 3 (off := 153) dL_law_32 185 (by rw [hk]; rfl) (by decide) rfl (law_3 C hX hbl hbs hj hn hC hM kk)
    | 4, hk, _ => exact x_tabI C 4 (off := 166) dL_law_32 198 (by rw [hk]; rfl) (by decide) rfl (law_4 C hX hbl hbs hj hn hC hM kk)
    | 5, hk, _ => exact x_tabI C 5 (off := 219) dL_law_32 251 (by rw [hk]; rfl) (by decide) rfl (law_5 C hX hbl hbs hj hn hC hM kk)
    | 6, hk, _ => exact x_tabI C 6 (off := 262) dL_law_32 294 (by rw [hk]; rfl) (by decide) rfl (law_6 C hX hbl hbs hj hn hC hM kk)
    | 7, hk, _ => exact x_tabI C 7 (off := 285) dL_law_32 317 (by rw [hk]; rfl) (by decide) rfl (law_7 C hX hbl hbs hj hn hC hM kk)
    | 8, hk, _ => exact x_tabI C 8 (off := 318) dL_law_32 350 (by rw [hk]; rfl) (by decide) rfl (law_8 C hX hbl hbs hj hn hC hM kk)
    | 9, hk, _ => exact x_tabI C 9 (off := 351) dL_law_32 383 (by rw [hk]; rfl) (by decide) rfl (law_9 C hX hbl hbs hj hn hC hM kk)
    | 10, hk, _ => exact x_tabI C 10 (off := 374) dL_law_32 406 (by rw [hk]; rfl) (by decide) rfl (law_10 C hX hbl hbs hj hn hC hM kk)
    | 11, hk, _ => exact x_tabI C 11 (off := 407) dL_law_32 439 (by rw [hk]; rfl) (by decide) rfl (law_11 C hX hbl hbs hj hn hC hM kk)
    | 12, hk, _ => exact x_tabI C 12 (off := 420) dL_law_32 452 (by rw [hk]; rfl) (by decide) rfl (law_12 C hX hbl hbs hj hn hC hM kk)
    | 13, hk, _ => exact x_tabI C 13 (off := 443) dL_law_32 475 (by rw [hk]; rfl) (by decide) rfl (law_13 C hX hbl hbs hj hn hC hM kk)
    | 14, hk, _ => exact x_tabI C 14 (off := 492) dL_law_32 524 (by rw [hk]; rfl) (by decide) rfl (law_14 C hX hbl hbs hj hn hC hM kk)
    | 15, hk, _ => exact x_tabI C 15 (off := 515) dL_law_32 547 (by rw [hk]; rfl) (by decide) rfl (law_15 C hX hbl hbs hj hn hC hM kk)
    | 16, hk, _ => exact x_tabI C 16 (off := 528) dL_law_32 560 (by rw [hk]; rfl) (by decide) rfl (law_16 C hX hbl hbs hj hn hC hM kk)
    | 17, hk, _ => exact x_tabI C 17 (off := 551) dL_law_32 583 (by rw [hk]; rfl) (by decide) rfl (law_17 C hX hbl hbs hj hn hC hM kk)
    | 18, hk, _ => exact x_tabI C 18 (off := 574) dL_law_32 606 (by rw [hk]; rfl) (by decide) rfl (law_18 C hX hbl hbs hj hn hC hM kk)
    | 19, hk, _ => exact x_tabI C 19 (off := 597) dL_law_32 629 (by rw [hk]; rfl) (by decide) rfl (law_19 C hX hbl hbs hj hn hC hM kk)
    | 20, hk, _ => exact x_tabI C 20 (off := 620) dL_law_32 652 (by rw [hk]; rfl) (by decide) rfl (law_20 C hX hbl hbs hj hn hC hM kk)
    | 21, hk, _ => exact x_tabI C 21 (off := 643) dL_law_32 675 (by rw [hk]; rfl) (by decide) rfl (law_21 C hX hbl hbs hj hn hC hM kk)
    | k + 22, _, h => exact absurd h (by omega)
  · exact x_tabO C dL_law_32 698 (by omega) (x_wd C (by omega) (by omega) (kk _ _ hC hM))
end XC
