theorem MW.fr {w w' : Wd} {o ns tn : Nat} {kp : Int32} {σ tx cm : Nat → Int32} (h : MW w o ns tn kp σ tx cm) (e : ∀ q, o ≤ q → q < o + 4 → w' q = w q) : MW w' o ns tn kp σ tx cm := ⟨(e _ (by omega) (by omega)).trans h.1, (e _ (by omega) (by omega)).trans h.2.1, (e _ (by omega) (by omega)).trans h.2.2.1, (e _ (by omega) (by omega)).trans h.2.2.2⟩
theorem CR_facts {w : Wd} {B ns tn : Nat} {σ tx : Nat → Int32} {k : Bool} (h : CR w B σ ns k tx tn) : ns ≤ 4 ∧ tn ≤ 60 ∧ WS σ ∧ (k = true → WS (cpS (rcS σ ns) 5 0 2848)) ∧ ∃ fs, w B = some (ob 7 fs) := by
  obtain ⟨nx, hh, gk, ⟨h1, h2, -, h4, h5, h6, -⟩, g1, g2⟩ := h
  refine ⟨h5.2.1, h2.2.2, h4.2.2.1, fun hk => h6.2.2.1.congr (fun q hq => ?_), _, h1⟩
  have e1 := cp_in (σ := rcS σ ns) (f := 5) (t := 0) hq
  rw [show 2848 * 0 + q = q by omega] at e1
  have h54 := h5.2.1
  rw [e1, rc_at h54 hq, if_neg (by unfold rcn; split <;> omega), if_neg (by omega), g2 hk q hq]
/-- the class's object at B, the reference's behind it, say the same -/
def LI (w : Wd) (B : Nat) (σ tx cm : Nat → Int32) (ns tn : Nat) (k : Bool) : Prop := CR w B σ ns k tx tn ∧ MW w (B + 1017) ns tn (b2i k) σ tx cm
section VLC
variable {b N : Nat} {xs : Nat → Int32} {w : Wd} {sz cells slots : Nat} {L : List (Option Value)} {stk : List Value} {pc : Nat}
variable {mi' : MI} {d' idx ci : Nat} {Po' : Option Value → Wd → Nat → Prop}
theorem l_c0 {a : Nat} {fs : List Value} (hco : MV mi' 0 ci) (hd : decode code pc = .ok (.invokevirtual idx, 3)) (hlink : Cond.methodLink RL idx mi'.1 ∈ lw_tb) (hE : Ev mi' d' (.ref a :: []) w sz 0 0 Po') (hb : w a = some (ob ci fs)) (hdd : d' ≤ 7) (hst : (stk.map fun v => v.category).sum ≤ 8) (hmc : cells ≤ 600000) (hms : slots ≤ 7302250) (k : ∀ r w' z, Po' r w' z → VL b N xs w' z cells slots L (r.toList ++ stk) (pc + 3)) : VL b N xs w sz cells slots L (.ref a :: stk) pc :=
  l_callVg (As := []) hco hd hlink hE hb rfl hdd hst hmc hms k
theorem l_c1 {a : Nat} {x0 : Value} {fs : List Value} (hco : MV mi' 1 ci) (hd : decode code pc = .ok (.invokevirtual idx, 3)) (hlink : Cond.methodLink RL idx mi'.1 ∈ lw_tb) (hE : Ev mi' d' (.ref a :: [x0]) w sz 0 0 Po') (hb : w a = some (ob ci fs)) (hdd : d' ≤ 7) (hst : (stk.map fun v => v.category).sum ≤ 8) (hmc : cells ≤ 600000) (hms : slots ≤ 7302250) (k : ∀ r w' z, Po' r w' z → VL b N xs w' z cells slots L (r.toList ++ stk) (pc + 3)) : VL b N xs w sz cells slots L (x0 :: .ref a :: stk) pc :=
  l_callVg (As := [x0]) hco hd hlink hE hb rfl hdd hst hmc hms k
theorem l_c2 {a : Nat} {x0 x1 : Value} {fs : List Value} (hco : MV mi' 2 ci) (hd : decode code pc = .ok (.invokevirtual idx, 3)) (hlink : Cond.methodLink RL idx mi'.1 ∈ lw_tb) (hE : Ev mi' d' (.ref a :: [x0, x1]) w sz 0 0 Po') (hb : w a = some (ob ci fs)) (hdd : d' ≤ 7) (hst : (stk.map fun v => v.category).sum ≤ 8) (hmc : cells ≤ 600000) (hms : slots ≤ 7302250) (k : ∀ r w' z, Po' r w' z → VL b N xs w' z cells slots L (r.toList ++ stk) (pc + 3)) : VL b N xs w sz cells slots L (x1 :: x0 :: .ref a :: stk) pc :=
  l_callVg (As := [x0, x1]) hco hd hlink hE hb rfl hdd hst hmc hms k
theorem l_c3 {a : Nat} {x0 x1 x2 : Value} {fs : List Value} (hco : MV mi' 3 ci) (hd : decode code pc = .ok (.invokevirtual idx, 3)) (hlink : Cond.methodLink RL idx mi'.1 ∈ lw_tb) (hE : Ev mi' d' (.ref a :: [x0, x1, x2]) w sz 0 0 Po') (hb : w a = some (ob ci fs)) (hdd : d' ≤ 7) (hst : (stk.map fun v => v.category).sum ≤ 8) (hmc : cells ≤ 600000) (hms : slots ≤ 7302250) (k : ∀ r w' z, Po' r w' z → VL b N xs w' z cells slots L (r.toList ++ stk) (pc + 3)) : VL b N xs w sz cells slots L (x2 :: x1 :: x0 :: .ref a :: stk) pc :=
  l_callVg (As := [x0, x1, x2]) hco hd hlink hE hb rfl hdd hst hmc hms k
end VLC
set_option maxHeartbeats 1000000 in
set_option maxRecDepth 100000 in
theorem l_case0 {b N B i cells slots : Nat} {xs : Nat → Int32} {w : Wd} {σ tx cm : Nat → Int32} {ns tn : Nat} {k : Bool} (hi : i + 4 ≤ N) (hN : N ≤ 2048) (hc : cells ≤ 600000) (hs : slots ≤ 7302250) (hI : LI w B σ tx cm ns tn k) (K : ∀ w' σ' tx' cm' ns' tn' k', LI w' B σ' tx' cm' ns' tn' k' → VL b N xs w' (B + 1021) cells slots [some (.ref b), some (.ref B), some (.ref (B + 1017)), some (.int (nI i))] [] 816) : VL b N xs w (B + 1021) cells slots [some (.ref b), some (.ref B), some (.ref (B + 1017)), some (.int (nI i))] [] 136 := by
  obtain ⟨hC, hM⟩ := hI
  have hf := CR_facts hC
  obtain ⟨fs, hB⟩ := hf.2.2.2.2
  refine l_aload_n dL_law_136 rfl ?_
  refine l_aload_n dL_law_137 rfl ?_
  refine l_iload_n dL_law_138 rfl ?_
  refine l_iconst (v := nI 1) dL_law_139 (by decide) ?_
  refine l_iadd dL_law_140 ?_
  refine l_sld (i + 1) dL_law_141 (nI_addN i 1) (by omega) (by omega) ?_
  refine l_aload_n dL_law_142 rfl ?_
  refine l_iload_n dL_law_143 rfl ?_
  refine l_iconst (v := nI 2) dL_law_144 (by decide) ?_
  refine l_iadd dL_law_145 ?_
  refine l_sld (i + 2) dL_law_146 (nI_addN i 2) (by omega) (by omega) ?_
  refine l_c2 oX7_setLimit dL_law_147 ml_L_13 (k_setLimit hC _ _ _) hB (by decide) (Nat.le_of_ble_eq_true rfl) hc hs (fun r1 w1 z1 hq => ?_)
  obtain ⟨rfl, rfl, q2, q3⟩ := hq
  have hM1 := hM.fr (w' := w1) (fun q h1 h2 => q3 q (by omega))
  refine l_aload_n dL_law_150 rfl ?_
  refine l_aload_n dL_law_151 rfl ?_
  refine l_iload_n dL_law_152 rfl ?_
  refine l_iconst (v := nI 1) dL_law_153 (by decide) ?_
  refine l_iadd dL_law_154 ?_
  refine l_sld (i + 1) dL_law_155 (nI_addN i 1) (by omega) (by omega) ?_
  refine l_aload_n dL_law_156 rfl ?_
  refine l_iload_n dL_law_157 rfl ?_
  refine l_iconst (v := nI 2) dL_law_158 (by decide) ?_
  refine l_iadd dL_law_159 ?_
  refine l_sld (i + 2) dL_law_160 (nI_addN i 2) (by omega) (by omega) ?_
  refine l_c2 oX8_setLimit dL_law_161 ml_L_17 (c_setLimit hM1 hf.1 hf.2.2.1 _ _ _) hM1.1 (by decide) (Nat.le_of_ble_eq_true rfl) hc hs (fun r2 w2 z2 hp => ?_)
  obtain ⟨rfl, rfl, p2, p3⟩ := hp
  refine l_icmp_eq (tgt := 816) dL_law_164 (by decide) (fun _ => ?_) (fun z => absurd rfl z)
  exact K _ _ _ _ _ _ _ ⟨q2.fr (fun q h1 h2 => p3 q (by omega)), p2⟩
set_option maxHeartbeats 1000000 in
set_option maxRecDepth 100000 in
theorem l_case1 {b N B i cells slots : Nat} {xs : Nat → Int32} {w : Wd} {σ tx cm : Nat → Int32} {ns tn : Nat} {k : Bool} (hi : i + 4 ≤ N) (hN : N ≤ 2048) (hc : cells ≤ 600000) (hs : slots ≤ 7302250) (hI : LI w B σ tx cm ns tn k) (K : ∀ w' σ' tx' cm' ns' tn' k', LI w' B σ' tx' cm' ns' tn' k' → VL b N xs w' (B + 1021) cells slots [some (.ref b), some (.ref B), some (.ref (B + 1017)), some (.int (nI i))] [] 816) : VL b N xs w (B + 1021) cells slots [some (.ref b), some (.ref B), some (.ref (B + 1017)), some (.int (nI i))] [] 169 := by
  obtain ⟨hC, hM⟩ := hI
  have hf := CR_facts hC
  obtain ⟨fs, hB⟩ := hf.2.2.2.2
  by_cases hz : xs (i + 3) = 0
  · refine l_aload_n dL_law_169 rfl ?_
    refine l_aload_n dL_law_170 rfl ?_
    refine l_iload_n dL_law_171 rfl ?_
    refine l_iconst (v := nI 1) dL_law_172 (by decide) ?_
    refine l_iadd dL_law_173 ?_
    refine l_sld (i + 1) dL_law_174 (nI_addN i 1) (by omega) (by omega) ?_
    refine l_aload_n dL_law_175 rfl ?_
    refine l_iload_n dL_law_176 rfl ?_
    refine l_iconst (v := nI 2) dL_law_177 (by decide) ?_
    refine l_iadd dL_law_178 ?_
    refine l_sld (i + 2) dL_law_179 (nI_addN i 2) (by omega) (by omega) ?_
    refine l_aload_n dL_law_180 rfl ?_
    refine l_iload_n dL_law_181 rfl ?_
    refine l_iconst (v := nI 3) dL_law_182 (by decide) ?_
    refine l_iadd dL_law_183 ?_
    refine l_sld (i + 3) dL_law_184 (nI_addN i 3) (by omega) (by omega) ?_
    refine l_if_eq (tgt := 192) dL_law_185 (by decide) (fun _ => ?_) (fun z => absurd hz z)
    refine l_iconst (v := nI 0) dL_law_192 (by decide) ?_
    refine l_c3 oX7_ask dL_law_193 ml_L_18 (k_ask hC _ _ false _) hB (by decide) (Nat.le_of_ble_eq_true rfl) hc hs (fun r1 w1 z1 hq => ?_)
    obtain ⟨rfl, rfl, q2, q3⟩ := hq
    have hM1 := hM.fr (w' := w1) (fun q h1 h2 => q3 q (by omega))
    refine l_aload_n dL_law_196 rfl ?_
    refine l_aload_n dL_law_197 rfl ?_
    refine l_iload_n dL_law_198 rfl ?_
    refine l_iconst (v := nI 1) dL_law_199 (by decide) ?_
    refine l_iadd dL_law_200 ?_
    refine l_sld (i + 1) dL_law_201 (nI_addN i 1) (by omega) (by omega) ?_
    refine l_aload_n dL_law_202 rfl ?_
    refine l_iload_n dL_law_203 rfl ?_
    refine l_iconst (v := nI 2) dL_law_204 (by decide) ?_
    refine l_iadd dL_law_205 ?_
    refine l_sld (i + 2) dL_law_206 (nI_addN i 2) (by omega) (by omega) ?_
    refine l_aload_n dL_law_207 rfl ?_
    refine l_iload_n dL_law_208 rfl ?_
    refine l_iconst (v := nI 3) dL_law_209 (by decide) ?_
    refine l_iadd dL_law_210 ?_
    refine l_sld (i + 3) dL_law_211 (nI_addN i 3) (by omega) (by omega) ?_
    refine l_if_eq (tgt := 219) dL_law_212 (by decide) (fun _ => ?_) (fun z => absurd hz z)
    refine l_iconst (v := nI 0) dL_law_219 (by decide) ?_
    refine l_c3 oX8_ask dL_law_220 ml_L_22 (c_ask hM1 hf.1 hf.2.2.1 _ _ false _) hM1.1 (by decide) (Nat.le_of_ble_eq_true rfl) hc hs (fun r2 w2 z2 hp => ?_)
    obtain ⟨rfl, rfl, p2, p3⟩ := hp
    refine l_icmp_eq (tgt := 816) dL_law_223 (by decide) (fun _ => ?_) (fun z => absurd rfl z)
    exact K _ _ _ _ _ _ _ ⟨q2.fr (fun q h1 h2 => p3 q (by omega)), p2⟩
  · refine l_aload_n dL_law_169 rfl ?_
    refine l_aload_n dL_law_170 rfl ?_
    refine l_iload_n dL_law_171 rfl ?_
    refine l_iconst (v := nI 1) dL_law_172 (by decide) ?_
    refine l_iadd dL_law_173 ?_
    refine l_sld (i + 1) dL_law_174 (nI_addN i 1) (by omega) (by omega) ?_
    refine l_aload_n dL_law_175 rfl ?_
    refine l_iload_n dL_law_176 rfl ?_
    refine l_iconst (v := nI 2) dL_law_177 (by decide) ?_
    refine l_iadd dL_law_178 ?_
    refine l_sld (i + 2) dL_law_179 (nI_addN i 2) (by omega) (by omega) ?_
    refine l_aload_n dL_law_180 rfl ?_
    refine l_iload_n dL_law_181 rfl ?_
    refine l_iconst (v := nI 3) dL_law_182 (by decide) ?_
    refine l_iadd dL_law_183 ?_
    refine l_sld (i + 3) dL_law_184 (nI_addN i 3) (by omega) (by omega) ?_
    refine l_if_eq (tgt := 192) dL_law_185 (by decide) (fun z => absurd z hz) (fun _ => ?_)
    refine l_iconst (v := nI 1) dL_law_188 (by decide) ?_
    refine l_goto (tgt := 193) dL_law_189 (by decide) ?_
    refine l_c3 oX7_ask dL_law_193 ml_L_18 (k_ask hC _ _ true _) hB (by decide) (Nat.le_of_ble_eq_true rfl) hc hs (fun r1 w1 z1 hq => ?_)
    obtain ⟨rfl, rfl, q2, q3⟩ := hq
    have hM1 := hM.fr (w' := w1) (fun q h1 h2 => q3 q (by omega))
    refine l_aload_n dL_law_196 rfl ?_
    refine l_aload_n dL_law_197 rfl ?_
    refine l_iload_n dL_law_198 rfl ?_
    refine l_iconst (v := nI 1) dL_law_199 (by decide) ?_
    refine l_iadd dL_law_200 ?_
    refine l_sld (i + 1) dL_law_201 (nI_addN i 1) (by omega) (by omega) ?_
    refine l_aload_n dL_law_202 rfl ?_
    refine l_iload_n dL_law_203 rfl ?_
    refine l_iconst (v := nI 2) dL_law_204 (by decide) ?_
    refine l_iadd dL_law_205 ?_
    refine l_sld (i + 2) dL_law_206 (nI_addN i 2) (by omega) (by omega) ?_
    refine l_aload_n dL_law_207 rfl ?_
    refine l_iload_n dL_law_208 rfl ?_
    refine l_iconst (v := nI 3) dL_law_209 (by decide) ?_
    refine l_iadd dL_law_210 ?_
    refine l_sld (i + 3) dL_law_211 (nI_addN i 3) (by omega) (by omega) ?_
    refine l_if_eq (tgt := 219) dL_law_212 (by decide) (fun z => absurd z hz) (fun _ => ?_)
    refine l_iconst (v := nI 1) dL_law_215 (by decide) ?_
    refine l_goto (tgt := 220) dL_law_216 (by decide) ?_
    refine l_c3 oX8_ask dL_law_220 ml_L_22 (c_ask hM1 hf.1 hf.2.2.1 _ _ true _) hM1.1 (by decide) (Nat.le_of_ble_eq_true rfl) hc hs (fun r2 w2 z2 hp => ?_)
    obtain ⟨rfl, rfl, p2, p3⟩ := hp
    refine l_icmp_eq (tgt := 816) dL_law_223 (by decide) (fun _ => ?_) (fun z => absurd rfl z)
    exact K _ _ _ _ _ _ _ ⟨q2.fr (fun q h1 h2 => p3 q (by omega)), p2⟩
set_option maxHeartbeats 1000000 in
set_option maxRecDepth 100000 in
theorem l_case2 {b N B i cells slots : Nat} {xs : Nat → Int32} {w : Wd} {σ tx cm : Nat → Int32} {ns tn : Nat} {k : Bool} (hi : i + 4 ≤ N) (hN : N ≤ 2048) (hc : cells ≤ 600000) (hs : slots ≤ 7302250) (hI : LI w B σ tx cm ns tn k) (K : ∀ w' σ' tx' cm' ns' tn' k', LI w' B σ' tx' cm' ns' tn' k' → VL b N xs w' (B + 1021) cells slots [some (.ref b), some (.ref B), some (.ref (B + 1017)), some (.int (nI i))] [] 816) : VL b N xs w (B + 1021) cells slots [some (.ref b), some (.ref B), some (.ref (B + 1017)), some (.int (nI i))] [] 228 := by
  obtain ⟨hC, hM⟩ := hI
  have hf := CR_facts hC
  obtain ⟨fs, hB⟩ := hf.2.2.2.2
  refine l_aload_n dL_law_228 rfl ?_
  refine l_aload_n dL_law_229 rfl ?_
  refine l_iload_n dL_law_230 rfl ?_
  refine l_iconst (v := nI 1) dL_law_231 (by decide) ?_
  refine l_iadd dL_law_232 ?_
  refine l_sld (i + 1) dL_law_233 (nI_addN i 1) (by omega) (by omega) ?_
  refine l_aload_n dL_law_234 rfl ?_
  refine l_iload_n dL_law_235 rfl ?_
  refine l_iconst (v := nI 2) dL_law_236 (by decide) ?_
  refine l_iadd dL_law_237 ?_
  refine l_sld (i + 2) dL_law_238 (nI_addN i 2) (by omega) (by omega) ?_
  refine l_c2 oX7_bring dL_law_239 ml_L_23 (k_bring hC _ _ _) hB (by decide) (Nat.le_of_ble_eq_true rfl) hc hs (fun r1 w1 z1 hq => ?_)
  obtain ⟨rfl, rfl, q2, q3⟩ := hq
  have hM1 := hM.fr (w' := w1) (fun q h1 h2 => q3 q (by omega))
  refine l_aload_n dL_law_242 rfl ?_
  refine l_aload_n dL_law_243 rfl ?_
  refine l_iload_n dL_law_244 rfl ?_
  refine l_iconst (v := nI 1) dL_law_245 (by decide) ?_
  refine l_iadd dL_law_246 ?_
  refine l_sld (i + 1) dL_law_247 (nI_addN i 1) (by omega) (by omega) ?_
  refine l_aload_n dL_law_248 rfl ?_
  refine l_iload_n dL_law_249 rfl ?_
  refine l_iconst (v := nI 2) dL_law_250 (by decide) ?_
  refine l_iadd dL_law_251 ?_
  refine l_sld (i + 2) dL_law_252 (nI_addN i 2) (by omega) (by omega) ?_
  refine l_c2 oX8_bring dL_law_253 ml_L_26 (c_bring hM1 hf.1 hf.2.2.1 _ _ _) hM1.1 (by decide) (Nat.le_of_ble_eq_true rfl) hc hs (fun r2 w2 z2 hp => ?_)
  obtain ⟨rfl, rfl, p2, p3⟩ := hp
  refine l_icmp_eq (tgt := 816) dL_law_256 (by decide) (fun _ => ?_) (fun z => absurd rfl z)
  exact K _ _ _ _ _ _ _ ⟨q2.fr (fun q h1 h2 => p3 q (by omega)), p2⟩
set_option maxHeartbeats 1000000 in
set_option maxRecDepth 100000 in
theorem l_case3 {b N B i cells slots : Nat} {xs : Nat → Int32} {w : Wd} {σ tx cm : Nat → Int32} {ns tn : Nat} {k : Bool} (hi : i + 4 ≤ N) (hN : N ≤ 2048) (hc : cells ≤ 600000) (hs : slots ≤ 7302250) (hI : LI w B σ tx cm ns tn k) (K : ∀ w' σ' tx' cm' ns' tn' k', LI w' B σ' tx' cm' ns' tn' k' → VL b N xs w' (B + 1021) cells slots [some (.ref b), some (.ref B), some (.ref (B + 1017)), some (.int (nI i))] [] 816) : VL b N xs w (B + 1021) cells slots [some (.ref b), some (.ref B), some (.ref (B + 1017)), some (.int (nI i))] [] 261 := by
  obtain ⟨hC, hM⟩ := hI
  have hf := CR_facts hC
  obtain ⟨fs, hB⟩ := hf.2.2.2.2
  refine l_aload_n dL_law_261 rfl ?_
  refine l_aload_n dL_law_262 rfl ?_
  refine l_iload_n dL_law_263 rfl ?_
  refine l_iconst (v := nI 1) dL_law_264 (by decide) ?_
  refine l_iadd dL_law_265 ?_
  refine l_sld (i + 1) dL_law_266 (nI_addN i 1) (by omega) (by omega) ?_
  refine l_aload_n dL_law_267 rfl ?_
  refine l_iload_n dL_law_268 rfl ?_
  refine l_iconst (v := nI 2) dL_law_269 (by decide) ?_
  refine l_iadd dL_law_270 ?_
  refine l_sld (i + 2) dL_law_271 (nI_addN i 2) (by omega) (by omega) ?_
  refine l_c2 oX7_label dL_law_272 ml_L_27 (k_label hC _ _ _) hB (by decide) (Nat.le_of_ble_eq_true rfl) hc hs (fun r1 w1 z1 hq => ?_)
  obtain ⟨rfl, rfl, q2, q3⟩ := hq
  have hM1 := hM.fr (w' := w1) (fun q h1 h2 => q3 q (by omega))
  refine l_aload_n dL_law_275 rfl ?_
  refine l_aload_n dL_law_276 rfl ?_
  refine l_iload_n dL_law_277 rfl ?_
  refine l_iconst (v := nI 1) dL_law_278 (by decide) ?_
  refine l_iadd dL_law_279 ?_
  refine l_sld (i + 1) dL_law_280 (nI_addN i 1) (by omega) (by omega) ?_
  refine l_aload_n dL_law_281 rfl ?_
  refine l_iload_n dL_law_282 rfl ?_
  refine l_iconst (v := nI 2) dL_law_283 (by decide) ?_
  refine l_iadd dL_law_284 ?_
  refine l_sld (i + 2) dL_law_285 (nI_addN i 2) (by omega) (by omega) ?_
  refine l_c2 oX8_label dL_law_286 ml_L_30 (c_label hM1 hf.1 hf.2.2.1 hf.2.1 _ _ _) hM1.1 (by decide) (Nat.le_of_ble_eq_true rfl) hc hs (fun r2 w2 z2 hp => ?_)
  obtain ⟨rfl, rfl, p2, p3⟩ := hp
  refine l_icmp_eq (tgt := 816) dL_law_289 (by decide) (fun _ => ?_) (fun z => absurd rfl z)
  exact K _ _ _ _ _ _ _ ⟨q2.fr (fun q h1 h2 => p3 q (by omega)), p2⟩
set_option maxHeartbeats 1000000 in
set_option maxRecDepth 100000 in
theorem l_case4 {b N B i cells slots : Nat} {xs : Nat → Int32} {w : Wd} {σ tx cm : Nat → Int32} {ns tn : Nat} {k : Bool} (hi : i + 4 ≤ N) (hN : N ≤ 2048) (hc : cells ≤ 600000) (hs : slots ≤ 7302250) (hI : LI w B σ tx cm ns tn k) (K : ∀ w' σ' tx' cm' ns' tn' k', LI w' B σ' tx' cm' ns' tn' k' → VL b N xs w' (B + 1021) cells slots [some (.ref b), some (.ref B), some (.ref (B + 1017)), some (.int (nI i))] [] 816) : VL b N xs w (B + 1021) cells slots [some (.ref b), some (.ref B), some (.ref (B + 1017)), some (.int (nI i))] [] 294 := by
  obtain ⟨hC, hM⟩ := hI
  have hf := CR_facts hC
  obtain ⟨fs, hB⟩ := hf.2.2.2.2
  refine l_aload_n dL_law_294 rfl ?_
  refine l_aload_n dL_law_295 rfl ?_
  refine l_iload_n dL_law_296 rfl ?_
  refine l_iconst (v := nI 1) dL_law_297 (by decide) ?_
  refine l_iadd dL_law_298 ?_
  refine l_sld (i + 1) dL_law_299 (nI_addN i 1) (by omega) (by omega) ?_
  refine l_aload_n dL_law_300 rfl ?_
  refine l_iload_n dL_law_301 rfl ?_
  refine l_iconst (v := nI 2) dL_law_302 (by decide) ?_
  refine l_iadd dL_law_303 ?_
  refine l_sld (i + 2) dL_law_304 (nI_addN i 2) (by omega) (by omega) ?_
  refine l_c2 oX7_takeDown dL_law_305 ml_L_31 (k_takeDown hC _ _ _) hB (by decide) (Nat.le_of_ble_eq_true rfl) hc hs (fun r1 w1 z1 hq => ?_)
  obtain ⟨rfl, rfl, q2, q3⟩ := hq
  have hM1 := hM.fr (w' := w1) (fun q h1 h2 => q3 q (by omega))
  refine l_aload_n dL_law_308 rfl ?_
  refine l_aload_n dL_law_309 rfl ?_
  refine l_iload_n dL_law_310 rfl ?_
  refine l_iconst (v := nI 1) dL_law_311 (by decide) ?_
  refine l_iadd dL_law_312 ?_
  refine l_sld (i + 1) dL_law_313 (nI_addN i 1) (by omega) (by omega) ?_
  refine l_aload_n dL_law_314 rfl ?_
  refine l_iload_n dL_law_315 rfl ?_
  refine l_iconst (v := nI 2) dL_law_316 (by decide) ?_
  refine l_iadd dL_law_317 ?_
  refine l_sld (i + 2) dL_law_318 (nI_addN i 2) (by omega) (by omega) ?_
  refine l_c2 oX8_takeDown dL_law_319 ml_L_34 (c_takeDown hM1 hf.1 hf.2.2.1 _ _ _) hM1.1 (by decide) (Nat.le_of_ble_eq_true rfl) hc hs (fun r2 w2 z2 hp => ?_)
  obtain ⟨rfl, rfl, p2, p3⟩ := hp
  refine l_icmp_eq (tgt := 816) dL_law_322 (by decide) (fun _ => ?_) (fun z => absurd rfl z)
  exact K _ _ _ _ _ _ _ ⟨q2.fr (fun q h1 h2 => p3 q (by omega)), p2⟩
set_option maxHeartbeats 1000000 in
set_option maxRecDepth 100000 in
theorem l_case5 {b N B i cells slots : Nat} {xs : Nat → Int32} {w : Wd} {σ tx cm : Nat → Int32} {ns tn : Nat} {k : Bool} (hi : i + 4 ≤ N) (hN : N ≤ 2048) (hc : cells ≤ 600000) (hs : slots ≤ 7302250) (hI : LI w B σ tx cm ns tn k) (K : ∀ w' σ' tx' cm' ns' tn' k', LI w' B σ' tx' cm' ns' tn' k' → VL b N xs w' (B + 1021) cells slots [some (.ref b), some (.ref B), some (.ref (B + 1017)), some (.int (nI i))] [] 816) : VL b N xs w (B + 1021) cells slots [some (.ref b), some (.ref B), some (.ref (B + 1017)), some (.int (nI i))] [] 327 := by
  obtain ⟨hC, hM⟩ := hI
  have hf := CR_facts hC
  obtain ⟨fs, hB⟩ := hf.2.2.2.2
  refine l_aload_n dL_law_327 rfl ?_
  refine l_aload_n dL_law_328 rfl ?_
  refine l_iload_n dL_law_329 rfl ?_
  refine l_iconst (v := nI 1) dL_law_330 (by decide) ?_
  refine l_iadd dL_law_331 ?_
  refine l_sld (i + 1) dL_law_332 (nI_addN i 1) (by omega) (by omega) ?_
  refine l_c1 oX7_setNeeded dL_law_333 ml_L_35 (k_setNeeded hC _ _) hB (by decide) (Nat.le_of_ble_eq_true rfl) hc hs (fun r1 w1 z1 hq => ?_)
  obtain ⟨rfl, rfl, q2, q3⟩ := hq
  have hM1 := hM.fr (w' := w1) (fun q h1 h2 => q3 q (by omega))
  refine l_aload_n dL_law_336 rfl ?_
  refine l_aload_n dL_law_337 rfl ?_
  refine l_iload_n dL_law_338 rfl ?_
  refine l_iconst (v := nI 1) dL_law_339 (by decide) ?_
  refine l_iadd dL_law_340 ?_
  refine l_sld (i + 1) dL_law_341 (nI_addN i 1) (by omega) (by omega) ?_
  refine l_c1 oX8_setNeeded dL_law_342 ml_L_39 (c_setNeeded hM1 hf.1 hf.2.2.1 _ _) hM1.1 (by decide) (Nat.le_of_ble_eq_true rfl) hc hs (fun r2 w2 z2 hp => ?_)
  obtain ⟨rfl, rfl, p2, p3⟩ := hp
  refine l_icmp_eq (tgt := 816) dL_law_345 (by decide) (fun _ => ?_) (fun z => absurd rfl z)
  exact K _ _ _ _ _ _ _ ⟨q2.fr (fun q h1 h2 => p3 q (by omega)), p2⟩
set_option maxHeartbeats 1000000 in
set_option maxRecDepth 100000 in
theorem l_case6 {b N B i cells slots : Nat} {xs : Nat → Int32} {w : Wd} {σ tx cm : Nat → Int32} {ns tn : Nat} {k : Bool} (hi : i + 4 ≤ N) (hN : N ≤ 2048) (hc : cells ≤ 600000) (hs : slots ≤ 7302250) (hI : LI w B σ tx cm ns tn k) (K : ∀ w' σ' tx' cm' ns' tn' k', LI w' B σ' tx' cm' ns' tn' k' → VL b N xs w' (B + 1021) cells slots [some (.ref b), some (.ref B), some (.ref (B + 1017)), some (.int (nI i))] [] 816) : VL b N xs w (B + 1021) cells slots [some (.ref b), some (.ref B), some (.ref (B + 1017)), some (.int (nI i))] [] 350 := by
  obtain ⟨hC, hM⟩ := hI
  have hf := CR_facts hC
  obtain ⟨fs, hB⟩ := hf.2.2.2.2
  refine l_aload_n dL_law_350 rfl ?_
  refine l_aload_n dL_law_351 rfl ?_
  refine l_iload_n dL_law_352 rfl ?_
  refine l_iconst (v := nI 1) dL_law_353 (by decide) ?_
  refine l_iadd dL_law_354 ?_
  refine l_sld (i + 1) dL_law_355 (nI_addN i 1) (by omega) (by omega) ?_
  refine l_aload_n dL_law_356 rfl ?_
  refine l_iload_n dL_law_357 rfl ?_
  refine l_iconst (v := nI 2) dL_law_358 (by decide) ?_
  refine l_iadd dL_law_359 ?_
  refine l_sld (i + 2) dL_law_360 (nI_addN i 2) (by omega) (by omega) ?_
  refine l_aload_n dL_law_361 rfl ?_
  refine l_iload_n dL_law_362 rfl ?_
  refine l_iconst (v := nI 3) dL_law_363 (by decide) ?_
  refine l_iadd dL_law_364 ?_
  refine l_sld (i + 3) dL_law_365 (nI_addN i 3) (by omega) (by omega) ?_
  refine l_c3 oX7_rewrite dL_law_366 ml_L_40 (k_rewrite hC _ _ _ _) hB (by decide) (Nat.le_of_ble_eq_true rfl) hc hs (fun r1 w1 z1 hq => ?_)
  obtain ⟨rfl, rfl, q2, q3⟩ := hq
  have hM1 := hM.fr (w' := w1) (fun q h1 h2 => q3 q (by omega))
  refine l_aload_n dL_law_369 rfl ?_
  refine l_aload_n dL_law_370 rfl ?_
  refine l_iload_n dL_law_371 rfl ?_
  refine l_iconst (v := nI 1) dL_law_372 (by decide) ?_
  refine l_iadd dL_law_373 ?_
  refine l_sld (i + 1) dL_law_374 (nI_addN i 1) (by omega) (by omega) ?_
  refine l_aload_n dL_law_375 rfl ?_
  refine l_iload_n dL_law_376 rfl ?_
  refine l_iconst (v := nI 2) dL_law_377 (by decide) ?_
  refine l_iadd dL_law_378 ?_
  refine l_sld (i + 2) dL_law_379 (nI_addN i 2) (by omega) (by omega) ?_
  refine l_aload_n dL_law_380 rfl ?_
  refine l_iload_n dL_law_381 rfl ?_
  refine l_iconst (v := nI 3) dL_law_382 (by decide) ?_
  refine l_iadd dL_law_383 ?_
  refine l_sld (i + 3) dL_law_384 (nI_addN i 3) (by omega) (by omega) ?_
  refine l_c3 oX8_rewrite dL_law_385 ml_L_44 (c_rewrite hM1 hf.1 hf.2.2.1 hf.2.1 _ _ _ _) hM1.1 (by decide) (Nat.le_of_ble_eq_true rfl) hc hs (fun r2 w2 z2 hp => ?_)
  obtain ⟨rfl, rfl, p2, p3⟩ := hp
  refine l_icmp_eq (tgt := 816) dL_law_388 (by decide) (fun _ => ?_) (fun z => absurd rfl z)
  exact K _ _ _ _ _ _ _ ⟨q2.fr (fun q h1 h2 => p3 q (by omega)), p2⟩
set_option maxHeartbeats 1000000 in
set_option maxRecDepth 100000 in
theorem l_case7 {b N B i cells slots : Nat} {xs : Nat → Int32} {w : Wd} {σ tx cm : Nat → Int32} {ns tn : Nat} {k : Bool} (hi : i + 4 ≤ N) (hN : N ≤ 2048) (hc : cells ≤ 600000) (hs : slots ≤ 7302250) (hI : LI w B σ tx cm ns tn k) (K : ∀ w' σ' tx' cm' ns' tn' k', LI w' B σ' tx' cm' ns' tn' k' → VL b N xs w' (B + 1021) cells slots [some (.ref b), some (.ref B), some (.ref (B + 1017)), some (.int (nI i))] [] 816) : VL b N xs w (B + 1021) cells slots [some (.ref b), some (.ref B), some (.ref (B + 1017)), some (.int (nI i))] [] 393 := by
  obtain ⟨hC, hM⟩ := hI
  have hf := CR_facts hC
  obtain ⟨fs, hB⟩ := hf.2.2.2.2
  by_cases hz : xs (i + 3) = 0
  · refine l_aload_n dL_law_393 rfl ?_
    refine l_aload_n dL_law_394 rfl ?_
    refine l_iload_n dL_law_395 rfl ?_
    refine l_iconst (v := nI 1) dL_law_396 (by decide) ?_
    refine l_iadd dL_law_397 ?_
    refine l_sld (i + 1) dL_law_398 (nI_addN i 1) (by omega) (by omega) ?_
    refine l_aload_n dL_law_399 rfl ?_
    refine l_iload_n dL_law_400 rfl ?_
    refine l_iconst (v := nI 2) dL_law_401 (by decide) ?_
    refine l_iadd dL_law_402 ?_
    refine l_sld (i + 2) dL_law_403 (nI_addN i 2) (by omega) (by omega) ?_
    refine l_aload_n dL_law_404 rfl ?_
    refine l_iload_n dL_law_405 rfl ?_
    refine l_iconst (v := nI 3) dL_law_406 (by decide) ?_
    refine l_iadd dL_law_407 ?_
    refine l_sld (i + 3) dL_law_408 (nI_addN i 3) (by omega) (by omega) ?_
    refine l_if_eq (tgt := 416) dL_law_409 (by decide) (fun _ => ?_) (fun z => absurd hz z)
    refine l_iconst (v := nI 0) dL_law_416 (by decide) ?_
    refine l_c3 oX7_vote dL_law_417 ml_L_45 (k_vote hC _ _ false _) hB (by decide) (Nat.le_of_ble_eq_true rfl) hc hs (fun r1 w1 z1 hq => ?_)
    obtain ⟨rfl, rfl, q2, q3⟩ := hq
    have hM1 := hM.fr (w' := w1) (fun q h1 h2 => q3 q (by omega))
    refine l_aload_n dL_law_420 rfl ?_
    refine l_aload_n dL_law_421 rfl ?_
    refine l_iload_n dL_law_422 rfl ?_
    refine l_iconst (v := nI 1) dL_law_423 (by decide) ?_
    refine l_iadd dL_law_424 ?_
    refine l_sld (i + 1) dL_law_425 (nI_addN i 1) (by omega) (by omega) ?_
    refine l_aload_n dL_law_426 rfl ?_
    refine l_iload_n dL_law_427 rfl ?_
    refine l_iconst (v := nI 2) dL_law_428 (by decide) ?_
    refine l_iadd dL_law_429 ?_
    refine l_sld (i + 2) dL_law_430 (nI_addN i 2) (by omega) (by omega) ?_
    refine l_aload_n dL_law_431 rfl ?_
    refine l_iload_n dL_law_432 rfl ?_
    refine l_iconst (v := nI 3) dL_law_433 (by decide) ?_
    refine l_iadd dL_law_434 ?_
    refine l_sld (i + 3) dL_law_435 (nI_addN i 3) (by omega) (by omega) ?_
    refine l_if_eq (tgt := 443) dL_law_436 (by decide) (fun _ => ?_) (fun z => absurd hz z)
    refine l_iconst (v := nI 0) dL_law_443 (by decide) ?_
    refine l_c3 oX8_vote dL_law_444 ml_L_48 (c_vote hM1 hf.1 hf.2.2.1 _ _ false _) hM1.1 (by decide) (Nat.le_of_ble_eq_true rfl) hc hs (fun r2 w2 z2 hp => ?_)
    obtain ⟨rfl, rfl, p2, p3⟩ := hp
    refine l_icmp_eq (tgt := 816) dL_law_447 (by decide) (fun _ => ?_) (fun z => absurd rfl z)
    exact K _ _ _ _ _ _ _ ⟨q2.fr (fun q h1 h2 => p3 q (by omega)), p2⟩
  · refine l_aload_n dL_law_393 rfl ?_
    refine l_aload_n dL_law_394 rfl ?_
    refine l_iload_n dL_law_395 rfl ?_
    refine l_iconst (v := nI 1) dL_law_396 (by decide) ?_
    refine l_iadd dL_law_397 ?_
    refine l_sld (i + 1) dL_law_398 (nI_addN i 1) (by omega) (by omega) ?_
    refine l_aload_n dL_law_399 rfl ?_
    refine l_iload_n dL_law_400 rfl ?_
    refine l_iconst (v := nI 2) dL_law_401 (by decide) ?_
    refine l_iadd dL_law_402 ?_
    refine l_sld (i + 2) dL_law_403 (nI_addN i 2) (by omega) (by omega) ?_
    refine l_aload_n dL_law_404 rfl ?_
    refine l_iload_n dL_law_405 rfl ?_
    refine l_iconst (v := nI 3) dL_law_406 (by decide) ?_
    refine l_iadd dL_law_407 ?_
    refine l_sld (i + 3) dL_law_408 (nI_addN i 3) (by omega) (by omega) ?_
    refine l_if_eq (tgt := 416) dL_law_409 (by decide) (fun z => absurd z hz) (fun _ => ?_)
    refine l_iconst (v := nI 1) dL_law_412 (by decide) ?_
    refine l_goto (tgt := 417) dL_law_413 (by decide) ?_
    refine l_c3 oX7_vote dL_law_417 ml_L_45 (k_vote hC _ _ true _) hB (by decide) (Nat.le_of_ble_eq_true rfl) hc hs (fun r1 w1 z1 hq => ?_)
    obtain ⟨rfl, rfl, q2, q3⟩ := hq
    have hM1 := hM.fr (w' := w1) (fun q h1 h2 => q3 q (by omega))
    refine l_aload_n dL_law_420 rfl ?_
    refine l_aload_n dL_law_421 rfl ?_
    refine l_iload_n dL_law_422 rfl ?_
    refine l_iconst (v := nI 1) dL_law_423 (by decide) ?_
    refine l_iadd dL_law_424 ?_
    refine l_sld (i + 1) dL_law_425 (nI_addN i 1) (by omega) (by omega) ?_
    refine l_aload_n dL_law_426 rfl ?_
    refine l_iload_n dL_law_427 rfl ?_
    refine l_iconst (v := nI 2) dL_law_428 (by decide) ?_
    refine l_iadd dL_law_429 ?_
    refine l_sld (i + 2) dL_law_430 (nI_addN i 2) (by omega) (by omega) ?_
    refine l_aload_n dL_law_431 rfl ?_
    refine l_iload_n dL_law_432 rfl ?_
    refine l_iconst (v := nI 3) dL_law_433 (by decide) ?_
    refine l_iadd dL_law_434 ?_
    refine l_sld (i + 3) dL_law_435 (nI_addN i 3) (by omega) (by omega) ?_
    refine l_if_eq (tgt := 443) dL_law_436 (by decide) (fun z => absurd z hz) (fun _ => ?_)
    refine l_iconst (v := nI 1) dL_law_439 (by decide) ?_
    refine l_goto (tgt := 444) dL_law_440 (by decide) ?_
    refine l_c3 oX8_vote dL_law_444 ml_L_48 (c_vote hM1 hf.1 hf.2.2.1 _ _ true _) hM1.1 (by decide) (Nat.le_of_ble_eq_true rfl) hc hs (fun r2 w2 z2 hp => ?_)
    obtain ⟨rfl, rfl, p2, p3⟩ := hp
    refine l_icmp_eq (tgt := 816) dL_law_447 (by decide) (fun _ => ?_) (fun z => absurd rfl z)
    exact K _ _ _ _ _ _ _ ⟨q2.fr (fun q h1 h2 => p3 q (by omega)), p2⟩
set_option maxHeartbeats 1000000 in
set_option maxRecDepth 100000 in
theorem l_case8 {b N B i cells slots : Nat} {xs : Nat → Int32} {w : Wd} {σ tx cm : Nat → Int32} {ns tn : Nat} {k : Bool} (hi : i + 4 ≤ N) (hN : N ≤ 2048) (hc : cells ≤ 600000) (hs : slots ≤ 7302250) (hI : LI w B σ tx cm ns tn k) (K : ∀ w' σ' tx' cm' ns' tn' k', LI w' B σ' tx' cm' ns' tn' k' → VL b N xs w' (B + 1021) cells slots [some (.ref b), some (.ref B), some (.ref (B + 1017)), some (.int (nI i))] [] 816) : VL b N xs w (B + 1021) cells slots [some (.ref b), some (.ref B), some (.ref (B + 1017)), some (.int (nI i))] [] 452 := by
  obtain ⟨hC, hM⟩ := hI
  have hf := CR_facts hC
  obtain ⟨fs, hB⟩ := hf.2.2.2.2
  refine l_aload_n dL_law_452 rfl ?_
  refine l_c0 oX7_endWeek dL_law_453 ml_L_49 (k_endWeek hC  _) hB (by decide) (Nat.le_of_ble_eq_true rfl) hc hs (fun r1 w1 z1 hq => ?_)
  obtain ⟨rfl, rfl, q2, q3⟩ := hq
  have hM1 := hM.fr (w' := w1) (fun q h1 h2 => q3 q (by omega))
  refine l_aload_n dL_law_456 rfl ?_
  refine l_c0 oX8_endWeek dL_law_457 ml_L_53 (c_endWeek hM1 hf.1 hf.2.2.1  _) hM1.1 (by decide) (Nat.le_of_ble_eq_true rfl) hc hs (fun r2 w2 z2 hp => ?_)
  obtain ⟨rfl, rfl, p2, p3⟩ := hp
  refine l_icmp_eq (tgt := 816) dL_law_460 (by decide) (fun _ => ?_) (fun z => absurd rfl z)
  exact K _ _ _ _ _ _ _ ⟨q2.fr (fun q h1 h2 => p3 q (by omega)), p2⟩
set_option maxHeartbeats 1000000 in
set_option maxRecDepth 100000 in
theorem l_case9 {b N B i cells slots : Nat} {xs : Nat → Int32} {w : Wd} {σ tx cm : Nat → Int32} {ns tn : Nat} {k : Bool} (hi : i + 4 ≤ N) (hN : N ≤ 2048) (hc : cells ≤ 600000) (hs : slots ≤ 7302250) (hI : LI w B σ tx cm ns tn k) (K : ∀ w' σ' tx' cm' ns' tn' k', LI w' B σ' tx' cm' ns' tn' k' → VL b N xs w' (B + 1021) cells slots [some (.ref b), some (.ref B), some (.ref (B + 1017)), some (.int (nI i))] [] 816) : VL b N xs w (B + 1021) cells slots [some (.ref b), some (.ref B), some (.ref (B + 1017)), some (.int (nI i))] [] 465 := by
  obtain ⟨hC, hM⟩ := hI
  have hf := CR_facts hC
  obtain ⟨fs, hB⟩ := hf.2.2.2.2
  refine l_aload_n dL_law_465 rfl ?_
  refine l_aload_n dL_law_466 rfl ?_
  refine l_iload_n dL_law_467 rfl ?_
  refine l_iconst (v := nI 1) dL_law_468 (by decide) ?_
  refine l_iadd dL_law_469 ?_
  refine l_sld (i + 1) dL_law_470 (nI_addN i 1) (by omega) (by omega) ?_
  refine l_i2c dL_law_471 rfl ?_
  refine l_c1 oX7_type dL_law_472 ml_L_54 (k_type hC _ _) hB (by decide) (Nat.le_of_ble_eq_true rfl) hc hs (fun r1 w1 z1 hq => ?_)
  obtain ⟨rfl, hq⟩ := hq
  rcases hq with ⟨ht, rfl, q2, q3⟩ | ⟨ht, rfl, q2, q3⟩
  · have hM1 := hM.fr (w' := w1) (fun q h1 h2 => q3 q (by omega))
    refine l_aload_n dL_law_475 rfl ?_
    refine l_aload_n dL_law_476 rfl ?_
    refine l_iload_n dL_law_477 rfl ?_
    refine l_iconst (v := nI 1) dL_law_478 (by decide) ?_
    refine l_iadd dL_law_479 ?_
    refine l_sld (i + 1) dL_law_480 (nI_addN i 1) (by omega) (by omega) ?_
    refine l_i2c dL_law_481 rfl ?_
    refine l_c1 oX8_type dL_law_482 ml_L_58 (c_type hM1 hf.2.1 _ _) hM1.1 (by decide) (Nat.le_of_ble_eq_true rfl) hc hs (fun r2 w2 z2 hp => ?_)
    obtain ⟨rfl, hp⟩ := hp
    rcases hp with ⟨-, rfl, rfl⟩ | ⟨h60, -⟩
    · refine l_icmp_eq (tgt := 816) dL_law_485 (by decide) (fun _ => ?_) (fun z => absurd rfl z)
      exact K _ _ _ _ _ _ _ ⟨q2, hM1⟩
    · omega
  · have hM1 := hM.fr (w' := w1) (fun q h1 h2 => q3 q (by omega))
    refine l_aload_n dL_law_475 rfl ?_
    refine l_aload_n dL_law_476 rfl ?_
    refine l_iload_n dL_law_477 rfl ?_
    refine l_iconst (v := nI 1) dL_law_478 (by decide) ?_
    refine l_iadd dL_law_479 ?_
    refine l_sld (i + 1) dL_law_480 (nI_addN i 1) (by omega) (by omega) ?_
    refine l_i2c dL_law_481 rfl ?_
    refine l_c1 oX8_type dL_law_482 ml_L_58 (c_type hM1 hf.2.1 _ _) hM1.1 (by decide) (Nat.le_of_ble_eq_true rfl) hc hs (fun r2 w2 z2 hp => ?_)
    obtain ⟨rfl, hp⟩ := hp
    rcases hp with ⟨h60, -⟩ | ⟨-, rfl, p2, p3⟩
    · omega
    · refine l_icmp_eq (tgt := 816) dL_law_485 (by decide) (fun _ => ?_) (fun z => absurd rfl z)
      exact K _ _ _ _ _ _ _ ⟨q2.fr (fun q h1 h2 => p3 q (by omega)), p2⟩
set_option maxHeartbeats 1000000 in
set_option maxRecDepth 100000 in
theorem l_case10 {b N B i cells slots : Nat} {xs : Nat → Int32} {w : Wd} {σ tx cm : Nat → Int32} {ns tn : Nat} {k : Bool} (hi : i + 4 ≤ N) (hN : N ≤ 2048) (hc : cells ≤ 600000) (hs : slots ≤ 7302250) (hI : LI w B σ tx cm ns tn k) (K : ∀ w' σ' tx' cm' ns' tn' k', LI w' B σ' tx' cm' ns' tn' k' → VL b N xs w' (B + 1021) cells slots [some (.ref b), some (.ref B), some (.ref (B + 1017)), some (.int (nI i))] [] 816) : VL b N xs w (B + 1021) cells slots [some (.ref b), some (.ref B), some (.ref (B + 1017)), some (.int (nI i))] [] 490 := by
  obtain ⟨hC, hM⟩ := hI
  have hf := CR_facts hC
  obtain ⟨fs, hB⟩ := hf.2.2.2.2
  refine l_aload_n dL_law_490 rfl ?_
  refine l_c0 oX7_clearText dL_law_491 ml_L_59 (k_clearText hC  _) hB (by decide) (Nat.le_of_ble_eq_true rfl) hc hs (fun r1 w1 z1 hq => ?_)
  obtain ⟨rfl, rfl, q2, q3⟩ := hq
  have hM1 := hM.fr (w' := w1) (fun q h1 h2 => q3 q (by omega))
  refine l_aload_n dL_law_494 rfl ?_
  refine l_c0 oX8_clearText dL_law_495 ml_L_62 (c_clearText hM1 hf.2.1  _) hM1.1 (by decide) (Nat.le_of_ble_eq_true rfl) hc hs (fun r2 w2 z2 hp => ?_)
  obtain ⟨rfl, rfl, p2, p3⟩ := hp
  refine l_icmp_eq (tgt := 816) dL_law_498 (by decide) (fun _ => ?_) (fun z => absurd rfl z)
  exact K _ _ _ _ _ _ _ ⟨q2.fr (fun q h1 h2 => p3 q (by omega)), p2⟩
set_option maxHeartbeats 1000000 in
set_option maxRecDepth 100000 in
theorem l_case11 {b N B i cells slots : Nat} {xs : Nat → Int32} {w : Wd} {σ tx cm : Nat → Int32} {ns tn : Nat} {k : Bool} (hi : i + 4 ≤ N) (hN : N ≤ 2048) (hc : cells ≤ 600000) (hs : slots ≤ 7302250) (hI : LI w B σ tx cm ns tn k) (K : ∀ w' σ' tx' cm' ns' tn' k', LI w' B σ' tx' cm' ns' tn' k' → VL b N xs w' (B + 1021) cells slots [some (.ref b), some (.ref B), some (.ref (B + 1017)), some (.int (nI i))] [] 816) : VL b N xs w (B + 1021) cells slots [some (.ref b), some (.ref B), some (.ref (B + 1017)), some (.int (nI i))] [] 503 := by
  obtain ⟨hC, hM⟩ := hI
  have hf := CR_facts hC
  obtain ⟨fs, hB⟩ := hf.2.2.2.2
  refine l_aload_n dL_law_503 rfl ?_
  refine l_c0 oX7_undo dL_law_504 ml_L_63 (k_undo hC  _) hB (by decide) (Nat.le_of_ble_eq_true rfl) hc hs (fun r1 w1 z1 hq => ?_)
  obtain ⟨rfl, rfl, q2, q3⟩ := hq
  have hM1 := hM.fr (w' := w1) (fun q h1 h2 => q3 q (by omega))
  refine l_aload_n dL_law_507 rfl ?_
  refine l_c0 oX8_undo dL_law_508 ml_L_66 (c_undo hM1 hf.1  _) hM1.1 (by decide) (Nat.le_of_ble_eq_true rfl) hc hs (fun r2 w2 z2 hp => ?_)
  obtain ⟨rfl, rfl, p2, p3⟩ := hp
  refine l_icmp_eq (tgt := 816) dL_law_511 (by decide) (fun _ => ?_) (fun z => absurd rfl z)
  exact K _ _ _ _ _ _ _ ⟨q2.fr (fun q h1 h2 => p3 q (by omega)), p2⟩
set_option maxHeartbeats 1000000 in
set_option maxRecDepth 100000 in
theorem l_case12 {b N B i cells slots : Nat} {xs : Nat → Int32} {w : Wd} {σ tx cm : Nat → Int32} {ns tn : Nat} {k : Bool} (hi : i + 4 ≤ N) (hN : N ≤ 2048) (hc : cells ≤ 600000) (hs : slots ≤ 7302250) (hI : LI w B σ tx cm ns tn k) (K : ∀ w' σ' tx' cm' ns' tn' k', LI w' B σ' tx' cm' ns' tn' k' → VL b N xs w' (B + 1021) cells slots [some (.ref b), some (.ref B), some (.ref (B + 1017)), some (.int (nI i))] [] 816) : VL b N xs w (B + 1021) cells slots [some (.ref b), some (.ref B), some (.ref (B + 1017)), some (.int (nI i))] [] 516 := by
  obtain ⟨hC, hM⟩ := hI
  have hf := CR_facts hC
  obtain ⟨fs, hB⟩ := hf.2.2.2.2
  refine l_aload_n dL_law_516 rfl ?_
  refine l_c0 oX7_keep dL_law_517 ml_L_67 (k_keep hC  _) hB (by decide) (Nat.le_of_ble_eq_true rfl) hc hs (fun r1 w1 z1 hq => ?_)
  obtain ⟨rfl, rfl, q2, q3⟩ := hq
  have hM1 := hM.fr (w' := w1) (fun q h1 h2 => q3 q (by omega))
  refine l_aload_n dL_law_520 rfl ?_
  refine l_c0 oX8_keep dL_law_521 ml_L_70 (c_keep hM1 hf.2.2.1  _) hM1.1 (by decide) (Nat.le_of_ble_eq_true rfl) hc hs (fun r2 w2 z2 hp => ?_)
  obtain ⟨rfl, rfl, p2, p3⟩ := hp
  refine l_icmp_eq (tgt := 816) dL_law_524 (by decide) (fun _ => ?_) (fun z => absurd rfl z)
  exact K _ _ _ _ _ _ true ⟨q2.fr (fun q h1 h2 => p3 q (by omega)), p2⟩
set_option maxHeartbeats 1000000 in
set_option maxRecDepth 100000 in
theorem l_case13 {b N B i cells slots : Nat} {xs : Nat → Int32} {w : Wd} {σ tx cm : Nat → Int32} {ns tn : Nat} {k : Bool} (hi : i + 4 ≤ N) (hN : N ≤ 2048) (hc : cells ≤ 600000) (hs : slots ≤ 7302250) (hI : LI w B σ tx cm ns tn k) (K : ∀ w' σ' tx' cm' ns' tn' k', LI w' B σ' tx' cm' ns' tn' k' → VL b N xs w' (B + 1021) cells slots [some (.ref b), some (.ref B), some (.ref (B + 1017)), some (.int (nI i))] [] 816) : VL b N xs w (B + 1021) cells slots [some (.ref b), some (.ref B), some (.ref (B + 1017)), some (.int (nI i))] [] 529 := by
  obtain ⟨hC, hM⟩ := hI
  have hf := CR_facts hC
  obtain ⟨fs, hB⟩ := hf.2.2.2.2
  refine l_aload_n dL_law_529 rfl ?_
  refine l_c0 oX7_restore dL_law_530 ml_L_71 (k_restore hC  _) hB (by decide) (Nat.le_of_ble_eq_true rfl) hc hs (fun r1 w1 z1 hq => ?_)
  obtain ⟨rfl, rfl, q2, q3⟩ := hq
  have hM1 := hM.fr (w' := w1) (fun q h1 h2 => q3 q (by omega))
  refine l_aload_n dL_law_533 rfl ?_
  refine l_c0 oX8_restore dL_law_534 ml_L_74 (c_restore hM1 hf.1 k rfl hf.2.2.2.1  _) hM1.1 (by decide) (Nat.le_of_ble_eq_true rfl) hc hs (fun r2 w2 z2 hp => ?_)
  obtain ⟨rfl, rfl, p2, p3⟩ := hp
  refine l_icmp_eq (tgt := 816) dL_law_537 (by decide) (fun _ => ?_) (fun z => absurd rfl z)
  exact K _ _ _ _ _ _ _ ⟨q2.fr (fun q h1 h2 => p3 q (by omega)), p2⟩
set_option maxHeartbeats 1000000 in
set_option maxRecDepth 100000 in
theorem l_case14 {b N B i cells slots : Nat} {xs : Nat → Int32} {w : Wd} {σ tx cm : Nat → Int32} {ns tn : Nat} {k : Bool} (hi : i + 4 ≤ N) (hN : N ≤ 2048) (hc : cells ≤ 600000) (hs : slots ≤ 7302250) (hI : LI w B σ tx cm ns tn k) (K : ∀ w' σ' tx' cm' ns' tn' k', LI w' B σ' tx' cm' ns' tn' k' → VL b N xs w' (B + 1021) cells slots [some (.ref b), some (.ref B), some (.ref (B + 1017)), some (.int (nI i))] [] 816) : VL b N xs w (B + 1021) cells slots [some (.ref b), some (.ref B), some (.ref (B + 1017)), some (.int (nI i))] [] 542 := by
  obtain ⟨hC, hM⟩ := hI
  have hf := CR_facts hC
  obtain ⟨fs, hB⟩ := hf.2.2.2.2
  refine l_aload_n dL_law_542 rfl ?_
  refine l_aload_n dL_law_543 rfl ?_
  refine l_iload_n dL_law_544 rfl ?_
  refine l_iconst (v := nI 1) dL_law_545 (by decide) ?_
  refine l_iadd dL_law_546 ?_
  refine l_sld (i + 1) dL_law_547 (nI_addN i 1) (by omega) (by omega) ?_
  refine l_aload_n dL_law_548 rfl ?_
  refine l_iload_n dL_law_549 rfl ?_
  refine l_iconst (v := nI 2) dL_law_550 (by decide) ?_
  refine l_iadd dL_law_551 ?_
  refine l_sld (i + 2) dL_law_552 (nI_addN i 2) (by omega) (by omega) ?_
  refine l_aload_n dL_law_553 rfl ?_
  refine l_iload_n dL_law_554 rfl ?_
  refine l_iconst (v := nI 3) dL_law_555 (by decide) ?_
  refine l_iadd dL_law_556 ?_
  refine l_sld (i + 3) dL_law_557 (nI_addN i 3) (by omega) (by omega) ?_
  refine l_c3 oX7_labelOf dL_law_558 ml_L_75 (k_labelOf hC _ _ _ _) hB (by decide) (Nat.le_of_ble_eq_true rfl) hc hs (fun r1 w1 z1 hq => ?_)
  obtain ⟨rfl, rfl, rfl⟩ := hq
  have hM1 := hM
  refine l_aload_n dL_law_561 rfl ?_
  refine l_aload_n dL_law_562 rfl ?_
  refine l_iload_n dL_law_563 rfl ?_
  refine l_iconst (v := nI 1) dL_law_564 (by decide) ?_
  refine l_iadd dL_law_565 ?_
  refine l_sld (i + 1) dL_law_566 (nI_addN i 1) (by omega) (by omega) ?_
  refine l_aload_n dL_law_567 rfl ?_
  refine l_iload_n dL_law_568 rfl ?_
  refine l_iconst (v := nI 2) dL_law_569 (by decide) ?_
  refine l_iadd dL_law_570 ?_
  refine l_sld (i + 2) dL_law_571 (nI_addN i 2) (by omega) (by omega) ?_
  refine l_aload_n dL_law_572 rfl ?_
  refine l_iload_n dL_law_573 rfl ?_
  refine l_iconst (v := nI 3) dL_law_574 (by decide) ?_
  refine l_iadd dL_law_575 ?_
  refine l_sld (i + 3) dL_law_576 (nI_addN i 3) (by omega) (by omega) ?_
  refine l_c3 oX8_labelOf dL_law_577 ml_L_78 (c_labelOf hM1 hf.2.2.1 _ _ _ _) hM1.1 (by decide) (Nat.le_of_ble_eq_true rfl) hc hs (fun r2 w2 z2 hp => ?_)
  obtain ⟨rfl, rfl, rfl⟩ := hp
  refine l_icmp_eq (tgt := 816) dL_law_580 (by decide) (fun _ => ?_) (fun z => absurd rfl z)
  exact K _ _ _ _ _ _ _ ⟨hC, hM⟩
set_option maxHeartbeats 1000000 in
set_option maxRecDepth 100000 in
theorem l_case15 {b N B i cells slots : Nat} {xs : Nat → Int32} {w : Wd} {σ tx cm : Nat → Int32} {ns tn : Nat} {k : Bool} (hi : i + 4 ≤ N) (hN : N ≤ 2048) (hc : cells ≤ 600000) (hs : slots ≤ 7302250) (hI : LI w B σ tx cm ns tn k) (K : ∀ w' σ' tx' cm' ns' tn' k', LI w' B σ' tx' cm' ns' tn' k' → VL b N xs w' (B + 1021) cells slots [some (.ref b), some (.ref B), some (.ref (B + 1017)), some (.int (nI i))] [] 816) : VL b N xs w (B + 1021) cells slots [some (.ref b), some (.ref B), some (.ref (B + 1017)), some (.int (nI i))] [] 585 := by
  obtain ⟨hC, hM⟩ := hI
  have hf := CR_facts hC
  obtain ⟨fs, hB⟩ := hf.2.2.2.2
  refine l_aload_n dL_law_585 rfl ?_
  refine l_aload_n dL_law_586 rfl ?_
  refine l_iload_n dL_law_587 rfl ?_
  refine l_iconst (v := nI 1) dL_law_588 (by decide) ?_
  refine l_iadd dL_law_589 ?_
  refine l_sld (i + 1) dL_law_590 (nI_addN i 1) (by omega) (by omega) ?_
  refine l_aload_n dL_law_591 rfl ?_
  refine l_iload_n dL_law_592 rfl ?_
  refine l_iconst (v := nI 2) dL_law_593 (by decide) ?_
  refine l_iadd dL_law_594 ?_
  refine l_sld (i + 2) dL_law_595 (nI_addN i 2) (by omega) (by omega) ?_
  refine l_aload_n dL_law_596 rfl ?_
  refine l_iload_n dL_law_597 rfl ?_
  refine l_iconst (v := nI 3) dL_law_598 (by decide) ?_
  refine l_iadd dL_law_599 ?_
  refine l_sld (i + 3) dL_law_600 (nI_addN i 3) (by omega) (by omega) ?_
  refine l_c3 oX7_letter dL_law_601 ml_L_79 (k_letter hC _ _ _ _) hB (by decide) (Nat.le_of_ble_eq_true rfl) hc hs (fun r1 w1 z1 hq => ?_)
  obtain ⟨rfl, rfl, rfl⟩ := hq
  have hM1 := hM
  refine l_aload_n dL_law_604 rfl ?_
  refine l_aload_n dL_law_605 rfl ?_
  refine l_iload_n dL_law_606 rfl ?_
  refine l_iconst (v := nI 1) dL_law_607 (by decide) ?_
  refine l_iadd dL_law_608 ?_
  refine l_sld (i + 1) dL_law_609 (nI_addN i 1) (by omega) (by omega) ?_
  refine l_aload_n dL_law_610 rfl ?_
  refine l_iload_n dL_law_611 rfl ?_
  refine l_iconst (v := nI 2) dL_law_612 (by decide) ?_
  refine l_iadd dL_law_613 ?_
  refine l_sld (i + 2) dL_law_614 (nI_addN i 2) (by omega) (by omega) ?_
  refine l_aload_n dL_law_615 rfl ?_
  refine l_iload_n dL_law_616 rfl ?_
  refine l_iconst (v := nI 3) dL_law_617 (by decide) ?_
  refine l_iadd dL_law_618 ?_
  refine l_sld (i + 3) dL_law_619 (nI_addN i 3) (by omega) (by omega) ?_
  refine l_c3 oX8_letter dL_law_620 ml_L_82 (c_letter hM1 hf.2.2.1 _ _ _ _) hM1.1 (by decide) (Nat.le_of_ble_eq_true rfl) hc hs (fun r2 w2 z2 hp => ?_)
  obtain ⟨rfl, rfl, rfl⟩ := hp
  refine l_icmp_eq (tgt := 816) dL_law_623 (by decide) (fun _ => ?_) (fun z => absurd rfl z)
  exact K _ _ _ _ _ _ _ ⟨hC, hM⟩
set_option maxHeartbeats 1000000 in
set_option maxRecDepth 100000 in
theorem l_case16 {b N B i cells slots : Nat} {xs : Nat → Int32} {w : Wd} {σ tx cm : Nat → Int32} {ns tn : Nat} {k : Bool} (hi : i + 4 ≤ N) (hN : N ≤ 2048) (hc : cells ≤ 600000) (hs : slots ≤ 7302250) (hI : LI w B σ tx cm ns tn k) (K : ∀ w' σ' tx' cm' ns' tn' k', LI w' B σ' tx' cm' ns' tn' k' → VL b N xs w' (B + 1021) cells slots [some (.ref b), some (.ref B), some (.ref (B + 1017)), some (.int (nI i))] [] 816) : VL b N xs w (B + 1021) cells slots [some (.ref b), some (.ref B), some (.ref (B + 1017)), some (.int (nI i))] [] 628 := by
  obtain ⟨hC, hM⟩ := hI
  have hf := CR_facts hC
  obtain ⟨fs, hB⟩ := hf.2.2.2.2
  refine l_aload_n dL_law_628 rfl ?_
  refine l_aload_n dL_law_629 rfl ?_
  refine l_iload_n dL_law_630 rfl ?_
  refine l_iconst (v := nI 1) dL_law_631 (by decide) ?_
  refine l_iadd dL_law_632 ?_
  refine l_sld (i + 1) dL_law_633 (nI_addN i 1) (by omega) (by omega) ?_
  refine l_aload_n dL_law_634 rfl ?_
  refine l_iload_n dL_law_635 rfl ?_
  refine l_iconst (v := nI 2) dL_law_636 (by decide) ?_
  refine l_iadd dL_law_637 ?_
  refine l_sld (i + 2) dL_law_638 (nI_addN i 2) (by omega) (by omega) ?_
  refine l_c2 oX7_rewriteOf dL_law_639 ml_L_83 (k_rewriteOf hC _ _ _) hB (by decide) (Nat.le_of_ble_eq_true rfl) hc hs (fun r1 w1 z1 hq => ?_)
  obtain ⟨rfl, rfl, q2, q3⟩ := hq
  have hM1 := hM.fr (w' := w1) (fun q h1 h2 => q3 q (by omega))
  refine l_aload_n dL_law_642 rfl ?_
  refine l_aload_n dL_law_643 rfl ?_
  refine l_iload_n dL_law_644 rfl ?_
  refine l_iconst (v := nI 1) dL_law_645 (by decide) ?_
  refine l_iadd dL_law_646 ?_
  refine l_sld (i + 1) dL_law_647 (nI_addN i 1) (by omega) (by omega) ?_
  refine l_aload_n dL_law_648 rfl ?_
  refine l_iload_n dL_law_649 rfl ?_
  refine l_iconst (v := nI 2) dL_law_650 (by decide) ?_
  refine l_iadd dL_law_651 ?_
  refine l_sld (i + 2) dL_law_652 (nI_addN i 2) (by omega) (by omega) ?_
  refine l_c2 oX8_rewriteOf dL_law_653 ml_L_86 (c_rewriteOf hM1 hf.2.2.1 _ _ _) hM1.1 (by decide) (Nat.le_of_ble_eq_true rfl) hc hs (fun r2 w2 z2 hp => ?_)
  obtain ⟨rfl, rfl, cm2, p2, p3⟩ := hp
  refine l_icmp_eq (tgt := 816) dL_law_656 (by decide) (fun _ => ?_) (fun z => absurd rfl z)
  exact K _ _ _ _ _ _ _ ⟨q2.fr (fun q h1 h2 => p3 q (by omega)), p2⟩
set_option maxHeartbeats 1000000 in
set_option maxRecDepth 100000 in
theorem l_case17 {b N B i cells slots : Nat} {xs : Nat → Int32} {w : Wd} {σ tx cm : Nat → Int32} {ns tn : Nat} {k : Bool} (hi : i + 4 ≤ N) (hN : N ≤ 2048) (hc : cells ≤ 600000) (hs : slots ≤ 7302250) (hI : LI w B σ tx cm ns tn k) (K : ∀ w' σ' tx' cm' ns' tn' k', LI w' B σ' tx' cm' ns' tn' k' → VL b N xs w' (B + 1021) cells slots [some (.ref b), some (.ref B), some (.ref (B + 1017)), some (.int (nI i))] [] 816) : VL b N xs w (B + 1021) cells slots [some (.ref b), some (.ref B), some (.ref (B + 1017)), some (.int (nI i))] [] 661 := by
  obtain ⟨hC, hM⟩ := hI
  have hf := CR_facts hC
  obtain ⟨fs, hB⟩ := hf.2.2.2.2
  refine l_aload_n dL_law_661 rfl ?_
  refine l_aload_n dL_law_662 rfl ?_
  refine l_iload_n dL_law_663 rfl ?_
  refine l_iconst (v := nI 1) dL_law_664 (by decide) ?_
  refine l_iadd dL_law_665 ?_
  refine l_sld (i + 1) dL_law_666 (nI_addN i 1) (by omega) (by omega) ?_
  refine l_aload_n dL_law_667 rfl ?_
  refine l_iload_n dL_law_668 rfl ?_
  refine l_iconst (v := nI 2) dL_law_669 (by decide) ?_
  refine l_iadd dL_law_670 ?_
  refine l_sld (i + 2) dL_law_671 (nI_addN i 2) (by omega) (by omega) ?_
  refine l_aload_n dL_law_672 rfl ?_
  refine l_iload_n dL_law_673 rfl ?_
  refine l_iconst (v := nI 3) dL_law_674 (by decide) ?_
  refine l_iadd dL_law_675 ?_
  refine l_sld (i + 3) dL_law_676 (nI_addN i 3) (by omega) (by omega) ?_
  refine l_c3 oX7_ranked dL_law_677 ml_L_87 (k_ranked hC _ _ _ _) hB (by decide) (Nat.le_of_ble_eq_true rfl) hc hs (fun r1 w1 z1 hq => ?_)
  obtain ⟨rfl, rfl, rfl⟩ := hq
  have hM1 := hM
  refine l_aload_n dL_law_680 rfl ?_
  refine l_aload_n dL_law_681 rfl ?_
  refine l_iload_n dL_law_682 rfl ?_
  refine l_iconst (v := nI 1) dL_law_683 (by decide) ?_
  refine l_iadd dL_law_684 ?_
  refine l_sld (i + 1) dL_law_685 (nI_addN i 1) (by omega) (by omega) ?_
  refine l_aload_n dL_law_686 rfl ?_
  refine l_iload_n dL_law_687 rfl ?_
  refine l_iconst (v := nI 2) dL_law_688 (by decide) ?_
  refine l_iadd dL_law_689 ?_
  refine l_sld (i + 2) dL_law_690 (nI_addN i 2) (by omega) (by omega) ?_
  refine l_aload_n dL_law_691 rfl ?_
  refine l_iload_n dL_law_692 rfl ?_
  refine l_iconst (v := nI 3) dL_law_693 (by decide) ?_
  refine l_iadd dL_law_694 ?_
  refine l_sld (i + 3) dL_law_695 (nI_addN i 3) (by omega) (by omega) ?_
  refine l_c3 oX8_ranked dL_law_696 ml_L_90 (c_ranked hM1 _ _ _ _) hM1.1 (by decide) (Nat.le_of_ble_eq_true rfl) hc hs (fun r2 w2 z2 hp => ?_)
  obtain ⟨rfl, rfl, rfl⟩ := hp
  refine l_icmp_eq (tgt := 816) dL_law_699 (by decide) (fun _ => ?_) (fun z => absurd rfl z)
  exact K _ _ _ _ _ _ _ ⟨hC, hM⟩
set_option maxHeartbeats 1000000 in
set_option maxRecDepth 100000 in
theorem l_case18 {b N B i cells slots : Nat} {xs : Nat → Int32} {w : Wd} {σ tx cm : Nat → Int32} {ns tn : Nat} {k : Bool} (hi : i + 4 ≤ N) (hN : N ≤ 2048) (hc : cells ≤ 600000) (hs : slots ≤ 7302250) (hI : LI w B σ tx cm ns tn k) (K : ∀ w' σ' tx' cm' ns' tn' k', LI w' B σ' tx' cm' ns' tn' k' → VL b N xs w' (B + 1021) cells slots [some (.ref b), some (.ref B), some (.ref (B + 1017)), some (.int (nI i))] [] 816) : VL b N xs w (B + 1021) cells slots [some (.ref b), some (.ref B), some (.ref (B + 1017)), some (.int (nI i))] [] 704 := by
  obtain ⟨hC, hM⟩ := hI
  have hf := CR_facts hC
  obtain ⟨fs, hB⟩ := hf.2.2.2.2
  refine l_aload_n dL_law_704 rfl ?_
  refine l_aload_n dL_law_705 rfl ?_
  refine l_iload_n dL_law_706 rfl ?_
  refine l_iconst (v := nI 1) dL_law_707 (by decide) ?_
  refine l_iadd dL_law_708 ?_
  refine l_sld (i + 1) dL_law_709 (nI_addN i 1) (by omega) (by omega) ?_
  refine l_aload_n dL_law_710 rfl ?_
  refine l_iload_n dL_law_711 rfl ?_
  refine l_iconst (v := nI 2) dL_law_712 (by decide) ?_
  refine l_iadd dL_law_713 ?_
  refine l_sld (i + 2) dL_law_714 (nI_addN i 2) (by omega) (by omega) ?_
  refine l_c2 oX7_room dL_law_715 ml_L_91 (k_room hC _ _ _) hB (by decide) (Nat.le_of_ble_eq_true rfl) hc hs (fun r1 w1 z1 hq => ?_)
  obtain ⟨rfl, rfl, rfl⟩ := hq
  have hM1 := hM
  refine l_aload_n dL_law_718 rfl ?_
  refine l_aload_n dL_law_719 rfl ?_
  refine l_iload_n dL_law_720 rfl ?_
  refine l_iconst (v := nI 1) dL_law_721 (by decide) ?_
  refine l_iadd dL_law_722 ?_
  refine l_sld (i + 1) dL_law_723 (nI_addN i 1) (by omega) (by omega) ?_
  refine l_aload_n dL_law_724 rfl ?_
  refine l_iload_n dL_law_725 rfl ?_
  refine l_iconst (v := nI 2) dL_law_726 (by decide) ?_
  refine l_iadd dL_law_727 ?_
  refine l_sld (i + 2) dL_law_728 (nI_addN i 2) (by omega) (by omega) ?_
  refine l_c2 oX8_room dL_law_729 ml_L_94 (c_room hM1 hf.2.2.1 _ _ _) hM1.1 (by decide) (Nat.le_of_ble_eq_true rfl) hc hs (fun r2 w2 z2 hp => ?_)
  obtain ⟨rfl, rfl, rfl⟩ := hp
  refine l_icmp_eq (tgt := 816) dL_law_732 (by decide) (fun _ => ?_) (fun z => absurd rfl z)
  exact K _ _ _ _ _ _ _ ⟨hC, hM⟩
set_option maxHeartbeats 1000000 in
set_option maxRecDepth 100000 in
theorem l_case19 {b N B i cells slots : Nat} {xs : Nat → Int32} {w : Wd} {σ tx cm : Nat → Int32} {ns tn : Nat} {k : Bool} (hi : i + 4 ≤ N) (hN : N ≤ 2048) (hc : cells ≤ 600000) (hs : slots ≤ 7302250) (hI : LI w B σ tx cm ns tn k) (K : ∀ w' σ' tx' cm' ns' tn' k', LI w' B σ' tx' cm' ns' tn' k' → VL b N xs w' (B + 1021) cells slots [some (.ref b), some (.ref B), some (.ref (B + 1017)), some (.int (nI i))] [] 816) : VL b N xs w (B + 1021) cells slots [some (.ref b), some (.ref B), some (.ref (B + 1017)), some (.int (nI i))] [] 737 := by
  obtain ⟨hC, hM⟩ := hI
  have hf := CR_facts hC
  obtain ⟨fs, hB⟩ := hf.2.2.2.2
  refine l_aload_n dL_law_737 rfl ?_
  refine l_aload_n dL_law_738 rfl ?_
  refine l_iload_n dL_law_739 rfl ?_
  refine l_iconst (v := nI 1) dL_law_740 (by decide) ?_
  refine l_iadd dL_law_741 ?_
  refine l_sld (i + 1) dL_law_742 (nI_addN i 1) (by omega) (by omega) ?_
  refine l_aload_n dL_law_743 rfl ?_
  refine l_iload_n dL_law_744 rfl ?_
  refine l_iconst (v := nI 2) dL_law_745 (by decide) ?_
  refine l_iadd dL_law_746 ?_
  refine l_sld (i + 2) dL_law_747 (nI_addN i 2) (by omega) (by omega) ?_
  refine l_c2 oX7_visitor dL_law_748 ml_L_95 (k_visitor hC _ _ _) hB (by decide) (Nat.le_of_ble_eq_true rfl) hc hs (fun r1 w1 z1 hq => ?_)
  obtain ⟨rfl, rfl, rfl⟩ := hq
  have hM1 := hM
  refine l_aload_n dL_law_751 rfl ?_
  refine l_aload_n dL_law_752 rfl ?_
  refine l_iload_n dL_law_753 rfl ?_
  refine l_iconst (v := nI 1) dL_law_754 (by decide) ?_
  refine l_iadd dL_law_755 ?_
  refine l_sld (i + 1) dL_law_756 (nI_addN i 1) (by omega) (by omega) ?_
  refine l_aload_n dL_law_757 rfl ?_
  refine l_iload_n dL_law_758 rfl ?_
  refine l_iconst (v := nI 2) dL_law_759 (by decide) ?_
  refine l_iadd dL_law_760 ?_
  refine l_sld (i + 2) dL_law_761 (nI_addN i 2) (by omega) (by omega) ?_
  refine l_c2 oX8_visitor dL_law_762 ml_L_98 (c_visitor hM1 hf.2.2.1 _ _ _) hM1.1 (by decide) (Nat.le_of_ble_eq_true rfl) hc hs (fun r2 w2 z2 hp => ?_)
  obtain ⟨rfl, rfl, rfl⟩ := hp
  refine l_icmp_eq (tgt := 816) dL_law_765 (by decide) (fun _ => ?_) (fun z => absurd rfl z)
  exact K _ _ _ _ _ _ _ ⟨hC, hM⟩
set_option maxHeartbeats 1000000 in
set_option maxRecDepth 100000 in
theorem l_case20 {b N B i cells slots : Nat} {xs : Nat → Int32} {w : Wd} {σ tx cm : Nat → Int32} {ns tn : Nat} {k : Bool} (hi : i + 4 ≤ N) (hN : N ≤ 2048) (hc : cells ≤ 600000) (hs : slots ≤ 7302250) (hI : LI w B σ tx cm ns tn k) (K : ∀ w' σ' tx' cm' ns' tn' k', LI w' B σ' tx' cm' ns' tn' k' → VL b N xs w' (B + 1021) cells slots [some (.ref b), some (.ref B), some (.ref (B + 1017)), some (.int (nI i))] [] 816) : VL b N xs w (B + 1021) cells slots [some (.ref b), some (.ref B), some (.ref (B + 1017)), some (.int (nI i))] [] 770 := by
  obtain ⟨hC, hM⟩ := hI
  have hf := CR_facts hC
  obtain ⟨fs, hB⟩ := hf.2.2.2.2
  refine l_aload_n dL_law_770 rfl ?_
  refine l_aload_n dL_law_771 rfl ?_
  refine l_iload_n dL_law_772 rfl ?_
  refine l_iconst (v := nI 1) dL_law_773 (by decide) ?_
  refine l_iadd dL_law_774 ?_
  refine l_sld (i + 1) dL_law_775 (nI_addN i 1) (by omega) (by omega) ?_
  refine l_c1 oX7_labelsWith dL_law_776 ml_L_99 (k_labelsWith hC _ _) hB (by decide) (Nat.le_of_ble_eq_true rfl) hc hs (fun r1 w1 z1 hq => ?_)
  obtain ⟨rfl, rfl, q2, q3⟩ := hq
  have hM1 := hM.fr (w' := w1) (fun q h1 h2 => q3 q (by omega))
  refine l_aload_n dL_law_779 rfl ?_
  refine l_aload_n dL_law_780 rfl ?_
  refine l_iload_n dL_law_781 rfl ?_
  refine l_iconst (v := nI 1) dL_law_782 (by decide) ?_
  refine l_iadd dL_law_783 ?_
  refine l_sld (i + 1) dL_law_784 (nI_addN i 1) (by omega) (by omega) ?_
  refine l_c1 oX8_labelsWith dL_law_785 ml_L_102 (c_labelsWith hM1 hf.2.2.1 hf.2.1 _ _) hM1.1 (by decide) (Nat.le_of_ble_eq_true rfl) hc hs (fun r2 w2 z2 hp => ?_)
  obtain ⟨rfl, rfl, rfl⟩ := hp
  refine l_icmp_eq (tgt := 816) dL_law_788 (by decide) (fun _ => ?_) (fun z => absurd rfl z)
  exact K _ _ _ _ _ _ _ ⟨q2, hM1⟩
set_option maxHeartbeats 1000000 in
set_option maxRecDepth 100000 in
theorem l_case21 {b N B i cells slots : Nat} {xs : Nat → Int32} {w : Wd} {σ tx cm : Nat → Int32} {ns tn : Nat} {k : Bool} (hi : i + 4 ≤ N) (hN : N ≤ 2048) (hc : cells ≤ 600000) (hs : slots ≤ 7302250) (hI : LI w B σ tx cm ns tn k) (K : ∀ w' σ' tx' cm' ns' tn' k', LI w' B σ' tx' cm' ns' tn' k' → VL b N xs w' (B + 1021) cells slots [some (.ref b), some (.ref B), some (.ref (B + 1017)), some (.int (nI i))] [] 816) : VL b N xs w (B + 1021) cells slots [some (.ref b), some (.ref B), some (.ref (B + 1017)), some (.int (nI i))] [] 793 := by
  obtain ⟨hC, hM⟩ := hI
  have hf := CR_facts hC
  obtain ⟨fs, hB⟩ := hf.2.2.2.2
  refine l_aload_n dL_law_793 rfl ?_
  refine l_aload_n dL_law_794 rfl ?_
  refine l_iload_n dL_law_795 rfl ?_
  refine l_iconst (v := nI 1) dL_law_796 (by decide) ?_
  refine l_iadd dL_law_797 ?_
  refine l_sld (i + 1) dL_law_798 (nI_addN i 1) (by omega) (by omega) ?_
  refine l_c1 oX7_count dL_law_799 ml_L_103 (k_count hC _ _) hB (by decide) (Nat.le_of_ble_eq_true rfl) hc hs (fun r1 w1 z1 hq => ?_)
  obtain ⟨rfl, rfl, rfl⟩ := hq
  have hM1 := hM
  refine l_aload_n dL_law_802 rfl ?_
  refine l_aload_n dL_law_803 rfl ?_
  refine l_iload_n dL_law_804 rfl ?_
  refine l_iconst (v := nI 1) dL_law_805 (by decide) ?_
  refine l_iadd dL_law_806 ?_
  refine l_sld (i + 1) dL_law_807 (nI_addN i 1) (by omega) (by omega) ?_
  refine l_c1 oX8_count dL_law_808 ml_L_106 (c_count hM1 hf.2.2.1 _ _) hM1.1 (by decide) (Nat.le_of_ble_eq_true rfl) hc hs (fun r2 w2 z2 hp => ?_)
  obtain ⟨rfl, rfl, rfl⟩ := hp
  refine l_icmp_eq (tgt := 816) dL_law_811 (by decide) (fun _ => ?_) (fun z => absurd rfl z)
  exact K _ _ _ _ _ _ _ ⟨hC, hM⟩
