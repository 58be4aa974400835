/-! the law's cases, one by one: both sides are called, their answers are the same -/
def gXs (Γ : gC) (k : Nat) : Int := (Γ.2.2.2.2.2.2 k).toInt
theorem gXs_r (Γ : gC) (k : Nat) : gRng (gXs Γ k) := ⟨Int32.le_toInt _, by have := Int32.toInt_lt (Γ.2.2.2.2.2.2 k); unfold gXs; omega⟩
/-- the law, its name not asked -/
abbrev gmL (nm : String) : gY := (⟨RL, nm, "([I)Z"⟩, code, 4, ret)
abbrev gL4 (Γ : gC) (ad : Nat → Nat) (i : Nat) : List (Nat × Value) := [(3, .int (iv (i : Int))), (2, .ref (gad (gSS ad) 145)), (1, .ref (gad (gSS ad) 0)), (0, .ref Γ.2.2.2.2.1)]
section LW
variable {l : Launch} {Γ : gC} {nm : String} {ad : Nat → Nat} {B : gB} {I : Nat → Nat → Int} {J : Nat → Nat → Int64} {σ : gSgm} {Q : Option Value → gM → Prop} {i : Nat}
theorem gg_arg {j w pc : Nat} {st : List Value} (d0 : decode code pc = .ok (.aload_n 0, 1)) (d1 : decode code (pc + 1) = .ok (.iload_n 3, 1)) (push : ∀ st, gG l Γ (gmL nm) B (pc + 2 + w) (gL4 Γ ad i) (.int (iv (j : Int)) :: st) (gSS ad, I, J) Q → gG l Γ (gmL nm) B (pc + 2) (gL4 Γ ad i) st (gSS ad, I, J) Q)
    (d3 : decode code (pc + 2 + w) = .ok (.iadd, 1)) (d4 : decode code (pc + 2 + w + 1) = .ok (.iaload, 1)) (h : i + j < Γ.2.2.2.2.2.1) (kk : gG l Γ (gmL nm) B (pc + 2 + w + 2) (gL4 Γ ad i) (.int (iv (gXs Γ (i + j))) :: st) (gSS ad, I, J) Q) : gG l Γ (gmL nm) B pc (gL4 Γ ad i) st (gSS ad, I, J) Q := by
  refine gg_aload_n d0 3 rfl ?_
  refine gg_iload_n d1 0 rfl ?_
  refine push _ ?_
  refine gg_iadd d3 ?_
  refine gg_sld d4 (by omega) ?_
  rw [show ((i : Int) + (j : Int)).toNat = i + j by omega, show Γ.2.2.2.2.2.2 (i + j) = iv (gXs Γ (i + j)) from (iv_of _).symm]
  exact kk
theorem gg_same {mt : gY} {pc tgt : Nat} {off : Int} {v : Int32} {ls : List (Nat × Value)} {st : List Value} {μ : gM} (d : decode mt.2.1 pc = .ok (.if_icmp .eq off, 3)) (ht : (pc : Int) + off = (tgt : Int)) (kt : gG l Γ mt B tgt ls st μ Q) : gG l Γ mt B pc ls (.int v :: .int v :: st) μ Q := fun p e R s m args below meth c Zf H locs lr X hR hW hS hl =>
  lv_icmp_eq X.1 X.2.1 d ht (fun _ => kt p e R s m args below meth c Zf H locs lr X hR hW hS hl) (fun h => absurd rfl h)
theorem gg_samel {mt : gY} {pc tgt : Nat} {off : Int} {x : Int64} {ls : List (Nat × Value)} {st : List Value} {μ : gM} (d : decode mt.2.1 pc = .ok (.lcmp, 1)) (d2 : decode mt.2.1 (pc + 1) = .ok (.ifCond .eq off, 3)) (ht : ((pc + 1 : Nat) : Int) + off = (tgt : Int)) (kt : gG l Γ mt B tgt ls st μ Q) : gG l Γ mt B pc ls (.long x :: .long x :: st) μ Q := gg_lcmp_eq d d2 ht (fun _ => kt) (fun h => absurd rfl h)
theorem w_law_0 (hi : i + 7 ≤ Γ.2.2.2.2.2.1) (hp : gPs σ) (hc : gCs σ I J) (hm : gMs σ I J) (hB : 901 ≤ B.1 ∧ (B.2.2.2.1 ≤ B.2.1 ∧ B.2.2.2.2 ≤ B.2.2.1)) (hk : ∀ σ I J, gPs σ → gCs σ I J → gMs σ I J → gG l Γ (gmL nm) B 1178 (gL4 Γ ad i) [] (gSS ad, I, J) Q) : gG l Γ (gmL nm) B 152 (gL4 Γ ad i) [] (gSS ad, I, J) Q := by
  refine gg_aload_n dL_law_152 2 rfl ?_
  refine gg_arg (j := 1) (w := 1) dL_law_153 dL_law_154 (fun st k => gg_iconst dL_law_155 k) dL_law_156 dL_law_157 (by omega) ?_
  refine gg_arg (j := 2) (w := 1) dL_law_158 dL_law_159 (fun st k => gg_iconst dL_law_160 k) dL_law_161 dL_law_162 (by omega) ?_
  refine gg_arg (j := 3) (w := 1) dL_law_163 dL_law_164 (fun st k => gg_iconst dL_law_165 k) dL_law_166 dL_law_167 (by omega) ?_
  refine gg_arg (j := 4) (w := 1) dL_law_168 dL_law_169 (fun st k => gg_iconst dL_law_170 k) dL_law_171 dL_law_172 (by omega) ?_
  refine gg_arg (j := 5) (w := 1) dL_law_173 dL_law_174 (fun st k => gg_iconst dL_law_175 k) dL_law_176 dL_law_177 (by omega) ?_
  refine gg_arg (j := 6) (w := 2) dL_law_178 dL_law_179 (fun st k => gg_bipush dL_law_180 (by decide) k) dL_law_182 dL_law_183 (by omega) ?_
  refine gg_callVi (own := RL) (yt := gm_X9_feed) (k := 0) (rest := []) rfl gl_RL_13 gk_X9_feed gr_X9_feed dL_law_184 (s9_feed (gXs_r Γ (i + 1)) (gXs_r Γ (i + 2)) (gXs_r Γ (i + 3)) (gXs_r Γ (i + 4)) (gXs_r Γ (i + 5)) (gXs_r Γ (i + 6)) hp hc) sh_0 pl_0 (by decide) rfl rfl rfl (Nat.le_of_ble_eq_true rfl) hB.1 hB.2 (fun e9 μ' h => ?_)
  obtain ⟨I1, J1, rfl, hc1, hh, rfl⟩ := h
  have hm1 := gMs_hi hm hh
  refine gg_aload_n dL_law_187 1 rfl ?_
  refine gg_arg (j := 1) (w := 1) dL_law_188 dL_law_189 (fun st k => gg_iconst dL_law_190 k) dL_law_191 dL_law_192 (by omega) ?_
  refine gg_arg (j := 2) (w := 1) dL_law_193 dL_law_194 (fun st k => gg_iconst dL_law_195 k) dL_law_196 dL_law_197 (by omega) ?_
  refine gg_arg (j := 3) (w := 1) dL_law_198 dL_law_199 (fun st k => gg_iconst dL_law_200 k) dL_law_201 dL_law_202 (by omega) ?_
  refine gg_arg (j := 4) (w := 1) dL_law_203 dL_law_204 (fun st k => gg_iconst dL_law_205 k) dL_law_206 dL_law_207 (by omega) ?_
  refine gg_arg (j := 5) (w := 1) dL_law_208 dL_law_209 (fun st k => gg_iconst dL_law_210 k) dL_law_211 dL_law_212 (by omega) ?_
  refine gg_arg (j := 6) (w := 2) dL_law_213 dL_law_214 (fun st k => gg_bipush dL_law_215 (by decide) k) dL_law_217 dL_law_218 (by omega) ?_
  refine gg_callVi (own := RL) (yt := gm_X10_feed) (k := 145) (rest := [.int (iv _)]) rfl gl_RL_17 gk_X10_feed gr_X10_feed dL_law_219 (s10_feed (gXs_r Γ (i + 1)) (gXs_r Γ (i + 2)) (gXs_r Γ (i + 3)) (gXs_r Γ (i + 4)) (gXs_r Γ (i + 5)) (gXs_r Γ (i + 6)) hp hm1) sh_145 pl_145 (by decide) rfl rfl rfl (Nat.le_of_ble_eq_true rfl) hB.1 hB.2 (fun e10 μ' h => ?_)
  obtain ⟨I2, J2, rfl, hm2, hl, rfl⟩ := h
  refine gg_same (tgt := 1178) dL_law_222 (by decide) ?_
  exact hk _ _ _ (u_feed hp) (gCs_lo hc1 hl) hm2
theorem w_law_1 (hi : i + 7 ≤ Γ.2.2.2.2.2.1) (hp : gPs σ) (hc : gCs σ I J) (hm : gMs σ I J) (hB : 901 ≤ B.1 ∧ (B.2.2.2.1 ≤ B.2.1 ∧ B.2.2.2.2 ≤ B.2.2.1)) (hk : ∀ σ I J, gPs σ → gCs σ I J → gMs σ I J → gG l Γ (gmL nm) B 1178 (gL4 Γ ad i) [] (gSS ad, I, J) Q) : gG l Γ (gmL nm) B 227 (gL4 Γ ad i) [] (gSS ad, I, J) Q := by
  refine gg_aload_n dL_law_227 2 rfl ?_
  refine gg_arg (j := 1) (w := 1) dL_law_228 dL_law_229 (fun st k => gg_iconst dL_law_230 k) dL_law_231 dL_law_232 (by omega) ?_
  refine gg_callVi (own := RL) (yt := gm_X9_text) (k := 0) (rest := []) rfl gl_RL_18 gk_X9_text gr_X9_text dL_law_233 (s9_text (gXs_r Γ (i + 1)) hp hc) sh_0 pl_0 (by decide) rfl rfl rfl (Nat.le_of_ble_eq_true rfl) hB.1 hB.2 (fun e9 μ' h => ?_)
  obtain ⟨⟨I1, J1, rfl, hc1, hh, rfl⟩, hp1, hg⟩ := h
  have hm1 := gMs_hi hm hh
  refine gg_aload_n dL_law_236 1 rfl ?_
  refine gg_arg (j := 1) (w := 1) dL_law_237 dL_law_238 (fun st k => gg_iconst dL_law_239 k) dL_law_240 dL_law_241 (by omega) ?_
  refine gg_callVi (own := RL) (yt := gm_X10_text) (k := 145) (rest := [.int (iv _)]) rfl gl_RL_22 gk_X10_text gr_X10_text dL_law_242 (s10_text (gXs_r Γ (i + 1)) hp hm1 hg) sh_145 pl_145 (by decide) rfl rfl rfl (Nat.le_of_ble_eq_true rfl) hB.1 hB.2 (fun e10 μ' h => ?_)
  obtain ⟨I2, J2, rfl, hm2, hl, rfl⟩ := h
  refine gg_same (tgt := 1178) dL_law_245 (by decide) ?_
  exact hk _ _ _ hp1 (gCs_lo hc1 hl) hm2
theorem w_law_2 (hi : i + 7 ≤ Γ.2.2.2.2.2.1) (hp : gPs σ) (hc : gCs σ I J) (hm : gMs σ I J) (hB : 901 ≤ B.1 ∧ (B.2.2.2.1 ≤ B.2.1 ∧ B.2.2.2.2 ≤ B.2.2.1)) (hk : ∀ σ I J, gPs σ → gCs σ I J → gMs σ I J → gG l Γ (gmL nm) B 1178 (gL4 Γ ad i) [] (gSS ad, I, J) Q) : gG l Γ (gmL nm) B 250 (gL4 Γ ad i) [] (gSS ad, I, J) Q := by
  refine gg_aload_n dL_law_250 2 rfl ?_
  refine gg_arg (j := 1) (w := 1) dL_law_251 dL_law_252 (fun st k => gg_iconst dL_law_253 k) dL_law_254 dL_law_255 (by omega) ?_
  refine gg_arg (j := 2) (w := 1) dL_law_256 dL_law_257 (fun st k => gg_iconst dL_law_258 k) dL_law_259 dL_law_260 (by omega) ?_
  refine gg_callVi (own := RL) (yt := gm_X9_let) (k := 0) (rest := []) rfl gl_RL_23 gk_X9_let gr_X9_let dL_law_261 (s9_let (v := gXs Γ (i + 2)) (gXs_r Γ (i + 1)) hp hc) sh_0 pl_0 (by decide) rfl rfl rfl (Nat.le_of_ble_eq_true rfl) hB.1 hB.2 (fun e9 μ' h => ?_)
  obtain ⟨I1, J1, rfl, hc1, hh, rfl⟩ := h
  have hm1 := gMs_hi hm hh
  refine gg_aload_n dL_law_264 1 rfl ?_
  refine gg_arg (j := 1) (w := 1) dL_law_265 dL_law_266 (fun st k => gg_iconst dL_law_267 k) dL_law_268 dL_law_269 (by omega) ?_
  refine gg_arg (j := 2) (w := 1) dL_law_270 dL_law_271 (fun st k => gg_iconst dL_law_272 k) dL_law_273 dL_law_274 (by omega) ?_
  refine gg_callVi (own := RL) (yt := gm_X10_let) (k := 145) (rest := [.int (iv _)]) rfl gl_RL_27 gk_X10_let gr_X10_let dL_law_275 (s10_let (v := gXs Γ (i + 2)) (gXs_r Γ (i + 1)) hp hm1) sh_145 pl_145 (by decide) rfl rfl rfl (Nat.le_of_ble_eq_true rfl) hB.1 hB.2 (fun e10 μ' h => ?_)
  obtain ⟨I2, J2, rfl, hm2, hl, rfl⟩ := h
  refine gg_same (tgt := 1178) dL_law_278 (by decide) ?_
  exact hk _ _ _ (u_let hp) (gCs_lo hc1 hl) hm2
theorem w_law_3 (hi : i + 7 ≤ Γ.2.2.2.2.2.1) (hp : gPs σ) (hc : gCs σ I J) (hm : gMs σ I J) (hB : 901 ≤ B.1 ∧ (B.2.2.2.1 ≤ B.2.1 ∧ B.2.2.2.2 ≤ B.2.2.1)) (hk : ∀ σ I J, gPs σ → gCs σ I J → gMs σ I J → gG l Γ (gmL nm) B 1178 (gL4 Γ ad i) [] (gSS ad, I, J) Q) : gG l Γ (gmL nm) B 283 (gL4 Γ ad i) [] (gSS ad, I, J) Q := by
  refine gg_aload_n dL_law_283 2 rfl ?_
  refine gg_arg (j := 1) (w := 1) dL_law_284 dL_law_285 (fun st k => gg_iconst dL_law_286 k) dL_law_287 dL_law_288 (by omega) ?_
  refine gg_arg (j := 2) (w := 1) dL_law_289 dL_law_290 (fun st k => gg_iconst dL_law_291 k) dL_law_292 dL_law_293 (by omega) ?_
  refine gg_arg (j := 3) (w := 1) dL_law_294 dL_law_295 (fun st k => gg_iconst dL_law_296 k) dL_law_297 dL_law_298 (by omega) ?_
  refine gg_callVi (own := RL) (yt := gm_X9_turn) (k := 0) (rest := []) rfl gl_RL_28 gk_X9_turn gr_X9_turn dL_law_299 (s9_turn (gXs_r Γ (i + 1)) (gXs_r Γ (i + 2)) (gXs_r Γ (i + 3)) hp hc) sh_0 pl_0 (by decide) rfl rfl rfl (Nat.le_of_ble_eq_true rfl) hB.1 hB.2 (fun e9 μ' h => ?_)
  obtain ⟨I1, J1, rfl, hc1, hh, rfl⟩ := h
  have hm1 := gMs_hi hm hh
  refine gg_aload_n dL_law_302 1 rfl ?_
  refine gg_arg (j := 1) (w := 1) dL_law_303 dL_law_304 (fun st k => gg_iconst dL_law_305 k) dL_law_306 dL_law_307 (by omega) ?_
  refine gg_arg (j := 2) (w := 1) dL_law_308 dL_law_309 (fun st k => gg_iconst dL_law_310 k) dL_law_311 dL_law_312 (by omega) ?_
  refine gg_arg (j := 3) (w := 1) dL_law_313 dL_law_314 (fun st k => gg_iconst dL_law_315 k) dL_law_316 dL_law_317 (by omega) ?_
  refine gg_callVi (own := RL) (yt := gm_X10_turn) (k := 145) (rest := [.int (iv _)]) rfl gl_RL_32 gk_X10_turn gr_X10_turn dL_law_318 (s10_turn (gXs_r Γ (i + 1)) (gXs_r Γ (i + 2)) (gXs_r Γ (i + 3)) hp hm1) sh_145 pl_145 (by decide) rfl rfl rfl (Nat.le_of_ble_eq_true rfl) hB.1 hB.2 (fun e10 μ' h => ?_)
  obtain ⟨I2, J2, rfl, hm2, hl, rfl⟩ := h
  refine gg_same (tgt := 1178) dL_law_321 (by decide) ?_
  exact hk _ _ _ (u_turn hp) (gCs_lo hc1 hl) hm2
theorem w_law_4 (hi : i + 7 ≤ Γ.2.2.2.2.2.1) (hp : gPs σ) (hc : gCs σ I J) (hm : gMs σ I J) (hB : 901 ≤ B.1 ∧ (B.2.2.2.1 ≤ B.2.1 ∧ B.2.2.2.2 ≤ B.2.2.1)) (hk : ∀ σ I J, gPs σ → gCs σ I J → gMs σ I J → gG l Γ (gmL nm) B 1178 (gL4 Γ ad i) [] (gSS ad, I, J) Q) : gG l Γ (gmL nm) B 326 (gL4 Γ ad i) [] (gSS ad, I, J) Q := by
  refine gg_aload_n dL_law_326 2 rfl ?_
  refine gg_arg (j := 1) (w := 1) dL_law_327 dL_law_328 (fun st k => gg_iconst dL_law_329 k) dL_law_330 dL_law_331 (by omega) ?_
  refine gg_arg (j := 2) (w := 1) dL_law_332 dL_law_333 (fun st k => gg_iconst dL_law_334 k) dL_law_335 dL_law_336 (by omega) ?_
  refine gg_arg (j := 3) (w := 1) dL_law_337 dL_law_338 (fun st k => gg_iconst dL_law_339 k) dL_law_340 dL_law_341 (by omega) ?_
  refine gg_callVi (own := RL) (yt := gm_X9_node) (k := 0) (rest := []) rfl gl_RL_33 gk_X9_node gr_X9_node dL_law_342 (s9_node (gXs_r Γ (i + 1)) (gXs_r Γ (i + 2)) (gXs_r Γ (i + 3)) hp hc) sh_0 pl_0 (by decide) rfl rfl rfl (Nat.le_of_ble_eq_true rfl) hB.1 hB.2 (fun e9 μ' h => ?_)
  obtain ⟨I1, J1, rfl, hc1, hh, rfl⟩ := h
  have hm1 := gMs_hi hm hh
  refine gg_aload_n dL_law_345 1 rfl ?_
  refine gg_arg (j := 1) (w := 1) dL_law_346 dL_law_347 (fun st k => gg_iconst dL_law_348 k) dL_law_349 dL_law_350 (by omega) ?_
  refine gg_arg (j := 2) (w := 1) dL_law_351 dL_law_352 (fun st k => gg_iconst dL_law_353 k) dL_law_354 dL_law_355 (by omega) ?_
  refine gg_arg (j := 3) (w := 1) dL_law_356 dL_law_357 (fun st k => gg_iconst dL_law_358 k) dL_law_359 dL_law_360 (by omega) ?_
  refine gg_callVi (own := RL) (yt := gm_X10_node) (k := 145) (rest := [.int (iv _)]) rfl gl_RL_36 gk_X10_node gr_X10_node dL_law_361 (s10_node (gXs_r Γ (i + 1)) (gXs_r Γ (i + 2)) (gXs_r Γ (i + 3)) hp hm1) sh_145 pl_145 (by decide) rfl rfl rfl (Nat.le_of_ble_eq_true rfl) hB.1 hB.2 (fun e10 μ' h => ?_)
  obtain ⟨I2, J2, rfl, hm2, hl, rfl⟩ := h
  refine gg_same (tgt := 1178) dL_law_364 (by decide) ?_
  exact hk _ _ _ hp (gCs_lo hc1 hl) hm2
theorem w_law_5 (hi : i + 7 ≤ Γ.2.2.2.2.2.1) (hp : gPs σ) (hc : gCs σ I J) (hm : gMs σ I J) (hB : 901 ≤ B.1 ∧ (B.2.2.2.1 ≤ B.2.1 ∧ B.2.2.2.2 ≤ B.2.2.1)) (hk : ∀ σ I J, gPs σ → gCs σ I J → gMs σ I J → gG l Γ (gmL nm) B 1178 (gL4 Γ ad i) [] (gSS ad, I, J) Q) : gG l Γ (gmL nm) B 369 (gL4 Γ ad i) [] (gSS ad, I, J) Q := by
  refine gg_aload_n dL_law_369 2 rfl ?_
  refine gg_arg (j := 1) (w := 1) dL_law_370 dL_law_371 (fun st k => gg_iconst dL_law_372 k) dL_law_373 dL_law_374 (by omega) ?_
  refine gg_arg (j := 2) (w := 1) dL_law_375 dL_law_376 (fun st k => gg_iconst dL_law_377 k) dL_law_378 dL_law_379 (by omega) ?_
  refine gg_arg (j := 3) (w := 1) dL_law_380 dL_law_381 (fun st k => gg_iconst dL_law_382 k) dL_law_383 dL_law_384 (by omega) ?_
  refine gg_callVi (own := RL) (yt := gm_X9_taken) (k := 0) (rest := []) rfl gl_RL_37 gk_X9_taken gr_X9_taken dL_law_385 (s9_taken (gXs_r Γ (i + 1)) (gXs_r Γ (i + 2)) (gXs_r Γ (i + 3)) hp hc) sh_0 pl_0 (by decide) rfl rfl rfl (Nat.le_of_ble_eq_true rfl) hB.1 hB.2 (fun e9 μ' h => ?_)
  obtain ⟨I1, J1, rfl, hc1, hh, rfl⟩ := h
  have hm1 := gMs_hi hm hh
  refine gg_aload_n dL_law_388 1 rfl ?_
  refine gg_arg (j := 1) (w := 1) dL_law_389 dL_law_390 (fun st k => gg_iconst dL_law_391 k) dL_law_392 dL_law_393 (by omega) ?_
  refine gg_arg (j := 2) (w := 1) dL_law_394 dL_law_395 (fun st k => gg_iconst dL_law_396 k) dL_law_397 dL_law_398 (by omega) ?_
  refine gg_arg (j := 3) (w := 1) dL_law_399 dL_law_400 (fun st k => gg_iconst dL_law_401 k) dL_law_402 dL_law_403 (by omega) ?_
  refine gg_callVi (own := RL) (yt := gm_X10_taken) (k := 145) (rest := [.int (iv _)]) rfl gl_RL_40 gk_X10_taken gr_X10_taken dL_law_404 (s10_taken (gXs_r Γ (i + 1)) (gXs_r Γ (i + 2)) (gXs_r Γ (i + 3)) hp hm1) sh_145 pl_145 (by decide) rfl rfl rfl (Nat.le_of_ble_eq_true rfl) hB.1 hB.2 (fun e10 μ' h => ?_)
  obtain ⟨I2, J2, rfl, hm2, hl, rfl⟩ := h
  refine gg_same (tgt := 1178) dL_law_407 (by decide) ?_
  exact hk _ _ _ hp (gCs_lo hc1 hl) hm2
theorem w_law_6 (hi : i + 7 ≤ Γ.2.2.2.2.2.1) (hp : gPs σ) (hc : gCs σ I J) (hm : gMs σ I J) (hB : 901 ≤ B.1 ∧ (B.2.2.2.1 ≤ B.2.1 ∧ B.2.2.2.2 ≤ B.2.2.1)) (hk : ∀ σ I J, gPs σ → gCs σ I J → gMs σ I J → gG l Γ (gmL nm) B 1178 (gL4 Γ ad i) [] (gSS ad, I, J) Q) : gG l Γ (gmL nm) B 412 (gL4 Γ ad i) [] (gSS ad, I, J) Q := by
  refine gg_aload_n dL_law_412 2 rfl ?_
  refine gg_arg (j := 1) (w := 1) dL_law_413 dL_law_414 (fun st k => gg_iconst dL_law_415 k) dL_law_416 dL_law_417 (by omega) ?_
  refine gg_callVl (own := RL) (yt := gm_X9_worth) (k := 0) (rest := []) rfl gl_RL_41 gk_X9_worth gr_X9_worth dL_law_418 (s9_worth (gXs_r Γ (i + 1)) hp hc) sh_0 pl_0 (by decide) rfl rfl rfl (Nat.le_of_ble_eq_true rfl) hB.1 hB.2 (fun e9 μ' h => ?_)
  obtain ⟨I1, J1, rfl, hc1, hh, rfl⟩ := h
  have hm1 := gMs_hi hm hh
  refine gg_aload_n dL_law_421 1 rfl ?_
  refine gg_arg (j := 1) (w := 1) dL_law_422 dL_law_423 (fun st k => gg_iconst dL_law_424 k) dL_law_425 dL_law_426 (by omega) ?_
  refine gg_callVl (own := RL) (yt := gm_X10_worth) (k := 145) (rest := [.long _]) rfl gl_RL_45 gk_X10_worth gr_X10_worth dL_law_427 (s10_worth (gXs_r Γ (i + 1)) hp hm1) sh_145 pl_145 (by decide) rfl rfl rfl (Nat.le_of_ble_eq_true rfl) hB.1 hB.2 (fun e10 μ' h => ?_)
  obtain ⟨I2, J2, rfl, hm2, hl, rfl⟩ := h
  refine gg_samel (tgt := 1178) dL_law_430 dL_law_431 (by decide) ?_
  exact hk _ _ _ hp (gCs_lo hc1 hl) hm2
theorem w_law_7 (hi : i + 7 ≤ Γ.2.2.2.2.2.1) (hp : gPs σ) (hc : gCs σ I J) (hm : gMs σ I J) (hB : 901 ≤ B.1 ∧ (B.2.2.2.1 ≤ B.2.1 ∧ B.2.2.2.2 ≤ B.2.2.1)) (hk : ∀ σ I J, gPs σ → gCs σ I J → gMs σ I J → gG l Γ (gmL nm) B 1178 (gL4 Γ ad i) [] (gSS ad, I, J) Q) : gG l Γ (gmL nm) B 436 (gL4 Γ ad i) [] (gSS ad, I, J) Q := by
  refine gg_aload_n dL_law_436 2 rfl ?_
  refine gg_arg (j := 1) (w := 1) dL_law_437 dL_law_438 (fun st k => gg_iconst dL_law_439 k) dL_law_440 dL_law_441 (by omega) ?_
  refine gg_arg (j := 2) (w := 1) dL_law_442 dL_law_443 (fun st k => gg_iconst dL_law_444 k) dL_law_445 dL_law_446 (by omega) ?_
  refine gg_callVi (own := RL) (yt := gm_X9_met) (k := 0) (rest := []) rfl gl_RL_46 gk_X9_met gr_X9_met dL_law_447 (s9_met (gXs_r Γ (i + 1)) (gXs_r Γ (i + 2)) hp hc) sh_0 pl_0 (by decide) rfl rfl rfl (Nat.le_of_ble_eq_true rfl) hB.1 hB.2 (fun e9 μ' h => ?_)
  obtain ⟨I1, J1, rfl, hc1, hh, rfl⟩ := h
  have hm1 := gMs_hi hm hh
  refine gg_aload_n dL_law_450 1 rfl ?_
  refine gg_arg (j := 1) (w := 1) dL_law_451 dL_law_452 (fun st k => gg_iconst dL_law_453 k) dL_law_454 dL_law_455 (by omega) ?_
  refine gg_arg (j := 2) (w := 1) dL_law_456 dL_law_457 (fun st k => gg_iconst dL_law_458 k) dL_law_459 dL_law_460 (by omega) ?_
  refine gg_callVi (own := RL) (yt := gm_X10_met) (k := 145) (rest := [.int (iv _)]) rfl gl_RL_49 gk_X10_met gr_X10_met dL_law_461 (s10_met (gXs_r Γ (i + 1)) (gXs_r Γ (i + 2)) hp hm1) sh_145 pl_145 (by decide) rfl rfl rfl (Nat.le_of_ble_eq_true rfl) hB.1 hB.2 (fun e10 μ' h => ?_)
  obtain ⟨I2, J2, rfl, hm2, hl, rfl⟩ := h
  refine gg_same (tgt := 1178) dL_law_464 (by decide) ?_
  exact hk _ _ _ hp (gCs_lo hc1 hl) hm2
theorem w_law_8 (hi : i + 7 ≤ Γ.2.2.2.2.2.1) (hp : gPs σ) (hc : gCs σ I J) (hm : gMs σ I J) (hB : 901 ≤ B.1 ∧ (B.2.2.2.1 ≤ B.2.1 ∧ B.2.2.2.2 ≤ B.2.2.1)) (hk : ∀ σ I J, gPs σ → gCs σ I J → gMs σ I J → gG l Γ (gmL nm) B 1178 (gL4 Γ ad i) [] (gSS ad, I, J) Q) : gG l Γ (gmL nm) B 469 (gL4 Γ ad i) [] (gSS ad, I, J) Q := by
  refine gg_aload_n dL_law_469 2 rfl ?_
  refine gg_arg (j := 1) (w := 1) dL_law_470 dL_law_471 (fun st k => gg_iconst dL_law_472 k) dL_law_473 dL_law_474 (by omega) ?_
  refine gg_arg (j := 2) (w := 1) dL_law_475 dL_law_476 (fun st k => gg_iconst dL_law_477 k) dL_law_478 dL_law_479 (by omega) ?_
  refine gg_callVl (own := RL) (yt := gm_X9_purse) (k := 0) (rest := []) rfl gl_RL_50 gk_X9_purse gr_X9_purse dL_law_480 (s9_purse (gXs_r Γ (i + 1)) (gXs_r Γ (i + 2)) hp hc) sh_0 pl_0 (by decide) rfl rfl rfl (Nat.le_of_ble_eq_true rfl) hB.1 hB.2 (fun e9 μ' h => ?_)
  obtain ⟨I1, J1, rfl, hc1, hh, rfl⟩ := h
  have hm1 := gMs_hi hm hh
  refine gg_aload_n dL_law_483 1 rfl ?_
  refine gg_arg (j := 1) (w := 1) dL_law_484 dL_law_485 (fun st k => gg_iconst dL_law_486 k) dL_law_487 dL_law_488 (by omega) ?_
  refine gg_arg (j := 2) (w := 1) dL_law_489 dL_law_490 (fun st k => gg_iconst dL_law_491 k) dL_law_492 dL_law_493 (by omega) ?_
  refine gg_callVl (own := RL) (yt := gm_X10_purse) (k := 145) (rest := [.long _]) rfl gl_RL_54 gk_X10_purse gr_X10_purse dL_law_494 (s10_purse (gXs_r Γ (i + 1)) (gXs_r Γ (i + 2)) hp hm1) sh_145 pl_145 (by decide) rfl rfl rfl (Nat.le_of_ble_eq_true rfl) hB.1 hB.2 (fun e10 μ' h => ?_)
  obtain ⟨I2, J2, rfl, hm2, hl, rfl⟩ := h
  refine gg_samel (tgt := 1178) dL_law_497 dL_law_498 (by decide) ?_
  exact hk _ _ _ hp (gCs_lo hc1 hl) hm2
theorem w_law_9 (hi : i + 7 ≤ Γ.2.2.2.2.2.1) (hp : gPs σ) (hc : gCs σ I J) (hm : gMs σ I J) (hB : 901 ≤ B.1 ∧ (B.2.2.2.1 ≤ B.2.1 ∧ B.2.2.2.2 ≤ B.2.2.1)) (hk : ∀ σ I J, gPs σ → gCs σ I J → gMs σ I J → gG l Γ (gmL nm) B 1178 (gL4 Γ ad i) [] (gSS ad, I, J) Q) : gG l Γ (gmL nm) B 503 (gL4 Γ ad i) [] (gSS ad, I, J) Q := by
  refine gg_aload_n dL_law_503 2 rfl ?_
  refine gg_arg (j := 1) (w := 1) dL_law_504 dL_law_505 (fun st k => gg_iconst dL_law_506 k) dL_law_507 dL_law_508 (by omega) ?_
  refine gg_arg (j := 2) (w := 1) dL_law_509 dL_law_510 (fun st k => gg_iconst dL_law_511 k) dL_law_512 dL_law_513 (by omega) ?_
  refine gg_callVi (own := RL) (yt := gm_X9_print) (k := 0) (rest := []) rfl gl_RL_55 gk_X9_print gr_X9_print dL_law_514 (s9_print (gXs_r Γ (i + 1)) (gXs_r Γ (i + 2)) hp hc) sh_0 pl_0 (by decide) rfl rfl rfl (Nat.le_of_ble_eq_true rfl) hB.1 hB.2 (fun e9 μ' h => ?_)
  obtain ⟨I1, J1, rfl, hc1, hh, rfl⟩ := h
  have hm1 := gMs_hi hm hh
  refine gg_aload_n dL_law_517 1 rfl ?_
  refine gg_arg (j := 1) (w := 1) dL_law_518 dL_law_519 (fun st k => gg_iconst dL_law_520 k) dL_law_521 dL_law_522 (by omega) ?_
  refine gg_arg (j := 2) (w := 1) dL_law_523 dL_law_524 (fun st k => gg_iconst dL_law_525 k) dL_law_526 dL_law_527 (by omega) ?_
  refine gg_callVi (own := RL) (yt := gm_X10_print) (k := 145) (rest := [.int (iv _)]) rfl gl_RL_58 gk_X10_print gr_X10_print dL_law_528 (s10_print (gXs_r Γ (i + 1)) (gXs_r Γ (i + 2)) hp hm1) sh_145 pl_145 (by decide) rfl rfl rfl (Nat.le_of_ble_eq_true rfl) hB.1 hB.2 (fun e10 μ' h => ?_)
  obtain ⟨I2, J2, rfl, hm2, hl, rfl⟩ := h
  refine gg_same (tgt := 1178) dL_law_531 (by decide) ?_
  exact hk _ _ _ hp (gCs_lo hc1 hl) hm2
theorem w_law_10 (hi : i + 7 ≤ Γ.2.2.2.2.2.1) (hp : gPs σ) (hc : gCs σ I J) (hm : gMs σ I J) (hB : 901 ≤ B.1 ∧ (B.2.2.2.1 ≤ B.2.1 ∧ B.2.2.2.2 ≤ B.2.2.1)) (hk : ∀ σ I J, gPs σ → gCs σ I J → gMs σ I J → gG l Γ (gmL nm) B 1178 (gL4 Γ ad i) [] (gSS ad, I, J) Q) : gG l Γ (gmL nm) B 536 (gL4 Γ ad i) [] (gSS ad, I, J) Q := by
  refine gg_aload_n dL_law_536 2 rfl ?_
  refine gg_arg (j := 1) (w := 1) dL_law_537 dL_law_538 (fun st k => gg_iconst dL_law_539 k) dL_law_540 dL_law_541 (by omega) ?_
  refine gg_arg (j := 2) (w := 1) dL_law_542 dL_law_543 (fun st k => gg_iconst dL_law_544 k) dL_law_545 dL_law_546 (by omega) ?_
  refine gg_callVi (own := RL) (yt := gm_X9_measure) (k := 0) (rest := []) rfl gl_RL_59 gk_X9_measure gr_X9_measure dL_law_547 (s9_measure (gXs_r Γ (i + 1)) (gXs_r Γ (i + 2)) hp hc) sh_0 pl_0 (by decide) rfl rfl rfl (Nat.le_of_ble_eq_true rfl) hB.1 hB.2 (fun e9 μ' h => ?_)
  obtain ⟨I1, J1, rfl, hc1, hh, rfl⟩ := h
  have hm1 := gMs_hi hm hh
  refine gg_aload_n dL_law_550 1 rfl ?_
  refine gg_arg (j := 1) (w := 1) dL_law_551 dL_law_552 (fun st k => gg_iconst dL_law_553 k) dL_law_554 dL_law_555 (by omega) ?_
  refine gg_arg (j := 2) (w := 1) dL_law_556 dL_law_557 (fun st k => gg_iconst dL_law_558 k) dL_law_559 dL_law_560 (by omega) ?_
  refine gg_callVi (own := RL) (yt := gm_X10_measure) (k := 145) (rest := [.int (iv _)]) rfl gl_RL_62 gk_X10_measure gr_X10_measure dL_law_561 (s10_measure (gXs_r Γ (i + 1)) (gXs_r Γ (i + 2)) hp hm1) sh_145 pl_145 (by decide) rfl rfl rfl (Nat.le_of_ble_eq_true rfl) hB.1 hB.2 (fun e10 μ' h => ?_)
  obtain ⟨I2, J2, rfl, hm2, hl, rfl⟩ := h
  refine gg_same (tgt := 1178) dL_law_564 (by decide) ?_
  exact hk _ _ _ hp (gCs_lo hc1 hl) hm2
theorem w_law_11 (hi : i + 7 ≤ Γ.2.2.2.2.2.1) (hp : gPs σ) (hc : gCs σ I J) (hm : gMs σ I J) (hB : 901 ≤ B.1 ∧ (B.2.2.2.1 ≤ B.2.1 ∧ B.2.2.2.2 ≤ B.2.2.1)) (hk : ∀ σ I J, gPs σ → gCs σ I J → gMs σ I J → gG l Γ (gmL nm) B 1178 (gL4 Γ ad i) [] (gSS ad, I, J) Q) : gG l Γ (gmL nm) B 569 (gL4 Γ ad i) [] (gSS ad, I, J) Q := by
  refine gg_aload_n dL_law_569 2 rfl ?_
  refine gg_arg (j := 1) (w := 1) dL_law_570 dL_law_571 (fun st k => gg_iconst dL_law_572 k) dL_law_573 dL_law_574 (by omega) ?_
  refine gg_arg (j := 2) (w := 1) dL_law_575 dL_law_576 (fun st k => gg_iconst dL_law_577 k) dL_law_578 dL_law_579 (by omega) ?_
  refine gg_callVi (own := RL) (yt := gm_X9_code) (k := 0) (rest := []) rfl gl_RL_63 gk_X9_code gr_X9_code dL_law_580 (s9_code (gXs_r Γ (i + 1)) (gXs_r Γ (i + 2)) hp hc) sh_0 pl_0 (by decide) rfl rfl rfl (Nat.le_of_ble_eq_true rfl) hB.1 hB.2 (fun e9 μ' h => ?_)
  obtain ⟨I1, J1, rfl, hc1, hh, rfl⟩ := h
  have hm1 := gMs_hi hm hh
  refine gg_aload_n dL_law_583 1 rfl ?_
  refine gg_arg (j := 1) (w := 1) dL_law_584 dL_law_585 (fun st k => gg_iconst dL_law_586 k) dL_law_587 dL_law_588 (by omega) ?_
  refine gg_arg (j := 2) (w := 1) dL_law_589 dL_law_590 (fun st k => gg_iconst dL_law_591 k) dL_law_592 dL_law_593 (by omega) ?_
  refine gg_callVi (own := RL) (yt := gm_X10_code) (k := 145) (rest := [.int (iv _)]) rfl gl_RL_66 gk_X10_code gr_X10_code dL_law_594 (s10_code (gXs_r Γ (i + 1)) (gXs_r Γ (i + 2)) hp hm1) sh_145 pl_145 (by decide) rfl rfl rfl (Nat.le_of_ble_eq_true rfl) hB.1 hB.2 (fun e10 μ' h => ?_)
  obtain ⟨I2, J2, rfl, hm2, hl, rfl⟩ := h
  refine gg_same (tgt := 1178) dL_law_597 (by decide) ?_
  exact hk _ _ _ hp (gCs_lo hc1 hl) hm2
theorem w_law_12 (hi : i + 7 ≤ Γ.2.2.2.2.2.1) (hp : gPs σ) (hc : gCs σ I J) (hm : gMs σ I J) (hB : 901 ≤ B.1 ∧ (B.2.2.2.1 ≤ B.2.1 ∧ B.2.2.2.2 ≤ B.2.2.1)) (hk : ∀ σ I J, gPs σ → gCs σ I J → gMs σ I J → gG l Γ (gmL nm) B 1178 (gL4 Γ ad i) [] (gSS ad, I, J) Q) : gG l Γ (gmL nm) B 602 (gL4 Γ ad i) [] (gSS ad, I, J) Q := by
  refine gg_aload_n dL_law_602 2 rfl ?_
  refine gg_arg (j := 1) (w := 1) dL_law_603 dL_law_604 (fun st k => gg_iconst dL_law_605 k) dL_law_606 dL_law_607 (by omega) ?_
  refine gg_callVl (own := RL) (yt := gm_X9_run) (k := 0) (rest := []) rfl gl_RL_67 gk_X9_run gr_X9_run dL_law_608 (s9_run (gXs_r Γ (i + 1)) hp hc) sh_0 pl_0 (by decide) rfl rfl rfl (Nat.le_of_ble_eq_true rfl) hB.1 hB.2 (fun e9 μ' h => ?_)
  obtain ⟨I1, J1, rfl, hc1, hh, rfl⟩ := h
  have hm1 := gMs_hi hm hh
  refine gg_aload_n dL_law_611 1 rfl ?_
  refine gg_arg (j := 1) (w := 1) dL_law_612 dL_law_613 (fun st k => gg_iconst dL_law_614 k) dL_law_615 dL_law_616 (by omega) ?_
  refine gg_callVl (own := RL) (yt := gm_X10_run) (k := 145) (rest := [.long _]) rfl gl_RL_70 gk_X10_run gr_X10_run dL_law_617 (s10_run (gXs_r Γ (i + 1)) hp hm1) sh_145 pl_145 (by decide) rfl rfl rfl (Nat.le_of_ble_eq_true rfl) hB.1 hB.2 (fun e10 μ' h => ?_)
  obtain ⟨I2, J2, rfl, hm2, hl, rfl⟩ := h
  refine gg_samel (tgt := 1178) dL_law_620 dL_law_621 (by decide) ?_
  exact hk _ _ _ hp (gCs_lo hc1 hl) hm2
theorem w_law_13 (hi : i + 7 ≤ Γ.2.2.2.2.2.1) (hp : gPs σ) (hc : gCs σ I J) (hm : gMs σ I J) (hB : 901 ≤ B.1 ∧ (B.2.2.2.1 ≤ B.2.1 ∧ B.2.2.2.2 ≤ B.2.2.1)) (hk : ∀ σ I J, gPs σ → gCs σ I J → gMs σ I J → gG l Γ (gmL nm) B 1178 (gL4 Γ ad i) [] (gSS ad, I, J) Q) : gG l Γ (gmL nm) B 626 (gL4 Γ ad i) [] (gSS ad, I, J) Q := by
  refine gg_aload_n dL_law_626 2 rfl ?_
  refine gg_arg (j := 1) (w := 1) dL_law_627 dL_law_628 (fun st k => gg_iconst dL_law_629 k) dL_law_630 dL_law_631 (by omega) ?_
  refine gg_arg (j := 2) (w := 1) dL_law_632 dL_law_633 (fun st k => gg_iconst dL_law_634 k) dL_law_635 dL_law_636 (by omega) ?_
  refine gg_arg (j := 3) (w := 1) dL_law_637 dL_law_638 (fun st k => gg_iconst dL_law_639 k) dL_law_640 dL_law_641 (by omega) ?_
  refine gg_callVi (own := RL) (yt := gm_X9_alike) (k := 0) (rest := []) rfl gl_RL_71 gk_X9_alike gr_X9_alike dL_law_642 (s9_alike (gXs_r Γ (i + 1)) (gXs_r Γ (i + 2)) (gXs_r Γ (i + 3)) hp hc) sh_0 pl_0 (by decide) rfl rfl rfl (Nat.le_of_ble_eq_true rfl) hB.1 hB.2 (fun e9 μ' h => ?_)
  obtain ⟨I1, J1, rfl, hc1, hh, rfl⟩ := h
  have hm1 := gMs_hi hm hh
  refine gg_aload_n dL_law_645 1 rfl ?_
  refine gg_arg (j := 1) (w := 1) dL_law_646 dL_law_647 (fun st k => gg_iconst dL_law_648 k) dL_law_649 dL_law_650 (by omega) ?_
  refine gg_arg (j := 2) (w := 1) dL_law_651 dL_law_652 (fun st k => gg_iconst dL_law_653 k) dL_law_654 dL_law_655 (by omega) ?_
  refine gg_arg (j := 3) (w := 1) dL_law_656 dL_law_657 (fun st k => gg_iconst dL_law_658 k) dL_law_659 dL_law_660 (by omega) ?_
  refine gg_callVi (own := RL) (yt := gm_X10_alike) (k := 145) (rest := [.int (iv _)]) rfl gl_RL_74 gk_X10_alike gr_X10_alike dL_law_661 (s10_alike (gXs_r Γ (i + 1)) (gXs_r Γ (i + 2)) (gXs_r Γ (i + 3)) hp hm1) sh_145 pl_145 (by decide) rfl rfl rfl (Nat.le_of_ble_eq_true rfl) hB.1 hB.2 (fun e10 μ' h => ?_)
  obtain ⟨I2, J2, rfl, hm2, hl, rfl⟩ := h
  refine gg_same (tgt := 1178) dL_law_664 (by decide) ?_
  exact hk _ _ _ hp (gCs_lo hc1 hl) hm2
theorem w_law_14 (hi : i + 7 ≤ Γ.2.2.2.2.2.1) (hp : gPs σ) (hc : gCs σ I J) (hm : gMs σ I J) (hB : 901 ≤ B.1 ∧ (B.2.2.2.1 ≤ B.2.1 ∧ B.2.2.2.2 ≤ B.2.2.1)) (hk : ∀ σ I J, gPs σ → gCs σ I J → gMs σ I J → gG l Γ (gmL nm) B 1178 (gL4 Γ ad i) [] (gSS ad, I, J) Q) : gG l Γ (gmL nm) B 669 (gL4 Γ ad i) [] (gSS ad, I, J) Q := by
  refine gg_aload_n dL_law_669 2 rfl ?_
  refine gg_arg (j := 1) (w := 1) dL_law_670 dL_law_671 (fun st k => gg_iconst dL_law_672 k) dL_law_673 dL_law_674 (by omega) ?_
  refine gg_arg (j := 2) (w := 1) dL_law_675 dL_law_676 (fun st k => gg_iconst dL_law_677 k) dL_law_678 dL_law_679 (by omega) ?_
  refine gg_callVi (own := RL) (yt := gm_X9_degree) (k := 0) (rest := []) rfl gl_RL_75 gk_X9_degree gr_X9_degree dL_law_680 (s9_degree (gXs_r Γ (i + 1)) (gXs_r Γ (i + 2)) hp hc) sh_0 pl_0 (by decide) rfl rfl rfl (Nat.le_of_ble_eq_true rfl) hB.1 hB.2 (fun e9 μ' h => ?_)
  obtain ⟨I1, J1, rfl, hc1, hh, rfl⟩ := h
  have hm1 := gMs_hi hm hh
  refine gg_aload_n dL_law_683 1 rfl ?_
  refine gg_arg (j := 1) (w := 1) dL_law_684 dL_law_685 (fun st k => gg_iconst dL_law_686 k) dL_law_687 dL_law_688 (by omega) ?_
  refine gg_arg (j := 2) (w := 1) dL_law_689 dL_law_690 (fun st k => gg_iconst dL_law_691 k) dL_law_692 dL_law_693 (by omega) ?_
  refine gg_callVi (own := RL) (yt := gm_X10_degree) (k := 145) (rest := [.int (iv _)]) rfl gl_RL_78 gk_X10_degree gr_X10_degree dL_law_694 (s10_degree (gXs_r Γ (i + 1)) (gXs_r Γ (i + 2)) hp hm1) sh_145 pl_145 (by decide) rfl rfl rfl (Nat.le_of_ble_eq_true rfl) hB.1 hB.2 (fun e10 μ' h => ?_)
  obtain ⟨I2, J2, rfl, hm2, hl, rfl⟩ := h
  refine gg_same (tgt := 1178) dL_law_697 (by decide) ?_
  exact hk _ _ _ hp (gCs_lo hc1 hl) hm2
theorem w_law_15 (hi : i + 7 ≤ Γ.2.2.2.2.2.1) (hp : gPs σ) (hc : gCs σ I J) (hm : gMs σ I J) (hB : 901 ≤ B.1 ∧ (B.2.2.2.1 ≤ B.2.1 ∧ B.2.2.2.2 ≤ B.2.2.1)) (hk : ∀ σ I J, gPs σ → gCs σ I J → gMs σ I J → gG l Γ (gmL nm) B 1178 (gL4 Γ ad i) [] (gSS ad, I, J) Q) : gG l Γ (gmL nm) B 702 (gL4 Γ ad i) [] (gSS ad, I, J) Q := by
  refine gg_aload_n dL_law_702 2 rfl ?_
  refine gg_arg (j := 1) (w := 1) dL_law_703 dL_law_704 (fun st k => gg_iconst dL_law_705 k) dL_law_706 dL_law_707 (by omega) ?_
  refine gg_arg (j := 2) (w := 1) dL_law_708 dL_law_709 (fun st k => gg_iconst dL_law_710 k) dL_law_711 dL_law_712 (by omega) ?_
  refine gg_arg (j := 3) (w := 1) dL_law_713 dL_law_714 (fun st k => gg_iconst dL_law_715 k) dL_law_716 dL_law_717 (by omega) ?_
  refine gg_arg (j := 4) (w := 1) dL_law_718 dL_law_719 (fun st k => gg_iconst dL_law_720 k) dL_law_721 dL_law_722 (by omega) ?_
  refine gg_arg (j := 5) (w := 1) dL_law_723 dL_law_724 (fun st k => gg_iconst dL_law_725 k) dL_law_726 dL_law_727 (by omega) ?_
  refine gg_arg (j := 6) (w := 2) dL_law_728 dL_law_729 (fun st k => gg_bipush dL_law_730 (by decide) k) dL_law_732 dL_law_733 (by omega) ?_
  refine gg_callVi (own := RL) (yt := gm_X9_sought) (k := 0) (rest := []) rfl gl_RL_79 gk_X9_sought gr_X9_sought dL_law_734 (s9_sought (gXs_r Γ (i + 1)) (gXs_r Γ (i + 2)) (gXs_r Γ (i + 3)) (gXs_r Γ (i + 4)) (gXs_r Γ (i + 5)) (gXs_r Γ (i + 6)) hp hc) sh_0 pl_0 (by decide) rfl rfl rfl (Nat.le_of_ble_eq_true rfl) hB.1 hB.2 (fun e9 μ' h => ?_)
  obtain ⟨I1, J1, rfl, hc1, hh, rfl⟩ := h
  have hm1 := gMs_hi hm hh
  refine gg_aload_n dL_law_737 1 rfl ?_
  refine gg_arg (j := 1) (w := 1) dL_law_738 dL_law_739 (fun st k => gg_iconst dL_law_740 k) dL_law_741 dL_law_742 (by omega) ?_
  refine gg_arg (j := 2) (w := 1) dL_law_743 dL_law_744 (fun st k => gg_iconst dL_law_745 k) dL_law_746 dL_law_747 (by omega) ?_
  refine gg_arg (j := 3) (w := 1) dL_law_748 dL_law_749 (fun st k => gg_iconst dL_law_750 k) dL_law_751 dL_law_752 (by omega) ?_
  refine gg_arg (j := 4) (w := 1) dL_law_753 dL_law_754 (fun st k => gg_iconst dL_law_755 k) dL_law_756 dL_law_757 (by omega) ?_
  refine gg_arg (j := 5) (w := 1) dL_law_758 dL_law_759 (fun st k => gg_iconst dL_law_760 k) dL_law_761 dL_law_762 (by omega) ?_
  refine gg_arg (j := 6) (w := 2) dL_law_763 dL_law_764 (fun st k => gg_bipush dL_law_765 (by decide) k) dL_law_767 dL_law_768 (by omega) ?_
  refine gg_callVi (own := RL) (yt := gm_X10_sought) (k := 145) (rest := [.int (iv _)]) rfl gl_RL_82 gk_X10_sought gr_X10_sought dL_law_769 (s10_sought (gXs_r Γ (i + 1)) (gXs_r Γ (i + 2)) (gXs_r Γ (i + 3)) (gXs_r Γ (i + 4)) (gXs_r Γ (i + 5)) (gXs_r Γ (i + 6)) hp hm1) sh_145 pl_145 (by decide) rfl rfl rfl (Nat.le_of_ble_eq_true rfl) hB.1 hB.2 (fun e10 μ' h => ?_)
  obtain ⟨I2, J2, rfl, hm2, hl, rfl⟩ := h
  refine gg_same (tgt := 1178) dL_law_772 (by decide) ?_
  exact hk _ _ _ hp (gCs_lo hc1 hl) hm2
theorem w_law_16 (hi : i + 7 ≤ Γ.2.2.2.2.2.1) (hp : gPs σ) (hc : gCs σ I J) (hm : gMs σ I J) (hB : 901 ≤ B.1 ∧ (B.2.2.2.1 ≤ B.2.1 ∧ B.2.2.2.2 ≤ B.2.2.1)) (hk : ∀ σ I J, gPs σ → gCs σ I J → gMs σ I J → gG l Γ (gmL nm) B 1178 (gL4 Γ ad i) [] (gSS ad, I, J) Q) : gG l Γ (gmL nm) B 777 (gL4 Γ ad i) [] (gSS ad, I, J) Q := by
  refine gg_aload_n dL_law_777 2 rfl ?_
  refine gg_arg (j := 1) (w := 1) dL_law_778 dL_law_779 (fun st k => gg_iconst dL_law_780 k) dL_law_781 dL_law_782 (by omega) ?_
  refine gg_arg (j := 2) (w := 1) dL_law_783 dL_law_784 (fun st k => gg_iconst dL_law_785 k) dL_law_786 dL_law_787 (by omega) ?_
  refine gg_callVl (own := RL) (yt := gm_X9_drawn) (k := 0) (rest := []) rfl gl_RL_83 gk_X9_drawn gr_X9_drawn dL_law_788 (s9_drawn (gXs_r Γ (i + 1)) (gXs_r Γ (i + 2)) hp hc) sh_0 pl_0 (by decide) rfl rfl rfl (Nat.le_of_ble_eq_true rfl) hB.1 hB.2 (fun e9 μ' h => ?_)
  obtain ⟨I1, J1, rfl, hc1, hh, rfl⟩ := h
  have hm1 := gMs_hi hm hh
  refine gg_aload_n dL_law_791 1 rfl ?_
  refine gg_arg (j := 1) (w := 1) dL_law_792 dL_law_793 (fun st k => gg_iconst dL_law_794 k) dL_law_795 dL_law_796 (by omega) ?_
  refine gg_arg (j := 2) (w := 1) dL_law_797 dL_law_798 (fun st k => gg_iconst dL_law_799 k) dL_law_800 dL_law_801 (by omega) ?_
  refine gg_callVl (own := RL) (yt := gm_X10_drawn) (k := 145) (rest := [.long _]) rfl gl_RL_86 gk_X10_drawn gr_X10_drawn dL_law_802 (s10_drawn (gXs_r Γ (i + 1)) (gXs_r Γ (i + 2)) hp hm1) sh_145 pl_145 (by decide) rfl rfl rfl (Nat.le_of_ble_eq_true rfl) hB.1 hB.2 (fun e10 μ' h => ?_)
  obtain ⟨I2, J2, rfl, hm2, hl, rfl⟩ := h
  refine gg_samel (tgt := 1178) dL_law_805 dL_law_806 (by decide) ?_
  exact hk _ _ _ hp (gCs_lo hc1 hl) hm2
theorem w_law_17 (hi : i + 7 ≤ Γ.2.2.2.2.2.1) (hp : gPs σ) (hc : gCs σ I J) (hm : gMs σ I J) (hB : 901 ≤ B.1 ∧ (B.2.2.2.1 ≤ B.2.1 ∧ B.2.2.2.2 ≤ B.2.2.1)) (hk : ∀ σ I J, gPs σ → gCs σ I J → gMs σ I J → gG l Γ (gmL nm) B 1178 (gL4 Γ ad i) [] (gSS ad, I, J) Q) : gG l Γ (gmL nm) B 811 (gL4 Γ ad i) [] (gSS ad, I, J) Q := by
  refine gg_aload_n dL_law_811 2 rfl ?_
  refine gg_arg (j := 1) (w := 1) dL_law_812 dL_law_813 (fun st k => gg_iconst dL_law_814 k) dL_law_815 dL_law_816 (by omega) ?_
  refine gg_arg (j := 2) (w := 1) dL_law_817 dL_law_818 (fun st k => gg_iconst dL_law_819 k) dL_law_820 dL_law_821 (by omega) ?_
  refine gg_arg (j := 3) (w := 1) dL_law_822 dL_law_823 (fun st k => gg_iconst dL_law_824 k) dL_law_825 dL_law_826 (by omega) ?_
  refine gg_arg (j := 4) (w := 1) dL_law_827 dL_law_828 (fun st k => gg_iconst dL_law_829 k) dL_law_830 dL_law_831 (by omega) ?_
  refine gg_arg (j := 5) (w := 1) dL_law_832 dL_law_833 (fun st k => gg_iconst dL_law_834 k) dL_law_835 dL_law_836 (by omega) ?_
  refine gg_callVi (own := RL) (yt := gm_X9_chance) (k := 0) (rest := []) rfl gl_RL_87 gk_X9_chance gr_X9_chance dL_law_837 (s9_chance (gXs_r Γ (i + 1)) (gXs_r Γ (i + 2)) (gXs_r Γ (i + 3)) (gXs_r Γ (i + 4)) (gXs_r Γ (i + 5)) hp hc) sh_0 pl_0 (by decide) rfl rfl rfl (Nat.le_of_ble_eq_true rfl) hB.1 hB.2 (fun e9 μ' h => ?_)
  obtain ⟨I1, J1, rfl, hc1, hh, rfl⟩ := h
  have hm1 := gMs_hi hm hh
  refine gg_aload_n dL_law_840 1 rfl ?_
  refine gg_arg (j := 1) (w := 1) dL_law_841 dL_law_842 (fun st k => gg_iconst dL_law_843 k) dL_law_844 dL_law_845 (by omega) ?_
  refine gg_arg (j := 2) (w := 1) dL_law_846 dL_law_847 (fun st k => gg_iconst dL_law_848 k) dL_law_849 dL_law_850 (by omega) ?_
  refine gg_arg (j := 3) (w := 1) dL_law_851 dL_law_852 (fun st k => gg_iconst dL_law_853 k) dL_law_854 dL_law_855 (by omega) ?_
  refine gg_arg (j := 4) (w := 1) dL_law_856 dL_law_857 (fun st k => gg_iconst dL_law_858 k) dL_law_859 dL_law_860 (by omega) ?_
  refine gg_arg (j := 5) (w := 1) dL_law_861 dL_law_862 (fun st k => gg_iconst dL_law_863 k) dL_law_864 dL_law_865 (by omega) ?_
  refine gg_callVi (own := RL) (yt := gm_X10_chance) (k := 145) (rest := [.int (iv _)]) rfl gl_RL_91 gk_X10_chance gr_X10_chance dL_law_866 (s10_chance (gXs_r Γ (i + 1)) (gXs_r Γ (i + 2)) (gXs_r Γ (i + 3)) (gXs_r Γ (i + 4)) (gXs_r Γ (i + 5)) hp hm1) sh_145 pl_145 (by decide) rfl rfl rfl (Nat.le_of_ble_eq_true rfl) hB.1 hB.2 (fun e10 μ' h => ?_)
  obtain ⟨I2, J2, rfl, hm2, hl, rfl⟩ := h
  refine gg_same (tgt := 1178) dL_law_869 (by decide) ?_
  exact hk _ _ _ hp (gCs_lo hc1 hl) hm2
theorem w_law_18 (hi : i + 7 ≤ Γ.2.2.2.2.2.1) (hp : gPs σ) (hc : gCs σ I J) (hm : gMs σ I J) (hB : 901 ≤ B.1 ∧ (B.2.2.2.1 ≤ B.2.1 ∧ B.2.2.2.2 ≤ B.2.2.1)) (hk : ∀ σ I J, gPs σ → gCs σ I J → gMs σ I J → gG l Γ (gmL nm) B 1178 (gL4 Γ ad i) [] (gSS ad, I, J) Q) : gG l Γ (gmL nm) B 874 (gL4 Γ ad i) [] (gSS ad, I, J) Q := by
  refine gg_aload_n dL_law_874 2 rfl ?_
  refine gg_arg (j := 1) (w := 1) dL_law_875 dL_law_876 (fun st k => gg_iconst dL_law_877 k) dL_law_878 dL_law_879 (by omega) ?_
  refine gg_arg (j := 2) (w := 1) dL_law_880 dL_law_881 (fun st k => gg_iconst dL_law_882 k) dL_law_883 dL_law_884 (by omega) ?_
  refine gg_arg (j := 3) (w := 1) dL_law_885 dL_law_886 (fun st k => gg_iconst dL_law_887 k) dL_law_888 dL_law_889 (by omega) ?_
  refine gg_arg (j := 4) (w := 1) dL_law_890 dL_law_891 (fun st k => gg_iconst dL_law_892 k) dL_law_893 dL_law_894 (by omega) ?_
  refine gg_callVi (own := RL) (yt := gm_X9_tells) (k := 0) (rest := []) rfl gl_RL_92 gk_X9_tells gr_X9_tells dL_law_895 (s9_tells (gXs_r Γ (i + 1)) (gXs_r Γ (i + 2)) (gXs_r Γ (i + 3)) (gXs_r Γ (i + 4)) hp hc) sh_0 pl_0 (by decide) rfl rfl rfl (Nat.le_of_ble_eq_true rfl) hB.1 hB.2 (fun e9 μ' h => ?_)
  obtain ⟨I1, J1, rfl, hc1, hh, rfl⟩ := h
  have hm1 := gMs_hi hm hh
  refine gg_aload_n dL_law_898 1 rfl ?_
  refine gg_arg (j := 1) (w := 1) dL_law_899 dL_law_900 (fun st k => gg_iconst dL_law_901 k) dL_law_902 dL_law_903 (by omega) ?_
  refine gg_arg (j := 2) (w := 1) dL_law_904 dL_law_905 (fun st k => gg_iconst dL_law_906 k) dL_law_907 dL_law_908 (by omega) ?_
  refine gg_arg (j := 3) (w := 1) dL_law_909 dL_law_910 (fun st k => gg_iconst dL_law_911 k) dL_law_912 dL_law_913 (by omega) ?_
  refine gg_arg (j := 4) (w := 1) dL_law_914 dL_law_915 (fun st k => gg_iconst dL_law_916 k) dL_law_917 dL_law_918 (by omega) ?_
  refine gg_callVi (own := RL) (yt := gm_X10_tells) (k := 145) (rest := [.int (iv _)]) rfl gl_RL_96 gk_X10_tells gr_X10_tells dL_law_919 (s10_tells (gXs_r Γ (i + 1)) (gXs_r Γ (i + 2)) (gXs_r Γ (i + 3)) (gXs_r Γ (i + 4)) hp hm1) sh_145 pl_145 (by decide) rfl rfl rfl (Nat.le_of_ble_eq_true rfl) hB.1 hB.2 (fun e10 μ' h => ?_)
  obtain ⟨I2, J2, rfl, hm2, hl, rfl⟩ := h
  refine gg_same (tgt := 1178) dL_law_922 (by decide) ?_
  exact hk _ _ _ hp (gCs_lo hc1 hl) hm2
theorem w_law_19 (hi : i + 7 ≤ Γ.2.2.2.2.2.1) (hp : gPs σ) (hc : gCs σ I J) (hm : gMs σ I J) (hB : 901 ≤ B.1 ∧ (B.2.2.2.1 ≤ B.2.1 ∧ B.2.2.2.2 ≤ B.2.2.1)) (hk : ∀ σ I J, gPs σ → gCs σ I J → gMs σ I J → gG l Γ (gmL nm) B 1178 (gL4 Γ ad i) [] (gSS ad, I, J) Q) : gG l Γ (gmL nm) B 927 (gL4 Γ ad i) [] (gSS ad, I, J) Q := by
  refine gg_aload_n dL_law_927 2 rfl ?_
  refine gg_arg (j := 1) (w := 1) dL_law_928 dL_law_929 (fun st k => gg_iconst dL_law_930 k) dL_law_931 dL_law_932 (by omega) ?_
  refine gg_arg (j := 2) (w := 1) dL_law_933 dL_law_934 (fun st k => gg_iconst dL_law_935 k) dL_law_936 dL_law_937 (by omega) ?_
  refine gg_arg (j := 3) (w := 1) dL_law_938 dL_law_939 (fun st k => gg_iconst dL_law_940 k) dL_law_941 dL_law_942 (by omega) ?_
  refine gg_arg (j := 4) (w := 1) dL_law_943 dL_law_944 (fun st k => gg_iconst dL_law_945 k) dL_law_946 dL_law_947 (by omega) ?_
  refine gg_callVi (own := RL) (yt := gm_X9_film) (k := 0) (rest := []) rfl gl_RL_97 gk_X9_film gr_X9_film dL_law_948 (s9_film (gXs_r Γ (i + 1)) (gXs_r Γ (i + 2)) (gXs_r Γ (i + 3)) (gXs_r Γ (i + 4)) hp hc) sh_0 pl_0 (by decide) rfl rfl rfl (Nat.le_of_ble_eq_true rfl) hB.1 hB.2 (fun e9 μ' h => ?_)
  obtain ⟨I1, J1, rfl, hc1, hh, rfl⟩ := h
  have hm1 := gMs_hi hm hh
  refine gg_aload_n dL_law_951 1 rfl ?_
  refine gg_arg (j := 1) (w := 1) dL_law_952 dL_law_953 (fun st k => gg_iconst dL_law_954 k) dL_law_955 dL_law_956 (by omega) ?_
  refine gg_arg (j := 2) (w := 1) dL_law_957 dL_law_958 (fun st k => gg_iconst dL_law_959 k) dL_law_960 dL_law_961 (by omega) ?_
  refine gg_arg (j := 3) (w := 1) dL_law_962 dL_law_963 (fun st k => gg_iconst dL_law_964 k) dL_law_965 dL_law_966 (by omega) ?_
  refine gg_arg (j := 4) (w := 1) dL_law_967 dL_law_968 (fun st k => gg_iconst dL_law_969 k) dL_law_970 dL_law_971 (by omega) ?_
  refine gg_callVi (own := RL) (yt := gm_X10_film) (k := 145) (rest := [.int (iv _)]) rfl gl_RL_100 gk_X10_film gr_X10_film dL_law_972 (s10_film (gXs_r Γ (i + 1)) (gXs_r Γ (i + 2)) (gXs_r Γ (i + 3)) (gXs_r Γ (i + 4)) hp hm1) sh_145 pl_145 (by decide) rfl rfl rfl (Nat.le_of_ble_eq_true rfl) hB.1 hB.2 (fun e10 μ' h => ?_)
  obtain ⟨I2, J2, rfl, hm2, hl, rfl⟩ := h
  refine gg_same (tgt := 1178) dL_law_975 (by decide) ?_
  exact hk _ _ _ (u_film hp) (gCs_lo hc1 hl) hm2
theorem w_law_20 (hi : i + 7 ≤ Γ.2.2.2.2.2.1) (hp : gPs σ) (hc : gCs σ I J) (hm : gMs σ I J) (hB : 901 ≤ B.1 ∧ (B.2.2.2.1 ≤ B.2.1 ∧ B.2.2.2.2 ≤ B.2.2.1)) (hk : ∀ σ I J, gPs σ → gCs σ I J → gMs σ I J → gG l Γ (gmL nm) B 1178 (gL4 Γ ad i) [] (gSS ad, I, J) Q) : gG l Γ (gmL nm) B 980 (gL4 Γ ad i) [] (gSS ad, I, J) Q := by
  refine gg_aload_n dL_law_980 2 rfl ?_
  refine gg_callVi (own := RL) (yt := gm_X9_image) (k := 0) (rest := []) rfl gl_RL_101 gk_X9_image gr_X9_image dL_law_981 (s9_image  hp hc) sh_0 pl_0 (by decide) rfl rfl rfl (Nat.le_of_ble_eq_true rfl) hB.1 hB.2 (fun e9 μ' h => ?_)
  obtain ⟨I1, J1, rfl, hc1, hh, rfl⟩ := h
  have hm1 := gMs_hi hm hh
  refine gg_aload_n dL_law_984 1 rfl ?_
  refine gg_callVi (own := RL) (yt := gm_X10_image) (k := 145) (rest := [.int (iv _)]) rfl gl_RL_105 gk_X10_image gr_X10_image dL_law_985 (s10_image  hp hm1) sh_145 pl_145 (by decide) rfl rfl rfl (Nat.le_of_ble_eq_true rfl) hB.1 hB.2 (fun e10 μ' h => ?_)
  obtain ⟨I2, J2, rfl, hm2, hl, rfl⟩ := h
  refine gg_same (tgt := 1178) dL_law_988 (by decide) ?_
  exact hk _ _ _ (u_image hp) (gCs_lo hc1 hl) hm2
theorem w_law_21 (hi : i + 7 ≤ Γ.2.2.2.2.2.1) (hp : gPs σ) (hc : gCs σ I J) (hm : gMs σ I J) (hB : 901 ≤ B.1 ∧ (B.2.2.2.1 ≤ B.2.1 ∧ B.2.2.2.2 ≤ B.2.2.1)) (hk : ∀ σ I J, gPs σ → gCs σ I J → gMs σ I J → gG l Γ (gmL nm) B 1178 (gL4 Γ ad i) [] (gSS ad, I, J) Q) : gG l Γ (gmL nm) B 993 (gL4 Γ ad i) [] (gSS ad, I, J) Q := by
  refine gg_aload_n dL_law_993 2 rfl ?_
  refine gg_callVi (own := RL) (yt := gm_X9_back) (k := 0) (rest := []) rfl gl_RL_106 gk_X9_back gr_X9_back dL_law_994 (s9_back  hp hc) sh_0 pl_0 (by decide) rfl rfl rfl (Nat.le_of_ble_eq_true rfl) hB.1 hB.2 (fun e9 μ' h => ?_)
  obtain ⟨I1, J1, rfl, hc1, hh, rfl⟩ := h
  have hm1 := gMs_hi hm hh
  refine gg_aload_n dL_law_997 1 rfl ?_
  refine gg_callVi (own := RL) (yt := gm_X10_back) (k := 145) (rest := [.int (iv _)]) rfl gl_RL_109 gk_X10_back gr_X10_back dL_law_998 (s10_back  hp hm1) sh_145 pl_145 (by decide) rfl rfl rfl (Nat.le_of_ble_eq_true rfl) hB.1 hB.2 (fun e10 μ' h => ?_)
  obtain ⟨I2, J2, rfl, hm2, hl, rfl⟩ := h
  refine gg_same (tgt := 1178) dL_law_1001 (by decide) ?_
  exact hk _ _ _ (u_back hp) (gCs_lo hc1 hl) hm2
theorem w_law_22 (hi : i + 7 ≤ Γ.2.2.2.2.2.1) (hp : gPs σ) (hc : gCs σ I J) (hm : gMs σ I J) (hB : 901 ≤ B.1 ∧ (B.2.2.2.1 ≤ B.2.1 ∧ B.2.2.2.2 ≤ B.2.2.1)) (hk : ∀ σ I J, gPs σ → gCs σ I J → gMs σ I J → gG l Γ (gmL nm) B 1178 (gL4 Γ ad i) [] (gSS ad, I, J) Q) : gG l Γ (gmL nm) B 1006 (gL4 Γ ad i) [] (gSS ad, I, J) Q := by
  refine gg_aload_n dL_law_1006 2 rfl ?_
  refine gg_arg (j := 1) (w := 1) dL_law_1007 dL_law_1008 (fun st k => gg_iconst dL_law_1009 k) dL_law_1010 dL_law_1011 (by omega) ?_
  refine gg_callVi (own := RL) (yt := gm_X9_count) (k := 0) (rest := []) rfl gl_RL_110 gk_X9_count gr_X9_count dL_law_1012 (s9_count (gXs_r Γ (i + 1)) hp hc) sh_0 pl_0 (by decide) rfl rfl rfl (Nat.le_of_ble_eq_true rfl) hB.1 hB.2 (fun e9 μ' h => ?_)
  obtain ⟨I1, J1, rfl, hc1, hh, rfl⟩ := h
  have hm1 := gMs_hi hm hh
  refine gg_aload_n dL_law_1015 1 rfl ?_
  refine gg_arg (j := 1) (w := 1) dL_law_1016 dL_law_1017 (fun st k => gg_iconst dL_law_1018 k) dL_law_1019 dL_law_1020 (by omega) ?_
  refine gg_callVi (own := RL) (yt := gm_X10_count) (k := 145) (rest := [.int (iv _)]) rfl gl_RL_113 gk_X10_count gr_X10_count dL_law_1021 (s10_count (gXs_r Γ (i + 1)) hp hm1) sh_145 pl_145 (by decide) rfl rfl rfl (Nat.le_of_ble_eq_true rfl) hB.1 hB.2 (fun e10 μ' h => ?_)
  obtain ⟨I2, J2, rfl, hm2, hl, rfl⟩ := h
  refine gg_same (tgt := 1178) dL_law_1024 (by decide) ?_
  exact hk _ _ _ hp (gCs_lo hc1 hl) hm2
theorem w_law_23 (hi : i + 7 ≤ Γ.2.2.2.2.2.1) (hp : gPs σ) (hc : gCs σ I J) (hm : gMs σ I J) (hB : 901 ≤ B.1 ∧ (B.2.2.2.1 ≤ B.2.1 ∧ B.2.2.2.2 ≤ B.2.2.1)) (hk : ∀ σ I J, gPs σ → gCs σ I J → gMs σ I J → gG l Γ (gmL nm) B 1178 (gL4 Γ ad i) [] (gSS ad, I, J) Q) : gG l Γ (gmL nm) B 1029 (gL4 Γ ad i) [] (gSS ad, I, J) Q := by
  refine gg_aload_n dL_law_1029 2 rfl ?_
  refine gg_arg (j := 1) (w := 1) dL_law_1030 dL_law_1031 (fun st k => gg_iconst dL_law_1032 k) dL_law_1033 dL_law_1034 (by omega) ?_
  refine gg_arg (j := 2) (w := 1) dL_law_1035 dL_law_1036 (fun st k => gg_iconst dL_law_1037 k) dL_law_1038 dL_law_1039 (by omega) ?_
  refine gg_arg (j := 3) (w := 1) dL_law_1040 dL_law_1041 (fun st k => gg_iconst dL_law_1042 k) dL_law_1043 dL_law_1044 (by omega) ?_
  refine gg_callVi (own := RL) (yt := gm_X9_sheet) (k := 0) (rest := []) rfl gl_RL_114 gk_X9_sheet gr_X9_sheet dL_law_1045 (s9_sheet (gXs_r Γ (i + 1)) (gXs_r Γ (i + 2)) (gXs_r Γ (i + 3)) hp hc) sh_0 pl_0 (by decide) rfl rfl rfl (Nat.le_of_ble_eq_true rfl) hB.1 hB.2 (fun e9 μ' h => ?_)
  obtain ⟨I1, J1, rfl, hc1, hh, rfl⟩ := h
  have hm1 := gMs_hi hm hh
  refine gg_aload_n dL_law_1048 1 rfl ?_
  refine gg_arg (j := 1) (w := 1) dL_law_1049 dL_law_1050 (fun st k => gg_iconst dL_law_1051 k) dL_law_1052 dL_law_1053 (by omega) ?_
  refine gg_arg (j := 2) (w := 1) dL_law_1054 dL_law_1055 (fun st k => gg_iconst dL_law_1056 k) dL_law_1057 dL_law_1058 (by omega) ?_
  refine gg_arg (j := 3) (w := 1) dL_law_1059 dL_law_1060 (fun st k => gg_iconst dL_law_1061 k) dL_law_1062 dL_law_1063 (by omega) ?_
  refine gg_callVi (own := RL) (yt := gm_X10_sheet) (k := 145) (rest := [.int (iv _)]) rfl gl_RL_117 gk_X10_sheet gr_X10_sheet dL_law_1064 (s10_sheet (gXs_r Γ (i + 1)) (gXs_r Γ (i + 2)) (gXs_r Γ (i + 3)) hp hm1) sh_145 pl_145 (by decide) rfl rfl rfl (Nat.le_of_ble_eq_true rfl) hB.1 hB.2 (fun e10 μ' h => ?_)
  obtain ⟨I2, J2, rfl, hm2, hl, rfl⟩ := h
  refine gg_same (tgt := 1178) dL_law_1067 (by decide) ?_
  exact hk _ _ _ (u_sheet hp) (gCs_lo hc1 hl) hm2
theorem w_law_24 (hi : i + 7 ≤ Γ.2.2.2.2.2.1) (hp : gPs σ) (hc : gCs σ I J) (hm : gMs σ I J) (hB : 901 ≤ B.1 ∧ (B.2.2.2.1 ≤ B.2.1 ∧ B.2.2.2.2 ≤ B.2.2.1)) (hk : ∀ σ I J, gPs σ → gCs σ I J → gMs σ I J → gG l Γ (gmL nm) B 1178 (gL4 Γ ad i) [] (gSS ad, I, J) Q) : gG l Γ (gmL nm) B 1072 (gL4 Γ ad i) [] (gSS ad, I, J) Q := by
  refine gg_aload_n dL_law_1072 2 rfl ?_
  refine gg_arg (j := 1) (w := 1) dL_law_1073 dL_law_1074 (fun st k => gg_iconst dL_law_1075 k) dL_law_1076 dL_law_1077 (by omega) ?_
  refine gg_arg (j := 2) (w := 1) dL_law_1078 dL_law_1079 (fun st k => gg_iconst dL_law_1080 k) dL_law_1081 dL_law_1082 (by omega) ?_
  refine gg_arg (j := 3) (w := 1) dL_law_1083 dL_law_1084 (fun st k => gg_iconst dL_law_1085 k) dL_law_1086 dL_law_1087 (by omega) ?_
  refine gg_callVi (own := RL) (yt := gm_X9_cell) (k := 0) (rest := []) rfl gl_RL_118 gk_X9_cell gr_X9_cell dL_law_1088 (s9_cell (gXs_r Γ (i + 1)) (gXs_r Γ (i + 2)) (gXs_r Γ (i + 3)) hp hc) sh_0 pl_0 (by decide) rfl rfl rfl (Nat.le_of_ble_eq_true rfl) hB.1 hB.2 (fun e9 μ' h => ?_)
  obtain ⟨I1, J1, rfl, hc1, hh, rfl⟩ := h
  have hm1 := gMs_hi hm hh
  refine gg_aload_n dL_law_1091 1 rfl ?_
  refine gg_arg (j := 1) (w := 1) dL_law_1092 dL_law_1093 (fun st k => gg_iconst dL_law_1094 k) dL_law_1095 dL_law_1096 (by omega) ?_
  refine gg_arg (j := 2) (w := 1) dL_law_1097 dL_law_1098 (fun st k => gg_iconst dL_law_1099 k) dL_law_1100 dL_law_1101 (by omega) ?_
  refine gg_arg (j := 3) (w := 1) dL_law_1102 dL_law_1103 (fun st k => gg_iconst dL_law_1104 k) dL_law_1105 dL_law_1106 (by omega) ?_
  refine gg_callVi (own := RL) (yt := gm_X10_cell) (k := 145) (rest := [.int (iv _)]) rfl gl_RL_121 gk_X10_cell gr_X10_cell dL_law_1107 (s10_cell (gXs_r Γ (i + 1)) (gXs_r Γ (i + 2)) (gXs_r Γ (i + 3)) hp hm1) sh_145 pl_145 (by decide) rfl rfl rfl (Nat.le_of_ble_eq_true rfl) hB.1 hB.2 (fun e10 μ' h => ?_)
  obtain ⟨I2, J2, rfl, hm2, hl, rfl⟩ := h
  refine gg_same (tgt := 1178) dL_law_1110 (by decide) ?_
  exact hk _ _ _ (u_cell (gXs_r Γ (i + 3)) hp) (gCs_lo hc1 hl) hm2
theorem w_law_25 (hi : i + 7 ≤ Γ.2.2.2.2.2.1) (hp : gPs σ) (hc : gCs σ I J) (hm : gMs σ I J) (hB : 901 ≤ B.1 ∧ (B.2.2.2.1 ≤ B.2.1 ∧ B.2.2.2.2 ≤ B.2.2.1)) (hk : ∀ σ I J, gPs σ → gCs σ I J → gMs σ I J → gG l Γ (gmL nm) B 1178 (gL4 Γ ad i) [] (gSS ad, I, J) Q) : gG l Γ (gmL nm) B 1115 (gL4 Γ ad i) [] (gSS ad, I, J) Q := by
  refine gg_aload_n dL_law_1115 2 rfl ?_
  refine gg_arg (j := 1) (w := 1) dL_law_1116 dL_law_1117 (fun st k => gg_iconst dL_law_1118 k) dL_law_1119 dL_law_1120 (by omega) ?_
  refine gg_arg (j := 2) (w := 1) dL_law_1121 dL_law_1122 (fun st k => gg_iconst dL_law_1123 k) dL_law_1124 dL_law_1125 (by omega) ?_
  refine gg_arg (j := 3) (w := 1) dL_law_1126 dL_law_1127 (fun st k => gg_iconst dL_law_1128 k) dL_law_1129 dL_law_1130 (by omega) ?_
  refine gg_arg (j := 4) (w := 1) dL_law_1131 dL_law_1132 (fun st k => gg_iconst dL_law_1133 k) dL_law_1134 dL_law_1135 (by omega) ?_
  refine gg_arg (j := 5) (w := 1) dL_law_1136 dL_law_1137 (fun st k => gg_iconst dL_law_1138 k) dL_law_1139 dL_law_1140 (by omega) ?_
  refine gg_callVi (own := RL) (yt := gm_X9_copy) (k := 0) (rest := []) rfl gl_RL_122 gk_X9_copy gr_X9_copy dL_law_1141 (s9_copy (gXs_r Γ (i + 1)) (gXs_r Γ (i + 2)) (gXs_r Γ (i + 3)) (gXs_r Γ (i + 4)) (gXs_r Γ (i + 5)) hp hc) sh_0 pl_0 (by decide) rfl rfl rfl (Nat.le_of_ble_eq_true rfl) hB.1 hB.2 (fun e9 μ' h => ?_)
  obtain ⟨I1, J1, rfl, hc1, hh, rfl⟩ := h
  have hm1 := gMs_hi hm hh
  refine gg_aload_n dL_law_1144 1 rfl ?_
  refine gg_arg (j := 1) (w := 1) dL_law_1145 dL_law_1146 (fun st k => gg_iconst dL_law_1147 k) dL_law_1148 dL_law_1149 (by omega) ?_
  refine gg_arg (j := 2) (w := 1) dL_law_1150 dL_law_1151 (fun st k => gg_iconst dL_law_1152 k) dL_law_1153 dL_law_1154 (by omega) ?_
  refine gg_arg (j := 3) (w := 1) dL_law_1155 dL_law_1156 (fun st k => gg_iconst dL_law_1157 k) dL_law_1158 dL_law_1159 (by omega) ?_
  refine gg_arg (j := 4) (w := 1) dL_law_1160 dL_law_1161 (fun st k => gg_iconst dL_law_1162 k) dL_law_1163 dL_law_1164 (by omega) ?_
  refine gg_arg (j := 5) (w := 1) dL_law_1165 dL_law_1166 (fun st k => gg_iconst dL_law_1167 k) dL_law_1168 dL_law_1169 (by omega) ?_
  refine gg_callVi (own := RL) (yt := gm_X10_copy) (k := 145) (rest := [.int (iv _)]) rfl gl_RL_125 gk_X10_copy gr_X10_copy dL_law_1170 (s10_copy (gXs_r Γ (i + 1)) (gXs_r Γ (i + 2)) (gXs_r Γ (i + 3)) (gXs_r Γ (i + 4)) (gXs_r Γ (i + 5)) hp hm1) sh_145 pl_145 (by decide) rfl rfl rfl (Nat.le_of_ble_eq_true rfl) hB.1 hB.2 (fun e10 μ' h => ?_)
  obtain ⟨I2, J2, rfl, hm2, hl, rfl⟩ := h
  refine gg_same (tgt := 1178) dL_law_1173 (by decide) ?_
  exact hk _ _ _ (u_copy hp) (gCs_lo hc1 hl) hm2
theorem giand31 (a : Int) : 0 ≤ giand a 31 ∧ giand a 31 ≤ 31 := by
  have h : (iv a &&& iv 31).toBitVec.toNat ≤ 31 := by
    show ((iv a).toBitVec &&& (iv 31).toBitVec).toNat ≤ 31
    rw [BitVec.toNat_and]
    exact Nat.and_le_right
  have h2 : (iv a &&& iv 31).toInt = ((iv a &&& iv 31).toBitVec.toNat : Int) := BitVec.toInt_eq_toNat_of_lt (by omega)
  unfold giand
  omega
theorem w_law (hL : Γ.2.2.2.2.2.1 ≤ 3584) (hB : 901 ≤ B.1 ∧ B.2.2.2.1 = B.2.1 ∧ B.2.2.2.2 = B.2.2.1) : ∀ (m i : Nat) (σ : gSgm) (I : Nat → Nat → Int) (J : Nat → Nat → Int64), Γ.2.2.2.2.2.1 + 7 - i < m → i ≤ Γ.2.2.2.2.2.1 → gPs σ → gCs σ I J → gMs σ I J → gG l Γ (gmL nm) B 18 (gL4 Γ ad i) [] (gSS ad, I, J) (fun r _ => r = some (.int (iv 1))) := by
  intro m
  induction m with
  | zero => intros; omega
  | succ m ih =>
    intro i σ I J hm hi hp hc hd
    refine gg_iload_n dL_law_18 0 rfl ?_
    refine gg_aload_n dL_law_19 3 rfl ?_
    refine gg_slen dL_law_20 ?_
    refine gg_bipush dL_law_21 (by decide) ?_
    refine gg_isub dL_law_23 ?_
    refine gg_icmp_gt (tgt := 1184) dL_law_24 (by decide) (by omega) (fun hx => ?_) (fun hx => ?_)
    · refine gg_iconst dL_law_1184 ?_
      exact gg_iret (ty := .boolean) dL_law_1185 rfl (by decide) hB.2 rfl
    · refine gg_aload_n dL_law_27 3 rfl ?_
      refine gg_iload_n dL_law_28 0 rfl ?_
      refine gg_sld dL_law_29 (by omega) ?_
      rw [show Γ.2.2.2.2.2.2 (i : Int).toNat = iv (gXs Γ i) from (iv_of _).symm]
      refine gg_bipush dL_law_30 (by decide) ?_
      refine gg_iand dL_law_32 ?_
      have hy := giand31 (gXs Γ i)
      generalize giand (gXs Γ i) 31 = y at hy
      have hk : ∀ σ I J, gPs σ → gCs σ I J → gMs σ I J → gG l Γ (gmL nm) B 1178 (gL4 Γ ad i) [] (gSS ad, I, J) (fun r _ => r = some (.int (iv 1))) := fun σ I J hp hc hd => by
        refine gg_iincv (ls' := gL4 Γ ad (i + 7)) dL_law_1178 0 rfl (by omega) (by show 3 < 4; omega) rfl ?_
        refine gg_goto (tgt := 18) dL_law_1181 (by decide) ?_
        exact ih (i + 7) σ I J (by omega) (by omega) hp hc hd
      have hB1 : 901 ≤ B.1 ∧ (B.2.2.2.1 ≤ B.2.1 ∧ B.2.2.2.2 ≤ B.2.2.1) := ⟨hB.1, by omega, by omega⟩
      have hi7 : i + 7 ≤ Γ.2.2.2.2.2.1 := by omega
      have cs : y = 0 ∨ y = 1 ∨ y = 2 ∨ y = 3 ∨ y = 4 ∨ y = 5 ∨ y = 6 ∨ y = 7 ∨ y = 8 ∨ y = 9 ∨ y = 10 ∨ y = 11 ∨ y = 12 ∨ y = 13 ∨ y = 14 ∨ y = 15 ∨ y = 16 ∨ y = 17 ∨ y = 18 ∨ y = 19 ∨ y = 20 ∨ y = 21 ∨ y = 22 ∨ y = 23 ∨ y = 24 ∨ y = 25 ∨ 25 < y := by omega
      rcases cs with rfl | rfl | rfl | rfl | rfl | rfl | rfl | rfl | rfl | rfl | rfl | rfl | rfl | rfl | rfl | rfl | rfl | rfl | rfl | rfl | rfl | rfl | rfl | rfl | rfl | rfl | hy2
      · exact gg_tsw (off := 119) (tgt := 152) dL_law_33 (by decide) (by decide) (by decide) (by decide) (w_law_0 hi7 hp hc hd hB1 hk)
      · exact gg_tsw (off := 194) (tgt := 227) dL_law_33 (by decide) (by decide) (by decide) (by decide) (w_law_1 hi7 hp hc hd hB1 hk)
      · exact gg_tsw (off := 217) (tgt := 250) dL_law_33 (by decide) (by decide) (by decide) (by decide) (w_law_2 hi7 hp hc hd hB1 hk)
      · exact gg_tsw (off := 250) (tgt := 283) dL_law_33 (by decide) (by decide) (by decide) (by decide) (w_law_3 hi7 hp hc hd hB1 hk)
      · exact gg_tsw (off := 293) (tgt := 326) dL_law_33 (by decide) (by decide) (by decide) (by decide) (w_law_4 hi7 hp hc hd hB1 hk)
      · exact gg_tsw (off := 336) (tgt := 369) dL_law_33 (by decide) (by decide) (by decide) (by decide) (w_law_5 hi7 hp hc hd hB1 hk)
      · exact gg_tsw (off := 379) (tgt := 412) dL_law_33 (by decide) (by decide) (by decide) (by decide) (w_law_6 hi7 hp hc hd hB1 hk)
      · exact gg_tsw (off := 403) (tgt := 436) dL_law_33 (by decide) (by decide) (by decide) (by decide) (w_law_7 hi7 hp hc hd hB1 hk)
      · exact gg_tsw (off := 436) (tgt := 469) dL_law_33 (by decide) (by decide) (by decide) (by decide) (w_law_8 hi7 hp hc hd hB1 hk)
      · exact gg_tsw (off := 470) (tgt := 503) dL_law_33 (by decide) (by decide) (by decide) (by decide) (w_law_9 hi7 hp hc hd hB1 hk)
      · exact gg_tsw (off := 503) (tgt := 536) dL_law_33 (by decide) (by decide) (by decide) (by decide) (w_law_10 hi7 hp hc hd hB1 hk)
      · exact gg_tsw (off := 536) (tgt := 569) dL_law_33 (by decide) (by decide) (by decide) (by decide) (w_law_11 hi7 hp hc hd hB1 hk)
      · exact gg_tsw (off := 569) (tgt := 602) dL_law_33 (by decide) (by decide) (by decide) (by decide) (w_law_12 hi7 hp hc hd hB1 hk)
      · exact gg_tsw (off := 593) (tgt := 626) dL_law_33 (by decide) (by decide) (by decide) (by decide) (w_law_13 hi7 hp hc hd hB1 hk)
      · exact gg_tsw (off := 636) (tgt := 669) dL_law_33 (by decide) (by decide) (by decide) (by decide) (w_law_14 hi7 hp hc hd hB1 hk)
      · exact gg_tsw (off := 669) (tgt := 702) dL_law_33 (by decide) (by decide) (by decide) (by decide) (w_law_15 hi7 hp hc hd hB1 hk)
      · exact gg_tsw (off := 744) (tgt := 777) dL_law_33 (by decide) (by decide) (by decide) (by decide) (w_law_16 hi7 hp hc hd hB1 hk)
      · exact gg_tsw (off := 778) (tgt := 811) dL_law_33 (by decide) (by decide) (by decide) (by decide) (w_law_17 hi7 hp hc hd hB1 hk)
      · exact gg_tsw (off := 841) (tgt := 874) dL_law_33 (by decide) (by decide) (by decide) (by decide) (w_law_18 hi7 hp hc hd hB1 hk)
      · exact gg_tsw (off := 894) (tgt := 927) dL_law_33 (by decide) (by decide) (by decide) (by decide) (w_law_19 hi7 hp hc hd hB1 hk)
      · exact gg_tsw (off := 947) (tgt := 980) dL_law_33 (by decide) (by decide) (by decide) (by decide) (w_law_20 hi7 hp hc hd hB1 hk)
      · exact gg_tsw (off := 960) (tgt := 993) dL_law_33 (by decide) (by decide) (by decide) (by decide) (w_law_21 hi7 hp hc hd hB1 hk)
      · exact gg_tsw (off := 973) (tgt := 1006) dL_law_33 (by decide) (by decide) (by decide) (by decide) (w_law_22 hi7 hp hc hd hB1 hk)
      · exact gg_tsw (off := 996) (tgt := 1029) dL_law_33 (by decide) (by decide) (by decide) (by decide) (w_law_23 hi7 hp hc hd hB1 hk)
      · exact gg_tsw (off := 1039) (tgt := 1072) dL_law_33 (by decide) (by decide) (by decide) (by decide) (w_law_24 hi7 hp hc hd hB1 hk)
      · exact gg_tsw (off := 1082) (tgt := 1115) dL_law_33 (by decide) (by decide) (by decide) (by decide) (w_law_25 hi7 hp hc hd hB1 hk)
      · exact gg_tsw_out (tgt := 1178) dL_law_33 (by omega) (Or.inr hy2) (by decide) (hk σ I J hp hc hd)
end LW
