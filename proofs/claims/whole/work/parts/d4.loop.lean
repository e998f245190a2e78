/-! the law: each of its calls -/
theorem y_stk {c : ZX} {p : Program} {l : Launch} {e : Env} {s : State} {m : MethodId} {below : List Frame} {meth : Method} {cd : Code} {b : Nat} {kc ks pc : Nat} {lv : List (Option Value)} {st st' : List Value} {σ : ZS} (h : st = st') (k : LX c p l e s m below meth cd b kc ks pc lv st' σ) : LX c p l e s m below meth cd b kc ks pc lv st σ := h ▸ k
set_option maxHeartbeats 4000000 in
theorem law_set {c : ZX} {p : Program} {l : Launch} {e : Env} {s : State} {m : MethodId} {below : List Frame} {meth : Method} {cd : Code} {b L : Nat} {xs : Nat → Int32} {kc ks n : Nat} {σ : ZS} (G : LG c p s m meth cd b L xs) (hL : L ≤ 3072) (hn : n + 6 ≤ L) (hI : INV σ) (hkc : kc + 3 ≤ 600000) (hks : ks + 364 ≤ 7302250) (K : ∀ σ', INV σ' → LX c p l e s m below meth cd b (kc + 3) (ks + 364) 961 [some (.ref 3026), some (.ref 0), some (.ref 1000), some (.int (nI n))] [] σ') : LX c p l e s m below meth cd b kc ks 152 [some (.ref 3026), some (.ref 0), some (.ref 1000), some (.int (nI n))] [] σ := by
  obtain ⟨z, hz⟩ := s_set hI (xs (n + 1)) (xs (n + 2)) (xs (n + 3))
  obtain ⟨fs, g0⟩ := hI.o0
  refine y_aload_n (i := 1) (x := 0) G dL_law_152 rfl ?_
  refine y_arg G (j := 1) (n := n) rfl dL_law_153 dL_law_154 dL_law_155 dL_law_156 dL_law_157 rfl rfl (by omega) hL ?_
  refine y_arg G (j := 2) (n := n) rfl dL_law_158 dL_law_159 dL_law_160 dL_law_161 dL_law_162 rfl rfl (by omega) hL ?_
  refine y_arg G (j := 3) (n := n) rfl dL_law_163 dL_law_164 dL_law_165 dL_law_166 dL_law_167 rfl rfl (by omega) hL ?_
  refine y_callV G m_X7_set l_L_13 hz (ci := 6) rfl g0 rfl rfl (Nat.le_of_ble_eq_true rfl) ⟨by omega, by omega⟩ dL_law_168 (fun r1 σ1 q1 => ?_)
  obtain ⟨rfl, ⟨fs1, g1⟩, h8⟩ := q1
  refine y_stk (st' := [.int z]) rfl ?_
  refine y_aload_n (i := 2) (x := 1000) G dL_law_171 rfl ?_
  refine y_arg G (j := 1) (n := n) rfl dL_law_172 dL_law_173 dL_law_174 dL_law_175 dL_law_176 rfl rfl (by omega) hL ?_
  refine y_arg G (j := 2) (n := n) rfl dL_law_177 dL_law_178 dL_law_179 dL_law_180 dL_law_181 rfl rfl (by omega) hL ?_
  refine y_arg G (j := 3) (n := n) rfl dL_law_182 dL_law_183 dL_law_184 dL_law_185 dL_law_186 rfl rfl (by omega) hL ?_
  refine y_callV G m_X8_set l_L_17 h8 (ci := 7) rfl g1 rfl rfl (Nat.le_of_ble_eq_true rfl) ⟨by omega, by omega⟩ dL_law_187 (fun r2 σ2 q2 => ?_)
  obtain ⟨rfl, hI2⟩ := q2
  refine y_stk (st' := [.int z, .int z]) rfl ?_
  refine y_icmp_same G (tgt := 961) dL_law_190 (by decide) ?_
  exact y_wide (by omega) (by omega) (K σ2 hI2)
set_option maxHeartbeats 4000000 in
theorem law_guest {c : ZX} {p : Program} {l : Launch} {e : Env} {s : State} {m : MethodId} {below : List Frame} {meth : Method} {cd : Code} {b L : Nat} {xs : Nat → Int32} {kc ks n : Nat} {σ : ZS} (G : LG c p s m meth cd b L xs) (hL : L ≤ 3072) (hn : n + 6 ≤ L) (hI : INV σ) (hkc : kc + 3 ≤ 600000) (hks : ks + 364 ≤ 7302250) (K : ∀ σ', INV σ' → LX c p l e s m below meth cd b (kc + 3) (ks + 364) 961 [some (.ref 3026), some (.ref 0), some (.ref 1000), some (.int (nI n))] [] σ') : LX c p l e s m below meth cd b kc ks 195 [some (.ref 3026), some (.ref 0), some (.ref 1000), some (.int (nI n))] [] σ := by
  obtain ⟨z, hz⟩ := s_guest hI (xs (n + 1)) (xs (n + 2))
  obtain ⟨fs, g0⟩ := hI.o0
  refine y_aload_n (i := 1) (x := 0) G dL_law_195 rfl ?_
  refine y_arg G (j := 1) (n := n) rfl dL_law_196 dL_law_197 dL_law_198 dL_law_199 dL_law_200 rfl rfl (by omega) hL ?_
  refine y_arg G (j := 2) (n := n) rfl dL_law_201 dL_law_202 dL_law_203 dL_law_204 dL_law_205 rfl rfl (by omega) hL ?_
  refine y_callV G m_X7_guest l_L_18 hz (ci := 6) rfl g0 rfl rfl (Nat.le_of_ble_eq_true rfl) ⟨by omega, by omega⟩ dL_law_206 (fun r1 σ1 q1 => ?_)
  obtain ⟨rfl, ⟨fs1, g1⟩, h8⟩ := q1
  refine y_stk (st' := [.int z]) rfl ?_
  refine y_aload_n (i := 2) (x := 1000) G dL_law_209 rfl ?_
  refine y_arg G (j := 1) (n := n) rfl dL_law_210 dL_law_211 dL_law_212 dL_law_213 dL_law_214 rfl rfl (by omega) hL ?_
  refine y_arg G (j := 2) (n := n) rfl dL_law_215 dL_law_216 dL_law_217 dL_law_218 dL_law_219 rfl rfl (by omega) hL ?_
  refine y_callV G m_X8_guest l_L_22 h8 (ci := 7) rfl g1 rfl rfl (Nat.le_of_ble_eq_true rfl) ⟨by omega, by omega⟩ dL_law_220 (fun r2 σ2 q2 => ?_)
  obtain ⟨rfl, hI2⟩ := q2
  refine y_stk (st' := [.int z, .int z]) rfl ?_
  refine y_icmp_same G (tgt := 961) dL_law_223 (by decide) ?_
  exact y_wide (by omega) (by omega) (K σ2 hI2)
set_option maxHeartbeats 4000000 in
theorem law_owe {c : ZX} {p : Program} {l : Launch} {e : Env} {s : State} {m : MethodId} {below : List Frame} {meth : Method} {cd : Code} {b L : Nat} {xs : Nat → Int32} {kc ks n : Nat} {σ : ZS} (G : LG c p s m meth cd b L xs) (hL : L ≤ 3072) (hn : n + 6 ≤ L) (hI : INV σ) (hkc : kc + 3 ≤ 600000) (hks : ks + 364 ≤ 7302250) (K : ∀ σ', INV σ' → LX c p l e s m below meth cd b (kc + 3) (ks + 364) 961 [some (.ref 3026), some (.ref 0), some (.ref 1000), some (.int (nI n))] [] σ') : LX c p l e s m below meth cd b kc ks 228 [some (.ref 3026), some (.ref 0), some (.ref 1000), some (.int (nI n))] [] σ := by
  obtain ⟨z, hz⟩ := s_owe hI (xs (n + 1)) (xs (n + 2)) (xs (n + 3))
  obtain ⟨fs, g0⟩ := hI.o0
  refine y_aload_n (i := 1) (x := 0) G dL_law_228 rfl ?_
  refine y_arg G (j := 1) (n := n) rfl dL_law_229 dL_law_230 dL_law_231 dL_law_232 dL_law_233 rfl rfl (by omega) hL ?_
  refine y_arg G (j := 2) (n := n) rfl dL_law_234 dL_law_235 dL_law_236 dL_law_237 dL_law_238 rfl rfl (by omega) hL ?_
  refine y_arg G (j := 3) (n := n) rfl dL_law_239 dL_law_240 dL_law_241 dL_law_242 dL_law_243 rfl rfl (by omega) hL ?_
  refine y_callV G m_X7_owe l_L_23 hz (ci := 6) rfl g0 rfl rfl (Nat.le_of_ble_eq_true rfl) ⟨by omega, by omega⟩ dL_law_244 (fun r1 σ1 q1 => ?_)
  obtain ⟨rfl, ⟨fs1, g1⟩, h8⟩ := q1
  refine y_stk (st' := [.int z]) rfl ?_
  refine y_aload_n (i := 2) (x := 1000) G dL_law_247 rfl ?_
  refine y_arg G (j := 1) (n := n) rfl dL_law_248 dL_law_249 dL_law_250 dL_law_251 dL_law_252 rfl rfl (by omega) hL ?_
  refine y_arg G (j := 2) (n := n) rfl dL_law_253 dL_law_254 dL_law_255 dL_law_256 dL_law_257 rfl rfl (by omega) hL ?_
  refine y_arg G (j := 3) (n := n) rfl dL_law_258 dL_law_259 dL_law_260 dL_law_261 dL_law_262 rfl rfl (by omega) hL ?_
  refine y_callV G m_X8_owe l_L_26 h8 (ci := 7) rfl g1 rfl rfl (Nat.le_of_ble_eq_true rfl) ⟨by omega, by omega⟩ dL_law_263 (fun r2 σ2 q2 => ?_)
  obtain ⟨rfl, hI2⟩ := q2
  refine y_stk (st' := [.int z, .int z]) rfl ?_
  refine y_icmp_same G (tgt := 961) dL_law_266 (by decide) ?_
  exact y_wide (by omega) (by omega) (K σ2 hI2)
set_option maxHeartbeats 4000000 in
theorem law_told {c : ZX} {p : Program} {l : Launch} {e : Env} {s : State} {m : MethodId} {below : List Frame} {meth : Method} {cd : Code} {b L : Nat} {xs : Nat → Int32} {kc ks n : Nat} {σ : ZS} (G : LG c p s m meth cd b L xs) (hL : L ≤ 3072) (hn : n + 6 ≤ L) (hI : INV σ) (hkc : kc + 3 ≤ 600000) (hks : ks + 364 ≤ 7302250) (K : ∀ σ', INV σ' → LX c p l e s m below meth cd b (kc + 3) (ks + 364) 961 [some (.ref 3026), some (.ref 0), some (.ref 1000), some (.int (nI n))] [] σ') : LX c p l e s m below meth cd b kc ks 271 [some (.ref 3026), some (.ref 0), some (.ref 1000), some (.int (nI n))] [] σ := by
  obtain ⟨z, hz⟩ := s_told hI (xs (n + 1)) (xs (n + 2))
  obtain ⟨fs, g0⟩ := hI.o0
  refine y_aload_n (i := 1) (x := 0) G dL_law_271 rfl ?_
  refine y_arg G (j := 1) (n := n) rfl dL_law_272 dL_law_273 dL_law_274 dL_law_275 dL_law_276 rfl rfl (by omega) hL ?_
  refine y_arg G (j := 2) (n := n) rfl dL_law_277 dL_law_278 dL_law_279 dL_law_280 dL_law_281 rfl rfl (by omega) hL ?_
  refine y_callV G m_X7_told l_L_27 hz (ci := 6) rfl g0 rfl rfl (Nat.le_of_ble_eq_true rfl) ⟨by omega, by omega⟩ dL_law_282 (fun r1 σ1 q1 => ?_)
  obtain ⟨rfl, ⟨fs1, g1⟩, h8⟩ := q1
  refine y_stk (st' := [.int z]) rfl ?_
  refine y_aload_n (i := 2) (x := 1000) G dL_law_285 rfl ?_
  refine y_arg G (j := 1) (n := n) rfl dL_law_286 dL_law_287 dL_law_288 dL_law_289 dL_law_290 rfl rfl (by omega) hL ?_
  refine y_arg G (j := 2) (n := n) rfl dL_law_291 dL_law_292 dL_law_293 dL_law_294 dL_law_295 rfl rfl (by omega) hL ?_
  refine y_callV G m_X8_told l_L_30 h8 (ci := 7) rfl g1 rfl rfl (Nat.le_of_ble_eq_true rfl) ⟨by omega, by omega⟩ dL_law_296 (fun r2 σ2 q2 => ?_)
  obtain ⟨rfl, hI2⟩ := q2
  refine y_stk (st' := [.int z, .int z]) rfl ?_
  refine y_icmp_same G (tgt := 961) dL_law_299 (by decide) ?_
  exact y_wide (by omega) (by omega) (K σ2 hI2)
set_option maxHeartbeats 4000000 in
theorem law_feed {c : ZX} {p : Program} {l : Launch} {e : Env} {s : State} {m : MethodId} {below : List Frame} {meth : Method} {cd : Code} {b L : Nat} {xs : Nat → Int32} {kc ks n : Nat} {σ : ZS} (G : LG c p s m meth cd b L xs) (hL : L ≤ 3072) (hn : n + 6 ≤ L) (hI : INV σ) (hkc : kc + 3 ≤ 600000) (hks : ks + 364 ≤ 7302250) (K : ∀ σ', INV σ' → LX c p l e s m below meth cd b (kc + 3) (ks + 364) 961 [some (.ref 3026), some (.ref 0), some (.ref 1000), some (.int (nI n))] [] σ') : LX c p l e s m below meth cd b kc ks 304 [some (.ref 3026), some (.ref 0), some (.ref 1000), some (.int (nI n))] [] σ := by
  obtain ⟨z, hz⟩ := s_feed hI (xs (n + 1))
  obtain ⟨fs, g0⟩ := hI.o0
  refine y_aload_n (i := 1) (x := 0) G dL_law_304 rfl ?_
  refine y_arg G (j := 1) (n := n) rfl dL_law_305 dL_law_306 dL_law_307 dL_law_308 dL_law_309 rfl rfl (by omega) hL ?_
  refine y_callV G m_X7_feed l_L_31 hz (ci := 6) rfl g0 rfl rfl (Nat.le_of_ble_eq_true rfl) ⟨by omega, by omega⟩ dL_law_310 (fun r1 σ1 q1 => ?_)
  obtain ⟨rfl, ⟨fs1, g1⟩, h8⟩ := q1
  refine y_stk (st' := [.int z]) rfl ?_
  refine y_aload_n (i := 2) (x := 1000) G dL_law_313 rfl ?_
  refine y_arg G (j := 1) (n := n) rfl dL_law_314 dL_law_315 dL_law_316 dL_law_317 dL_law_318 rfl rfl (by omega) hL ?_
  refine y_callV G m_X8_feed l_L_35 h8 (ci := 7) rfl g1 rfl rfl (Nat.le_of_ble_eq_true rfl) ⟨by omega, by omega⟩ dL_law_319 (fun r2 σ2 q2 => ?_)
  obtain ⟨rfl, hI2⟩ := q2
  refine y_stk (st' := [.int z, .int z]) rfl ?_
  refine y_icmp_same G (tgt := 961) dL_law_322 (by decide) ?_
  exact y_wide (by omega) (by omega) (K σ2 hI2)
set_option maxHeartbeats 4000000 in
theorem law_text {c : ZX} {p : Program} {l : Launch} {e : Env} {s : State} {m : MethodId} {below : List Frame} {meth : Method} {cd : Code} {b L : Nat} {xs : Nat → Int32} {kc ks n : Nat} {σ : ZS} (G : LG c p s m meth cd b L xs) (hL : L ≤ 3072) (hn : n + 6 ≤ L) (hI : INV σ) (hkc : kc + 3 ≤ 600000) (hks : ks + 364 ≤ 7302250) (K : ∀ σ', INV σ' → LX c p l e s m below meth cd b (kc + 3) (ks + 364) 961 [some (.ref 3026), some (.ref 0), some (.ref 1000), some (.int (nI n))] [] σ') : LX c p l e s m below meth cd b kc ks 327 [some (.ref 3026), some (.ref 0), some (.ref 1000), some (.int (nI n))] [] σ := by
  obtain ⟨z, hz⟩ := s_text hI
  obtain ⟨fs, g0⟩ := hI.o0
  refine y_aload_n (i := 1) (x := 0) G dL_law_327 rfl ?_
  refine y_callV G m_X7_text l_L_36 hz (ci := 6) rfl g0 rfl rfl (Nat.le_of_ble_eq_true rfl) ⟨by omega, by omega⟩ dL_law_328 (fun r1 σ1 q1 => ?_)
  obtain ⟨rfl, ⟨fs1, g1⟩, h8⟩ := q1
  refine y_stk (st' := [.int z]) rfl ?_
  refine y_aload_n (i := 2) (x := 1000) G dL_law_331 rfl ?_
  refine y_callV G m_X8_text l_L_40 h8 (ci := 7) rfl g1 rfl rfl (Nat.le_of_ble_eq_true rfl) ⟨by omega, by omega⟩ dL_law_332 (fun r2 σ2 q2 => ?_)
  obtain ⟨rfl, hI2⟩ := q2
  refine y_stk (st' := [.int z, .int z]) rfl ?_
  refine y_icmp_same G (tgt := 961) dL_law_335 (by decide) ?_
  exact y_wide (by omega) (by omega) (K σ2 hI2)
set_option maxHeartbeats 4000000 in
theorem law_force {c : ZX} {p : Program} {l : Launch} {e : Env} {s : State} {m : MethodId} {below : List Frame} {meth : Method} {cd : Code} {b L : Nat} {xs : Nat → Int32} {kc ks n : Nat} {σ : ZS} (G : LG c p s m meth cd b L xs) (hL : L ≤ 3072) (hn : n + 6 ≤ L) (hI : INV σ) (hkc : kc + 3 ≤ 600000) (hks : ks + 364 ≤ 7302250) (K : ∀ σ', INV σ' → LX c p l e s m below meth cd b (kc + 3) (ks + 364) 961 [some (.ref 3026), some (.ref 0), some (.ref 1000), some (.int (nI n))] [] σ') : LX c p l e s m below meth cd b kc ks 340 [some (.ref 3026), some (.ref 0), some (.ref 1000), some (.int (nI n))] [] σ := by
  obtain ⟨z, hz⟩ := s_force hI (xs (n + 1))
  obtain ⟨fs, g0⟩ := hI.o0
  refine y_aload_n (i := 1) (x := 0) G dL_law_340 rfl ?_
  refine y_arg G (j := 1) (n := n) rfl dL_law_341 dL_law_342 dL_law_343 dL_law_344 dL_law_345 rfl rfl (by omega) hL ?_
  refine y_callV G m_X7_force l_L_41 hz (ci := 6) rfl g0 rfl rfl (Nat.le_of_ble_eq_true rfl) ⟨by omega, by omega⟩ dL_law_346 (fun r1 σ1 q1 => ?_)
  obtain ⟨rfl, ⟨fs1, g1⟩, h8⟩ := q1
  refine y_stk (st' := [.int z]) rfl ?_
  refine y_aload_n (i := 2) (x := 1000) G dL_law_349 rfl ?_
  refine y_arg G (j := 1) (n := n) rfl dL_law_350 dL_law_351 dL_law_352 dL_law_353 dL_law_354 rfl rfl (by omega) hL ?_
  refine y_callV G m_X8_force l_L_44 h8 (ci := 7) rfl g1 rfl rfl (Nat.le_of_ble_eq_true rfl) ⟨by omega, by omega⟩ dL_law_355 (fun r2 σ2 q2 => ?_)
  obtain ⟨rfl, hI2⟩ := q2
  refine y_stk (st' := [.int z, .int z]) rfl ?_
  refine y_icmp_same G (tgt := 961) dL_law_358 (by decide) ?_
  exact y_wide (by omega) (by omega) (K σ2 hI2)
set_option maxHeartbeats 4000000 in
theorem law_table {c : ZX} {p : Program} {l : Launch} {e : Env} {s : State} {m : MethodId} {below : List Frame} {meth : Method} {cd : Code} {b L : Nat} {xs : Nat → Int32} {kc ks n : Nat} {σ : ZS} (G : LG c p s m meth cd b L xs) (hL : L ≤ 3072) (hn : n + 6 ≤ L) (hI : INV σ) (hkc : kc + 3 ≤ 600000) (hks : ks + 364 ≤ 7302250) (K : ∀ σ', INV σ' → LX c p l e s m below meth cd b (kc + 3) (ks + 364) 961 [some (.ref 3026), some (.ref 0), some (.ref 1000), some (.int (nI n))] [] σ') : LX c p l e s m below meth cd b kc ks 363 [some (.ref 3026), some (.ref 0), some (.ref 1000), some (.int (nI n))] [] σ := by
  obtain ⟨z, hz⟩ := s_table hI (xs (n + 1)) (xs (n + 2))
  obtain ⟨fs, g0⟩ := hI.o0
  refine y_aload_n (i := 1) (x := 0) G dL_law_363 rfl ?_
  refine y_arg G (j := 1) (n := n) rfl dL_law_364 dL_law_365 dL_law_366 dL_law_367 dL_law_368 rfl rfl (by omega) hL ?_
  refine y_arg G (j := 2) (n := n) rfl dL_law_369 dL_law_370 dL_law_371 dL_law_372 dL_law_373 rfl rfl (by omega) hL ?_
  refine y_callV G m_X7_table l_L_45 hz (ci := 6) rfl g0 rfl rfl (Nat.le_of_ble_eq_true rfl) ⟨by omega, by omega⟩ dL_law_374 (fun r1 σ1 q1 => ?_)
  obtain ⟨rfl, ⟨fs1, g1⟩, h8⟩ := q1
  refine y_stk (st' := [.int z]) rfl ?_
  refine y_aload_n (i := 2) (x := 1000) G dL_law_377 rfl ?_
  refine y_arg G (j := 1) (n := n) rfl dL_law_378 dL_law_379 dL_law_380 dL_law_381 dL_law_382 rfl rfl (by omega) hL ?_
  refine y_arg G (j := 2) (n := n) rfl dL_law_383 dL_law_384 dL_law_385 dL_law_386 dL_law_387 rfl rfl (by omega) hL ?_
  refine y_callV G m_X8_table l_L_48 h8 (ci := 7) rfl g1 rfl rfl (Nat.le_of_ble_eq_true rfl) ⟨by omega, by omega⟩ dL_law_388 (fun r2 σ2 q2 => ?_)
  obtain ⟨rfl, hI2⟩ := q2
  refine y_stk (st' := [.int z, .int z]) rfl ?_
  refine y_icmp_same G (tgt := 961) dL_law_391 (by decide) ?_
  exact y_wide (by omega) (by omega) (K σ2 hI2)
set_option maxHeartbeats 4000000 in
theorem law_dine {c : ZX} {p : Program} {l : Launch} {e : Env} {s : State} {m : MethodId} {below : List Frame} {meth : Method} {cd : Code} {b L : Nat} {xs : Nat → Int32} {kc ks n : Nat} {σ : ZS} (G : LG c p s m meth cd b L xs) (hL : L ≤ 3072) (hn : n + 6 ≤ L) (hI : INV σ) (hkc : kc + 3 ≤ 600000) (hks : ks + 364 ≤ 7302250) (K : ∀ σ', INV σ' → LX c p l e s m below meth cd b (kc + 3) (ks + 364) 961 [some (.ref 3026), some (.ref 0), some (.ref 1000), some (.int (nI n))] [] σ') : LX c p l e s m below meth cd b kc ks 396 [some (.ref 3026), some (.ref 0), some (.ref 1000), some (.int (nI n))] [] σ := by
  obtain ⟨z, hz⟩ := s_dine hI (xs (n + 1))
  obtain ⟨fs, g0⟩ := hI.o0
  refine y_aload_n (i := 1) (x := 0) G dL_law_396 rfl ?_
  refine y_arg G (j := 1) (n := n) rfl dL_law_397 dL_law_398 dL_law_399 dL_law_400 dL_law_401 rfl rfl (by omega) hL ?_
  refine y_callV G m_X7_dine l_L_49 hz (ci := 6) rfl g0 rfl rfl (Nat.le_of_ble_eq_true rfl) ⟨by omega, by omega⟩ dL_law_402 (fun r1 σ1 q1 => ?_)
  obtain ⟨rfl, ⟨fs1, g1⟩, h8⟩ := q1
  refine y_stk (st' := [.int z]) rfl ?_
  refine y_aload_n (i := 2) (x := 1000) G dL_law_405 rfl ?_
  refine y_arg G (j := 1) (n := n) rfl dL_law_406 dL_law_407 dL_law_408 dL_law_409 dL_law_410 rfl rfl (by omega) hL ?_
  refine y_callV G m_X8_dine l_L_52 h8 (ci := 7) rfl g1 rfl rfl (Nat.le_of_ble_eq_true rfl) ⟨by omega, by omega⟩ dL_law_411 (fun r2 σ2 q2 => ?_)
  obtain ⟨rfl, hI2⟩ := q2
  refine y_stk (st' := [.int z, .int z]) rfl ?_
  refine y_icmp_same G (tgt := 961) dL_law_414 (by decide) ?_
  exact y_wide (by omega) (by omega) (K σ2 hI2)
set_option maxHeartbeats 4000000 in
theorem law_tables {c : ZX} {p : Program} {l : Launch} {e : Env} {s : State} {m : MethodId} {below : List Frame} {meth : Method} {cd : Code} {b L : Nat} {xs : Nat → Int32} {kc ks n : Nat} {σ : ZS} (G : LG c p s m meth cd b L xs) (hL : L ≤ 3072) (hn : n + 6 ≤ L) (hI : INV σ) (hkc : kc + 3 ≤ 600000) (hks : ks + 364 ≤ 7302250) (K : ∀ σ', INV σ' → LX c p l e s m below meth cd b (kc + 3) (ks + 364) 961 [some (.ref 3026), some (.ref 0), some (.ref 1000), some (.int (nI n))] [] σ') : LX c p l e s m below meth cd b kc ks 419 [some (.ref 3026), some (.ref 0), some (.ref 1000), some (.int (nI n))] [] σ := by
  obtain ⟨z, hz⟩ := s_tables hI (xs (n + 1))
  obtain ⟨fs, g0⟩ := hI.o0
  refine y_aload_n (i := 1) (x := 0) G dL_law_419 rfl ?_
  refine y_arg G (j := 1) (n := n) rfl dL_law_420 dL_law_421 dL_law_422 dL_law_423 dL_law_424 rfl rfl (by omega) hL ?_
  refine y_callV G m_X7_tables l_L_53 hz (ci := 6) rfl g0 rfl rfl (Nat.le_of_ble_eq_true rfl) ⟨by omega, by omega⟩ dL_law_425 (fun r1 σ1 q1 => ?_)
  obtain ⟨rfl, ⟨fs1, g1⟩, h8⟩ := q1
  refine y_stk (st' := [.int z]) rfl ?_
  refine y_aload_n (i := 2) (x := 1000) G dL_law_428 rfl ?_
  refine y_arg G (j := 1) (n := n) rfl dL_law_429 dL_law_430 dL_law_431 dL_law_432 dL_law_433 rfl rfl (by omega) hL ?_
  refine y_callV G m_X8_tables l_L_56 h8 (ci := 7) rfl g1 rfl rfl (Nat.le_of_ble_eq_true rfl) ⟨by omega, by omega⟩ dL_law_434 (fun r2 σ2 q2 => ?_)
  obtain ⟨rfl, hI2⟩ := q2
  refine y_stk (st' := [.int z, .int z]) rfl ?_
  refine y_icmp_same G (tgt := 961) dL_law_437 (by decide) ?_
  exact y_wide (by omega) (by omega) (K σ2 hI2)
set_option maxHeartbeats 4000000 in
theorem law_bars {c : ZX} {p : Program} {l : Launch} {e : Env} {s : State} {m : MethodId} {below : List Frame} {meth : Method} {cd : Code} {b L : Nat} {xs : Nat → Int32} {kc ks n : Nat} {σ : ZS} (G : LG c p s m meth cd b L xs) (hL : L ≤ 3072) (hn : n + 6 ≤ L) (hI : INV σ) (hkc : kc + 3 ≤ 600000) (hks : ks + 364 ≤ 7302250) (K : ∀ σ', INV σ' → LX c p l e s m below meth cd b (kc + 3) (ks + 364) 961 [some (.ref 3026), some (.ref 0), some (.ref 1000), some (.int (nI n))] [] σ') : LX c p l e s m below meth cd b kc ks 442 [some (.ref 3026), some (.ref 0), some (.ref 1000), some (.int (nI n))] [] σ := by
  obtain ⟨z, hz⟩ := s_bars hI
  obtain ⟨fs, g0⟩ := hI.o0
  refine y_aload_n (i := 1) (x := 0) G dL_law_442 rfl ?_
  refine y_callV G m_X7_bars l_L_57 hz (ci := 6) rfl g0 rfl rfl (Nat.le_of_ble_eq_true rfl) ⟨by omega, by omega⟩ dL_law_443 (fun r1 σ1 q1 => ?_)
  obtain ⟨rfl, ⟨fs1, g1⟩, h8⟩ := q1
  refine y_stk (st' := [.int z]) rfl ?_
  refine y_aload_n (i := 2) (x := 1000) G dL_law_446 rfl ?_
  refine y_callV G m_X8_bars l_L_60 h8 (ci := 7) rfl g1 rfl rfl (Nat.le_of_ble_eq_true rfl) ⟨by omega, by omega⟩ dL_law_447 (fun r2 σ2 q2 => ?_)
  obtain ⟨rfl, hI2⟩ := q2
  refine y_stk (st' := [.int z, .int z]) rfl ?_
  refine y_icmp_same G (tgt := 961) dL_law_450 (by decide) ?_
  exact y_wide (by omega) (by omega) (K σ2 hI2)
set_option maxHeartbeats 4000000 in
theorem law_borrow {c : ZX} {p : Program} {l : Launch} {e : Env} {s : State} {m : MethodId} {below : List Frame} {meth : Method} {cd : Code} {b L : Nat} {xs : Nat → Int32} {kc ks n : Nat} {σ : ZS} (G : LG c p s m meth cd b L xs) (hL : L ≤ 3072) (hn : n + 6 ≤ L) (hI : INV σ) (hkc : kc + 3 ≤ 600000) (hks : ks + 364 ≤ 7302250) (K : ∀ σ', INV σ' → LX c p l e s m below meth cd b (kc + 3) (ks + 364) 961 [some (.ref 3026), some (.ref 0), some (.ref 1000), some (.int (nI n))] [] σ') : LX c p l e s m below meth cd b kc ks 455 [some (.ref 3026), some (.ref 0), some (.ref 1000), some (.int (nI n))] [] σ := by
  obtain ⟨z, hz⟩ := s_borrow hI (xs (n + 1)) (xs (n + 2))
  obtain ⟨fs, g0⟩ := hI.o0
  refine y_aload_n (i := 1) (x := 0) G dL_law_455 rfl ?_
  refine y_arg G (j := 1) (n := n) rfl dL_law_456 dL_law_457 dL_law_458 dL_law_459 dL_law_460 rfl rfl (by omega) hL ?_
  refine y_arg G (j := 2) (n := n) rfl dL_law_461 dL_law_462 dL_law_463 dL_law_464 dL_law_465 rfl rfl (by omega) hL ?_
  refine y_callV G m_X7_borrow l_L_61 hz (ci := 6) rfl g0 rfl rfl (Nat.le_of_ble_eq_true rfl) ⟨by omega, by omega⟩ dL_law_466 (fun r1 σ1 q1 => ?_)
  obtain ⟨rfl, ⟨fs1, g1⟩, h8⟩ := q1
  refine y_stk (st' := [.int z]) rfl ?_
  refine y_aload_n (i := 2) (x := 1000) G dL_law_469 rfl ?_
  refine y_arg G (j := 1) (n := n) rfl dL_law_470 dL_law_471 dL_law_472 dL_law_473 dL_law_474 rfl rfl (by omega) hL ?_
  refine y_arg G (j := 2) (n := n) rfl dL_law_475 dL_law_476 dL_law_477 dL_law_478 dL_law_479 rfl rfl (by omega) hL ?_
  refine y_callV G m_X8_borrow l_L_64 h8 (ci := 7) rfl g1 rfl rfl (Nat.le_of_ble_eq_true rfl) ⟨by omega, by omega⟩ dL_law_480 (fun r2 σ2 q2 => ?_)
  obtain ⟨rfl, hI2⟩ := q2
  refine y_stk (st' := [.int z, .int z]) rfl ?_
  refine y_icmp_same G (tgt := 961) dL_law_483 (by decide) ?_
  exact y_wide (by omega) (by omega) (K σ2 hI2)
set_option maxHeartbeats 4000000 in
theorem law_company {c : ZX} {p : Program} {l : Launch} {e : Env} {s : State} {m : MethodId} {below : List Frame} {meth : Method} {cd : Code} {b L : Nat} {xs : Nat → Int32} {kc ks n : Nat} {σ : ZS} (G : LG c p s m meth cd b L xs) (hL : L ≤ 3072) (hn : n + 6 ≤ L) (hI : INV σ) (hkc : kc + 3 ≤ 600000) (hks : ks + 364 ≤ 7302250) (K : ∀ σ', INV σ' → LX c p l e s m below meth cd b (kc + 3) (ks + 364) 961 [some (.ref 3026), some (.ref 0), some (.ref 1000), some (.int (nI n))] [] σ') : LX c p l e s m below meth cd b kc ks 488 [some (.ref 3026), some (.ref 0), some (.ref 1000), some (.int (nI n))] [] σ := by
  obtain ⟨z, hz⟩ := s_company hI (xs (n + 1))
  obtain ⟨fs, g0⟩ := hI.o0
  refine y_aload_n (i := 1) (x := 0) G dL_law_488 rfl ?_
  refine y_arg G (j := 1) (n := n) rfl dL_law_489 dL_law_490 dL_law_491 dL_law_492 dL_law_493 rfl rfl (by omega) hL ?_
  refine y_callV G m_X7_company l_L_65 hz (ci := 6) rfl g0 rfl rfl (Nat.le_of_ble_eq_true rfl) ⟨by omega, by omega⟩ dL_law_494 (fun r1 σ1 q1 => ?_)
  obtain ⟨rfl, ⟨fs1, g1⟩, h8⟩ := q1
  refine y_stk (st' := [.int z]) rfl ?_
  refine y_aload_n (i := 2) (x := 1000) G dL_law_497 rfl ?_
  refine y_arg G (j := 1) (n := n) rfl dL_law_498 dL_law_499 dL_law_500 dL_law_501 dL_law_502 rfl rfl (by omega) hL ?_
  refine y_callV G m_X8_company l_L_68 h8 (ci := 7) rfl g1 rfl rfl (Nat.le_of_ble_eq_true rfl) ⟨by omega, by omega⟩ dL_law_503 (fun r2 σ2 q2 => ?_)
  obtain ⟨rfl, hI2⟩ := q2
  refine y_stk (st' := [.int z, .int z]) rfl ?_
  refine y_icmp_same G (tgt := 961) dL_law_506 (by decide) ?_
  exact y_wide (by omega) (by omega) (K σ2 hI2)
set_option maxHeartbeats 4000000 in
theorem law_run {c : ZX} {p : Program} {l : Launch} {e : Env} {s : State} {m : MethodId} {below : List Frame} {meth : Method} {cd : Code} {b L : Nat} {xs : Nat → Int32} {kc ks n : Nat} {σ : ZS} (G : LG c p s m meth cd b L xs) (hL : L ≤ 3072) (hn : n + 6 ≤ L) (hI : INV σ) (hkc : kc + 3 ≤ 600000) (hks : ks + 364 ≤ 7302250) (K : ∀ σ', INV σ' → LX c p l e s m below meth cd b (kc + 3) (ks + 364) 961 [some (.ref 3026), some (.ref 0), some (.ref 1000), some (.int (nI n))] [] σ') : LX c p l e s m below meth cd b kc ks 511 [some (.ref 3026), some (.ref 0), some (.ref 1000), some (.int (nI n))] [] σ := by
  obtain ⟨z, hz⟩ := s_run hI (xs (n + 1)) (xs (n + 2))
  obtain ⟨fs, g0⟩ := hI.o0
  refine y_aload_n (i := 1) (x := 0) G dL_law_511 rfl ?_
  refine y_arg G (j := 1) (n := n) rfl dL_law_512 dL_law_513 dL_law_514 dL_law_515 dL_law_516 rfl rfl (by omega) hL ?_
  refine y_arg G (j := 2) (n := n) rfl dL_law_517 dL_law_518 dL_law_519 dL_law_520 dL_law_521 rfl rfl (by omega) hL ?_
  refine y_callV G m_X7_run l_L_69 hz (ci := 6) rfl g0 rfl rfl (Nat.le_of_ble_eq_true rfl) ⟨by omega, by omega⟩ dL_law_522 (fun r1 σ1 q1 => ?_)
  obtain ⟨rfl, ⟨fs1, g1⟩, h8⟩ := q1
  refine y_stk (st' := [.int z]) rfl ?_
  refine y_aload_n (i := 2) (x := 1000) G dL_law_525 rfl ?_
  refine y_arg G (j := 1) (n := n) rfl dL_law_526 dL_law_527 dL_law_528 dL_law_529 dL_law_530 rfl rfl (by omega) hL ?_
  refine y_arg G (j := 2) (n := n) rfl dL_law_531 dL_law_532 dL_law_533 dL_law_534 dL_law_535 rfl rfl (by omega) hL ?_
  refine y_callV G m_X8_run l_L_72 h8 (ci := 7) rfl g1 rfl rfl (Nat.le_of_ble_eq_true rfl) ⟨by omega, by omega⟩ dL_law_536 (fun r2 σ2 q2 => ?_)
  obtain ⟨rfl, hI2⟩ := q2
  refine y_stk (st' := [.int z, .int z]) rfl ?_
  refine y_icmp_same G (tgt := 961) dL_law_539 (by decide) ?_
  exact y_wide (by omega) (by omega) (K σ2 hI2)
set_option maxHeartbeats 4000000 in
theorem law_tells {c : ZX} {p : Program} {l : Launch} {e : Env} {s : State} {m : MethodId} {below : List Frame} {meth : Method} {cd : Code} {b L : Nat} {xs : Nat → Int32} {kc ks n : Nat} {σ : ZS} (G : LG c p s m meth cd b L xs) (hL : L ≤ 3072) (hn : n + 6 ≤ L) (hI : INV σ) (hkc : kc + 3 ≤ 600000) (hks : ks + 364 ≤ 7302250) (K : ∀ σ', INV σ' → LX c p l e s m below meth cd b (kc + 3) (ks + 364) 961 [some (.ref 3026), some (.ref 0), some (.ref 1000), some (.int (nI n))] [] σ') : LX c p l e s m below meth cd b kc ks 544 [some (.ref 3026), some (.ref 0), some (.ref 1000), some (.int (nI n))] [] σ := by
  obtain ⟨z, hz⟩ := s_tells hI (xs (n + 1)) (xs (n + 2)) (xs (n + 3))
  obtain ⟨fs, g0⟩ := hI.o0
  refine y_aload_n (i := 1) (x := 0) G dL_law_544 rfl ?_
  refine y_arg G (j := 1) (n := n) rfl dL_law_545 dL_law_546 dL_law_547 dL_law_548 dL_law_549 rfl rfl (by omega) hL ?_
  refine y_arg G (j := 2) (n := n) rfl dL_law_550 dL_law_551 dL_law_552 dL_law_553 dL_law_554 rfl rfl (by omega) hL ?_
  refine y_arg G (j := 3) (n := n) rfl dL_law_555 dL_law_556 dL_law_557 dL_law_558 dL_law_559 rfl rfl (by omega) hL ?_
  refine y_callV G m_X7_tells l_L_73 hz (ci := 6) rfl g0 rfl rfl (Nat.le_of_ble_eq_true rfl) ⟨by omega, by omega⟩ dL_law_560 (fun r1 σ1 q1 => ?_)
  obtain ⟨rfl, ⟨fs1, g1⟩, h8⟩ := q1
  refine y_stk (st' := [.int z]) rfl ?_
  refine y_aload_n (i := 2) (x := 1000) G dL_law_563 rfl ?_
  refine y_arg G (j := 1) (n := n) rfl dL_law_564 dL_law_565 dL_law_566 dL_law_567 dL_law_568 rfl rfl (by omega) hL ?_
  refine y_arg G (j := 2) (n := n) rfl dL_law_569 dL_law_570 dL_law_571 dL_law_572 dL_law_573 rfl rfl (by omega) hL ?_
  refine y_arg G (j := 3) (n := n) rfl dL_law_574 dL_law_575 dL_law_576 dL_law_577 dL_law_578 rfl rfl (by omega) hL ?_
  refine y_callV G m_X8_tells l_L_76 h8 (ci := 7) rfl g1 rfl rfl (Nat.le_of_ble_eq_true rfl) ⟨by omega, by omega⟩ dL_law_579 (fun r2 σ2 q2 => ?_)
  obtain ⟨rfl, hI2⟩ := q2
  refine y_stk (st' := [.int z, .int z]) rfl ?_
  refine y_icmp_same G (tgt := 961) dL_law_582 (by decide) ?_
  exact y_wide (by omega) (by omega) (K σ2 hI2)
set_option maxHeartbeats 4000000 in
theorem law_film {c : ZX} {p : Program} {l : Launch} {e : Env} {s : State} {m : MethodId} {below : List Frame} {meth : Method} {cd : Code} {b L : Nat} {xs : Nat → Int32} {kc ks n : Nat} {σ : ZS} (G : LG c p s m meth cd b L xs) (hL : L ≤ 3072) (hn : n + 6 ≤ L) (hI : INV σ) (hkc : kc + 3 ≤ 600000) (hks : ks + 364 ≤ 7302250) (K : ∀ σ', INV σ' → LX c p l e s m below meth cd b (kc + 3) (ks + 364) 961 [some (.ref 3026), some (.ref 0), some (.ref 1000), some (.int (nI n))] [] σ') : LX c p l e s m below meth cd b kc ks 587 [some (.ref 3026), some (.ref 0), some (.ref 1000), some (.int (nI n))] [] σ := by
  obtain ⟨z, hz⟩ := s_film hI (xs (n + 1))
  obtain ⟨fs, g0⟩ := hI.o0
  refine y_aload_n (i := 1) (x := 0) G dL_law_587 rfl ?_
  refine y_arg G (j := 1) (n := n) rfl dL_law_588 dL_law_589 dL_law_590 dL_law_591 dL_law_592 rfl rfl (by omega) hL ?_
  refine y_callV G m_X7_film l_L_77 hz (ci := 6) rfl g0 rfl rfl (Nat.le_of_ble_eq_true rfl) ⟨by omega, by omega⟩ dL_law_593 (fun r1 σ1 q1 => ?_)
  obtain ⟨rfl, ⟨fs1, g1⟩, h8⟩ := q1
  refine y_stk (st' := [.int z]) rfl ?_
  refine y_aload_n (i := 2) (x := 1000) G dL_law_596 rfl ?_
  refine y_arg G (j := 1) (n := n) rfl dL_law_597 dL_law_598 dL_law_599 dL_law_600 dL_law_601 rfl rfl (by omega) hL ?_
  refine y_callV G m_X8_film l_L_80 h8 (ci := 7) rfl g1 rfl rfl (Nat.le_of_ble_eq_true rfl) ⟨by omega, by omega⟩ dL_law_602 (fun r2 σ2 q2 => ?_)
  obtain ⟨rfl, hI2⟩ := q2
  refine y_stk (st' := [.int z, .int z]) rfl ?_
  refine y_icmp_same G (tgt := 961) dL_law_605 (by decide) ?_
  exact y_wide (by omega) (by omega) (K σ2 hI2)
set_option maxHeartbeats 4000000 in
theorem law_drawn {c : ZX} {p : Program} {l : Launch} {e : Env} {s : State} {m : MethodId} {below : List Frame} {meth : Method} {cd : Code} {b L : Nat} {xs : Nat → Int32} {kc ks n : Nat} {σ : ZS} (G : LG c p s m meth cd b L xs) (hL : L ≤ 3072) (hn : n + 6 ≤ L) (hI : INV σ) (hkc : kc + 3 ≤ 600000) (hks : ks + 364 ≤ 7302250) (K : ∀ σ', INV σ' → LX c p l e s m below meth cd b (kc + 3) (ks + 364) 961 [some (.ref 3026), some (.ref 0), some (.ref 1000), some (.int (nI n))] [] σ') : LX c p l e s m below meth cd b kc ks 610 [some (.ref 3026), some (.ref 0), some (.ref 1000), some (.int (nI n))] [] σ := by
  obtain ⟨z, hz⟩ := s_drawn hI (xs (n + 1))
  obtain ⟨fs, g0⟩ := hI.o0
  refine y_aload_n (i := 1) (x := 0) G dL_law_610 rfl ?_
  refine y_arg G (j := 1) (n := n) rfl dL_law_611 dL_law_612 dL_law_613 dL_law_614 dL_law_615 rfl rfl (by omega) hL ?_
  refine y_callV G m_X7_drawn l_L_81 hz (ci := 6) rfl g0 rfl rfl (Nat.le_of_ble_eq_true rfl) ⟨by omega, by omega⟩ dL_law_616 (fun r1 σ1 q1 => ?_)
  obtain ⟨rfl, ⟨fs1, g1⟩, h8⟩ := q1
  refine y_stk (st' := [.int z]) rfl ?_
  refine y_aload_n (i := 2) (x := 1000) G dL_law_619 rfl ?_
  refine y_arg G (j := 1) (n := n) rfl dL_law_620 dL_law_621 dL_law_622 dL_law_623 dL_law_624 rfl rfl (by omega) hL ?_
  refine y_callV G m_X8_drawn l_L_84 h8 (ci := 7) rfl g1 rfl rfl (Nat.le_of_ble_eq_true rfl) ⟨by omega, by omega⟩ dL_law_625 (fun r2 σ2 q2 => ?_)
  obtain ⟨rfl, hI2⟩ := q2
  refine y_stk (st' := [.int z, .int z]) rfl ?_
  refine y_icmp_same G (tgt := 961) dL_law_628 (by decide) ?_
  exact y_wide (by omega) (by omega) (K σ2 hI2)
set_option maxHeartbeats 4000000 in
theorem law_chance {c : ZX} {p : Program} {l : Launch} {e : Env} {s : State} {m : MethodId} {below : List Frame} {meth : Method} {cd : Code} {b L : Nat} {xs : Nat → Int32} {kc ks n : Nat} {σ : ZS} (G : LG c p s m meth cd b L xs) (hL : L ≤ 3072) (hn : n + 6 ≤ L) (hI : INV σ) (hkc : kc + 3 ≤ 600000) (hks : ks + 364 ≤ 7302250) (K : ∀ σ', INV σ' → LX c p l e s m below meth cd b (kc + 3) (ks + 364) 961 [some (.ref 3026), some (.ref 0), some (.ref 1000), some (.int (nI n))] [] σ') : LX c p l e s m below meth cd b kc ks 633 [some (.ref 3026), some (.ref 0), some (.ref 1000), some (.int (nI n))] [] σ := by
  obtain ⟨z, hz⟩ := s_chance hI (xs (n + 1)) (xs (n + 2)) (xs (n + 3))
  obtain ⟨fs, g0⟩ := hI.o0
  refine y_aload_n (i := 1) (x := 0) G dL_law_633 rfl ?_
  refine y_arg G (j := 1) (n := n) rfl dL_law_634 dL_law_635 dL_law_636 dL_law_637 dL_law_638 rfl rfl (by omega) hL ?_
  refine y_arg G (j := 2) (n := n) rfl dL_law_639 dL_law_640 dL_law_641 dL_law_642 dL_law_643 rfl rfl (by omega) hL ?_
  refine y_arg G (j := 3) (n := n) rfl dL_law_644 dL_law_645 dL_law_646 dL_law_647 dL_law_648 rfl rfl (by omega) hL ?_
  refine y_callV G m_X7_chance l_L_85 hz (ci := 6) rfl g0 rfl rfl (Nat.le_of_ble_eq_true rfl) ⟨by omega, by omega⟩ dL_law_649 (fun r1 σ1 q1 => ?_)
  obtain ⟨rfl, ⟨fs1, g1⟩, h8⟩ := q1
  refine y_stk (st' := [.long z]) rfl ?_
  refine y_aload_n (i := 2) (x := 1000) G dL_law_652 rfl ?_
  refine y_arg G (j := 1) (n := n) rfl dL_law_653 dL_law_654 dL_law_655 dL_law_656 dL_law_657 rfl rfl (by omega) hL ?_
  refine y_arg G (j := 2) (n := n) rfl dL_law_658 dL_law_659 dL_law_660 dL_law_661 dL_law_662 rfl rfl (by omega) hL ?_
  refine y_arg G (j := 3) (n := n) rfl dL_law_663 dL_law_664 dL_law_665 dL_law_666 dL_law_667 rfl rfl (by omega) hL ?_
  refine y_callV G m_X8_chance l_L_89 h8 (ci := 7) rfl g1 rfl rfl (Nat.le_of_ble_eq_true rfl) ⟨by omega, by omega⟩ dL_law_668 (fun r2 σ2 q2 => ?_)
  obtain ⟨rfl, hI2⟩ := q2
  refine y_stk (st' := [.long z, .long z]) rfl ?_
  refine y_lcmp_same G (tgt := 961) dL_law_671 dL_law_672 (by decide) ?_
  exact y_wide (by omega) (by omega) (K σ2 hI2)
set_option maxHeartbeats 4000000 in
theorem law_image {c : ZX} {p : Program} {l : Launch} {e : Env} {s : State} {m : MethodId} {below : List Frame} {meth : Method} {cd : Code} {b L : Nat} {xs : Nat → Int32} {kc ks n : Nat} {σ : ZS} (G : LG c p s m meth cd b L xs) (hL : L ≤ 3072) (hn : n + 6 ≤ L) (hI : INV σ) (hkc : kc + 3 ≤ 600000) (hks : ks + 364 ≤ 7302250) (K : ∀ σ', INV σ' → LX c p l e s m below meth cd b (kc + 3) (ks + 364) 961 [some (.ref 3026), some (.ref 0), some (.ref 1000), some (.int (nI n))] [] σ') : LX c p l e s m below meth cd b kc ks 677 [some (.ref 3026), some (.ref 0), some (.ref 1000), some (.int (nI n))] [] σ := by
  obtain ⟨z, hz⟩ := s_image hI
  obtain ⟨fs, g0⟩ := hI.o0
  refine y_aload_n (i := 1) (x := 0) G dL_law_677 rfl ?_
  refine y_callV G m_X7_image l_L_90 hz (ci := 6) rfl g0 rfl rfl (Nat.le_of_ble_eq_true rfl) ⟨by omega, by omega⟩ dL_law_678 (fun r1 σ1 q1 => ?_)
  obtain ⟨rfl, ⟨fs1, g1⟩, h8⟩ := q1
  refine y_stk (st' := [.int z]) rfl ?_
  refine y_aload_n (i := 2) (x := 1000) G dL_law_681 rfl ?_
  refine y_callV G m_X8_image l_L_93 h8 (ci := 7) rfl g1 rfl rfl (Nat.le_of_ble_eq_true rfl) ⟨by omega, by omega⟩ dL_law_682 (fun r2 σ2 q2 => ?_)
  obtain ⟨rfl, hI2⟩ := q2
  refine y_stk (st' := [.int z, .int z]) rfl ?_
  refine y_icmp_same G (tgt := 961) dL_law_685 (by decide) ?_
  exact y_wide (by omega) (by omega) (K σ2 hI2)
set_option maxHeartbeats 4000000 in
theorem law_back {c : ZX} {p : Program} {l : Launch} {e : Env} {s : State} {m : MethodId} {below : List Frame} {meth : Method} {cd : Code} {b L : Nat} {xs : Nat → Int32} {kc ks n : Nat} {σ : ZS} (G : LG c p s m meth cd b L xs) (hL : L ≤ 3072) (hn : n + 6 ≤ L) (hI : INV σ) (hkc : kc + 3 ≤ 600000) (hks : ks + 364 ≤ 7302250) (K : ∀ σ', INV σ' → LX c p l e s m below meth cd b (kc + 3) (ks + 364) 961 [some (.ref 3026), some (.ref 0), some (.ref 1000), some (.int (nI n))] [] σ') : LX c p l e s m below meth cd b kc ks 690 [some (.ref 3026), some (.ref 0), some (.ref 1000), some (.int (nI n))] [] σ := by
  obtain ⟨z, hz⟩ := s_back hI
  obtain ⟨fs, g0⟩ := hI.o0
  refine y_aload_n (i := 1) (x := 0) G dL_law_690 rfl ?_
  refine y_callV G m_X7_back l_L_94 hz (ci := 6) rfl g0 rfl rfl (Nat.le_of_ble_eq_true rfl) ⟨by omega, by omega⟩ dL_law_691 (fun r1 σ1 q1 => ?_)
  obtain ⟨rfl, ⟨fs1, g1⟩, h8⟩ := q1
  refine y_stk (st' := [.int z]) rfl ?_
  refine y_aload_n (i := 2) (x := 1000) G dL_law_694 rfl ?_
  refine y_callV G m_X8_back l_L_97 h8 (ci := 7) rfl g1 rfl rfl (Nat.le_of_ble_eq_true rfl) ⟨by omega, by omega⟩ dL_law_695 (fun r2 σ2 q2 => ?_)
  obtain ⟨rfl, hI2⟩ := q2
  refine y_stk (st' := [.int z, .int z]) rfl ?_
  refine y_icmp_same G (tgt := 961) dL_law_698 (by decide) ?_
  exact y_wide (by omega) (by omega) (K σ2 hI2)
set_option maxHeartbeats 4000000 in
theorem law_count {c : ZX} {p : Program} {l : Launch} {e : Env} {s : State} {m : MethodId} {below : List Frame} {meth : Method} {cd : Code} {b L : Nat} {xs : Nat → Int32} {kc ks n : Nat} {σ : ZS} (G : LG c p s m meth cd b L xs) (hL : L ≤ 3072) (hn : n + 6 ≤ L) (hI : INV σ) (hkc : kc + 3 ≤ 600000) (hks : ks + 364 ≤ 7302250) (K : ∀ σ', INV σ' → LX c p l e s m below meth cd b (kc + 3) (ks + 364) 961 [some (.ref 3026), some (.ref 0), some (.ref 1000), some (.int (nI n))] [] σ') : LX c p l e s m below meth cd b kc ks 703 [some (.ref 3026), some (.ref 0), some (.ref 1000), some (.int (nI n))] [] σ := by
  obtain ⟨z, hz⟩ := s_count hI (xs (n + 1))
  obtain ⟨fs, g0⟩ := hI.o0
  refine y_aload_n (i := 1) (x := 0) G dL_law_703 rfl ?_
  refine y_arg G (j := 1) (n := n) rfl dL_law_704 dL_law_705 dL_law_706 dL_law_707 dL_law_708 rfl rfl (by omega) hL ?_
  refine y_callV G m_X7_count l_L_98 hz (ci := 6) rfl g0 rfl rfl (Nat.le_of_ble_eq_true rfl) ⟨by omega, by omega⟩ dL_law_709 (fun r1 σ1 q1 => ?_)
  obtain ⟨rfl, ⟨fs1, g1⟩, h8⟩ := q1
  refine y_stk (st' := [.int z]) rfl ?_
  refine y_aload_n (i := 2) (x := 1000) G dL_law_712 rfl ?_
  refine y_arg G (j := 1) (n := n) rfl dL_law_713 dL_law_714 dL_law_715 dL_law_716 dL_law_717 rfl rfl (by omega) hL ?_
  refine y_callV G m_X8_count l_L_101 h8 (ci := 7) rfl g1 rfl rfl (Nat.le_of_ble_eq_true rfl) ⟨by omega, by omega⟩ dL_law_718 (fun r2 σ2 q2 => ?_)
  obtain ⟨rfl, hI2⟩ := q2
  refine y_stk (st' := [.int z, .int z]) rfl ?_
  refine y_icmp_same G (tgt := 961) dL_law_721 (by decide) ?_
  exact y_wide (by omega) (by omega) (K σ2 hI2)
set_option maxHeartbeats 4000000 in
theorem law_sheet {c : ZX} {p : Program} {l : Launch} {e : Env} {s : State} {m : MethodId} {below : List Frame} {meth : Method} {cd : Code} {b L : Nat} {xs : Nat → Int32} {kc ks n : Nat} {σ : ZS} (G : LG c p s m meth cd b L xs) (hL : L ≤ 3072) (hn : n + 6 ≤ L) (hI : INV σ) (hkc : kc + 3 ≤ 600000) (hks : ks + 364 ≤ 7302250) (K : ∀ σ', INV σ' → LX c p l e s m below meth cd b (kc + 3) (ks + 364) 961 [some (.ref 3026), some (.ref 0), some (.ref 1000), some (.int (nI n))] [] σ') : LX c p l e s m below meth cd b kc ks 726 [some (.ref 3026), some (.ref 0), some (.ref 1000), some (.int (nI n))] [] σ := by
  obtain ⟨z, hz⟩ := s_sheet hI (xs (n + 1)) (xs (n + 2)) (xs (n + 3))
  obtain ⟨fs, g0⟩ := hI.o0
  refine y_aload_n (i := 1) (x := 0) G dL_law_726 rfl ?_
  refine y_arg G (j := 1) (n := n) rfl dL_law_727 dL_law_728 dL_law_729 dL_law_730 dL_law_731 rfl rfl (by omega) hL ?_
  refine y_arg G (j := 2) (n := n) rfl dL_law_732 dL_law_733 dL_law_734 dL_law_735 dL_law_736 rfl rfl (by omega) hL ?_
  refine y_arg G (j := 3) (n := n) rfl dL_law_737 dL_law_738 dL_law_739 dL_law_740 dL_law_741 rfl rfl (by omega) hL ?_
  refine y_callV G m_X7_sheet l_L_102 hz (ci := 6) rfl g0 rfl rfl (Nat.le_of_ble_eq_true rfl) ⟨by omega, by omega⟩ dL_law_742 (fun r1 σ1 q1 => ?_)
  obtain ⟨rfl, ⟨fs1, g1⟩, h8⟩ := q1
  refine y_stk (st' := [.int z]) rfl ?_
  refine y_aload_n (i := 2) (x := 1000) G dL_law_745 rfl ?_
  refine y_arg G (j := 1) (n := n) rfl dL_law_746 dL_law_747 dL_law_748 dL_law_749 dL_law_750 rfl rfl (by omega) hL ?_
  refine y_arg G (j := 2) (n := n) rfl dL_law_751 dL_law_752 dL_law_753 dL_law_754 dL_law_755 rfl rfl (by omega) hL ?_
  refine y_arg G (j := 3) (n := n) rfl dL_law_756 dL_law_757 dL_law_758 dL_law_759 dL_law_760 rfl rfl (by omega) hL ?_
  refine y_callV G m_X8_sheet l_L_105 h8 (ci := 7) rfl g1 rfl rfl (Nat.le_of_ble_eq_true rfl) ⟨by omega, by omega⟩ dL_law_761 (fun r2 σ2 q2 => ?_)
  obtain ⟨rfl, hI2⟩ := q2
  refine y_stk (st' := [.int z, .int z]) rfl ?_
  refine y_icmp_same G (tgt := 961) dL_law_764 (by decide) ?_
  exact y_wide (by omega) (by omega) (K σ2 hI2)
set_option maxHeartbeats 4000000 in
theorem law_cell {c : ZX} {p : Program} {l : Launch} {e : Env} {s : State} {m : MethodId} {below : List Frame} {meth : Method} {cd : Code} {b L : Nat} {xs : Nat → Int32} {kc ks n : Nat} {σ : ZS} (G : LG c p s m meth cd b L xs) (hL : L ≤ 3072) (hn : n + 6 ≤ L) (hI : INV σ) (hkc : kc + 3 ≤ 600000) (hks : ks + 364 ≤ 7302250) (K : ∀ σ', INV σ' → LX c p l e s m below meth cd b (kc + 3) (ks + 364) 961 [some (.ref 3026), some (.ref 0), some (.ref 1000), some (.int (nI n))] [] σ') : LX c p l e s m below meth cd b kc ks 769 [some (.ref 3026), some (.ref 0), some (.ref 1000), some (.int (nI n))] [] σ := by
  obtain ⟨z, hz⟩ := s_cell hI (xs (n + 1)) (xs (n + 2)) (xs (n + 3))
  obtain ⟨fs, g0⟩ := hI.o0
  refine y_aload_n (i := 1) (x := 0) G dL_law_769 rfl ?_
  refine y_arg G (j := 1) (n := n) rfl dL_law_770 dL_law_771 dL_law_772 dL_law_773 dL_law_774 rfl rfl (by omega) hL ?_
  refine y_arg G (j := 2) (n := n) rfl dL_law_775 dL_law_776 dL_law_777 dL_law_778 dL_law_779 rfl rfl (by omega) hL ?_
  refine y_arg G (j := 3) (n := n) rfl dL_law_780 dL_law_781 dL_law_782 dL_law_783 dL_law_784 rfl rfl (by omega) hL ?_
  refine y_callV G m_X7_cell l_L_106 hz (ci := 6) rfl g0 rfl rfl (Nat.le_of_ble_eq_true rfl) ⟨by omega, by omega⟩ dL_law_785 (fun r1 σ1 q1 => ?_)
  obtain ⟨rfl, ⟨fs1, g1⟩, h8⟩ := q1
  refine y_stk (st' := [.int z]) rfl ?_
  refine y_aload_n (i := 2) (x := 1000) G dL_law_788 rfl ?_
  refine y_arg G (j := 1) (n := n) rfl dL_law_789 dL_law_790 dL_law_791 dL_law_792 dL_law_793 rfl rfl (by omega) hL ?_
  refine y_arg G (j := 2) (n := n) rfl dL_law_794 dL_law_795 dL_law_796 dL_law_797 dL_law_798 rfl rfl (by omega) hL ?_
  refine y_arg G (j := 3) (n := n) rfl dL_law_799 dL_law_800 dL_law_801 dL_law_802 dL_law_803 rfl rfl (by omega) hL ?_
  refine y_callV G m_X8_cell l_L_109 h8 (ci := 7) rfl g1 rfl rfl (Nat.le_of_ble_eq_true rfl) ⟨by omega, by omega⟩ dL_law_804 (fun r2 σ2 q2 => ?_)
  obtain ⟨rfl, hI2⟩ := q2
  refine y_stk (st' := [.int z, .int z]) rfl ?_
  refine y_icmp_same G (tgt := 961) dL_law_807 (by decide) ?_
  exact y_wide (by omega) (by omega) (K σ2 hI2)
set_option maxHeartbeats 4000000 in
theorem law_copy {c : ZX} {p : Program} {l : Launch} {e : Env} {s : State} {m : MethodId} {below : List Frame} {meth : Method} {cd : Code} {b L : Nat} {xs : Nat → Int32} {kc ks n : Nat} {σ : ZS} (G : LG c p s m meth cd b L xs) (hL : L ≤ 3072) (hn : n + 6 ≤ L) (hI : INV σ) (hkc : kc + 3 ≤ 600000) (hks : ks + 364 ≤ 7302250) (K : ∀ σ', INV σ' → LX c p l e s m below meth cd b (kc + 3) (ks + 364) 961 [some (.ref 3026), some (.ref 0), some (.ref 1000), some (.int (nI n))] [] σ') : LX c p l e s m below meth cd b kc ks 812 [some (.ref 3026), some (.ref 0), some (.ref 1000), some (.int (nI n))] [] σ := by
  obtain ⟨z, hz⟩ := s_copy hI (xs (n + 1)) (xs (n + 2)) (xs (n + 3)) (xs (n + 4)) (xs (n + 5))
  obtain ⟨fs, g0⟩ := hI.o0
  refine y_aload_n (i := 1) (x := 0) G dL_law_812 rfl ?_
  refine y_arg G (j := 1) (n := n) rfl dL_law_813 dL_law_814 dL_law_815 dL_law_816 dL_law_817 rfl rfl (by omega) hL ?_
  refine y_arg G (j := 2) (n := n) rfl dL_law_818 dL_law_819 dL_law_820 dL_law_821 dL_law_822 rfl rfl (by omega) hL ?_
  refine y_arg G (j := 3) (n := n) rfl dL_law_823 dL_law_824 dL_law_825 dL_law_826 dL_law_827 rfl rfl (by omega) hL ?_
  refine y_arg G (j := 4) (n := n) rfl dL_law_828 dL_law_829 dL_law_830 dL_law_831 dL_law_832 rfl rfl (by omega) hL ?_
  refine y_arg G (j := 5) (n := n) rfl dL_law_833 dL_law_834 dL_law_835 dL_law_836 dL_law_837 rfl rfl (by omega) hL ?_
  refine y_callV G m_X7_copy l_L_110 hz (ci := 6) rfl g0 rfl rfl (Nat.le_of_ble_eq_true rfl) ⟨by omega, by omega⟩ dL_law_838 (fun r1 σ1 q1 => ?_)
  obtain ⟨rfl, ⟨fs1, g1⟩, h8⟩ := q1
  refine y_stk (st' := [.int z]) rfl ?_
  refine y_aload_n (i := 2) (x := 1000) G dL_law_841 rfl ?_
  refine y_arg G (j := 1) (n := n) rfl dL_law_842 dL_law_843 dL_law_844 dL_law_845 dL_law_846 rfl rfl (by omega) hL ?_
  refine y_arg G (j := 2) (n := n) rfl dL_law_847 dL_law_848 dL_law_849 dL_law_850 dL_law_851 rfl rfl (by omega) hL ?_
  refine y_arg G (j := 3) (n := n) rfl dL_law_852 dL_law_853 dL_law_854 dL_law_855 dL_law_856 rfl rfl (by omega) hL ?_
  refine y_arg G (j := 4) (n := n) rfl dL_law_857 dL_law_858 dL_law_859 dL_law_860 dL_law_861 rfl rfl (by omega) hL ?_
  refine y_arg G (j := 5) (n := n) rfl dL_law_862 dL_law_863 dL_law_864 dL_law_865 dL_law_866 rfl rfl (by omega) hL ?_
  refine y_callV G m_X8_copy l_L_114 h8 (ci := 7) rfl g1 rfl rfl (Nat.le_of_ble_eq_true rfl) ⟨by omega, by omega⟩ dL_law_867 (fun r2 σ2 q2 => ?_)
  obtain ⟨rfl, hI2⟩ := q2
  refine y_stk (st' := [.int z, .int z]) rfl ?_
  refine y_icmp_same G (tgt := 961) dL_law_870 (by decide) ?_
  exact y_wide (by omega) (by omega) (K σ2 hI2)
set_option maxHeartbeats 4000000 in
theorem law_guests {c : ZX} {p : Program} {l : Launch} {e : Env} {s : State} {m : MethodId} {below : List Frame} {meth : Method} {cd : Code} {b L : Nat} {xs : Nat → Int32} {kc ks n : Nat} {σ : ZS} (G : LG c p s m meth cd b L xs) (hL : L ≤ 3072) (hn : n + 6 ≤ L) (hI : INV σ) (hkc : kc + 3 ≤ 600000) (hks : ks + 364 ≤ 7302250) (K : ∀ σ', INV σ' → LX c p l e s m below meth cd b (kc + 3) (ks + 364) 961 [some (.ref 3026), some (.ref 0), some (.ref 1000), some (.int (nI n))] [] σ') : LX c p l e s m below meth cd b kc ks 875 [some (.ref 3026), some (.ref 0), some (.ref 1000), some (.int (nI n))] [] σ := by
  obtain ⟨z, hz⟩ := s_guests hI (xs (n + 1)) (xs (n + 2)) (xs (n + 3)) (xs (n + 4))
  obtain ⟨fs, g0⟩ := hI.o0
  refine y_aload_n (i := 1) (x := 0) G dL_law_875 rfl ?_
  refine y_arg G (j := 1) (n := n) rfl dL_law_876 dL_law_877 dL_law_878 dL_law_879 dL_law_880 rfl rfl (by omega) hL ?_
  refine y_arg G (j := 2) (n := n) rfl dL_law_881 dL_law_882 dL_law_883 dL_law_884 dL_law_885 rfl rfl (by omega) hL ?_
  refine y_arg G (j := 3) (n := n) rfl dL_law_886 dL_law_887 dL_law_888 dL_law_889 dL_law_890 rfl rfl (by omega) hL ?_
  refine y_arg G (j := 4) (n := n) rfl dL_law_891 dL_law_892 dL_law_893 dL_law_894 dL_law_895 rfl rfl (by omega) hL ?_
  refine y_callV G m_X7_guests l_L_115 hz (ci := 6) rfl g0 rfl rfl (Nat.le_of_ble_eq_true rfl) ⟨by omega, by omega⟩ dL_law_896 (fun r1 σ1 q1 => ?_)
  obtain ⟨rfl, ⟨fs1, g1⟩, h8⟩ := q1
  refine y_stk (st' := [.int z]) rfl ?_
  refine y_aload_n (i := 2) (x := 1000) G dL_law_899 rfl ?_
  refine y_arg G (j := 1) (n := n) rfl dL_law_900 dL_law_901 dL_law_902 dL_law_903 dL_law_904 rfl rfl (by omega) hL ?_
  refine y_arg G (j := 2) (n := n) rfl dL_law_905 dL_law_906 dL_law_907 dL_law_908 dL_law_909 rfl rfl (by omega) hL ?_
  refine y_arg G (j := 3) (n := n) rfl dL_law_910 dL_law_911 dL_law_912 dL_law_913 dL_law_914 rfl rfl (by omega) hL ?_
  refine y_arg G (j := 4) (n := n) rfl dL_law_915 dL_law_916 dL_law_917 dL_law_918 dL_law_919 rfl rfl (by omega) hL ?_
  refine y_callV G m_X8_guests l_L_119 h8 (ci := 7) rfl g1 rfl rfl (Nat.le_of_ble_eq_true rfl) ⟨by omega, by omega⟩ dL_law_920 (fun r2 σ2 q2 => ?_)
  obtain ⟨rfl, hI2⟩ := q2
  refine y_stk (st' := [.int z, .int z]) rfl ?_
  refine y_icmp_same G (tgt := 961) dL_law_923 (by decide) ?_
  exact y_wide (by omega) (by omega) (K σ2 hI2)
set_option maxHeartbeats 4000000 in
theorem law_taken {c : ZX} {p : Program} {l : Launch} {e : Env} {s : State} {m : MethodId} {below : List Frame} {meth : Method} {cd : Code} {b L : Nat} {xs : Nat → Int32} {kc ks n : Nat} {σ : ZS} (G : LG c p s m meth cd b L xs) (hL : L ≤ 3072) (hn : n + 6 ≤ L) (hI : INV σ) (hkc : kc + 3 ≤ 600000) (hks : ks + 364 ≤ 7302250) (K : ∀ σ', INV σ' → LX c p l e s m below meth cd b (kc + 3) (ks + 364) 961 [some (.ref 3026), some (.ref 0), some (.ref 1000), some (.int (nI n))] [] σ') : LX c p l e s m below meth cd b kc ks 928 [some (.ref 3026), some (.ref 0), some (.ref 1000), some (.int (nI n))] [] σ := by
  obtain ⟨z, hz⟩ := s_taken hI (xs (n + 1)) (xs (n + 2))
  obtain ⟨fs, g0⟩ := hI.o0
  refine y_aload_n (i := 1) (x := 0) G dL_law_928 rfl ?_
  refine y_arg G (j := 1) (n := n) rfl dL_law_929 dL_law_930 dL_law_931 dL_law_932 dL_law_933 rfl rfl (by omega) hL ?_
  refine y_arg G (j := 2) (n := n) rfl dL_law_934 dL_law_935 dL_law_936 dL_law_937 dL_law_938 rfl rfl (by omega) hL ?_
  refine y_callV G m_X7_taken l_L_120 hz (ci := 6) rfl g0 rfl rfl (Nat.le_of_ble_eq_true rfl) ⟨by omega, by omega⟩ dL_law_939 (fun r1 σ1 q1 => ?_)
  obtain ⟨rfl, ⟨fs1, g1⟩, h8⟩ := q1
  refine y_stk (st' := [.int z]) rfl ?_
  refine y_aload_n (i := 2) (x := 1000) G dL_law_942 rfl ?_
  refine y_arg G (j := 1) (n := n) rfl dL_law_943 dL_law_944 dL_law_945 dL_law_946 dL_law_947 rfl rfl (by omega) hL ?_
  refine y_arg G (j := 2) (n := n) rfl dL_law_948 dL_law_949 dL_law_950 dL_law_951 dL_law_952 rfl rfl (by omega) hL ?_
  refine y_callV G m_X8_taken l_L_123 h8 (ci := 7) rfl g1 rfl rfl (Nat.le_of_ble_eq_true rfl) ⟨by omega, by omega⟩ dL_law_953 (fun r2 σ2 q2 => ?_)
  obtain ⟨rfl, hI2⟩ := q2
  refine y_stk (st' := [.int z, .int z]) rfl ?_
  refine y_icmp_same G (tgt := 961) dL_law_956 (by decide) ?_
  exact y_wide (by omega) (by omega) (K σ2 hI2)
theorem and31 (x : Int32) : ∃ j : Nat, j < 32 ∧ x &&& nI 31 = nI j := pk_andE x 5 (by decide)
theorem nI_sub6 {L : Nat} (hL : L ≤ 3072) : (nI L - nI 6).toInt = (L : Int) - 6 := by
  rw [Int32.toInt_sub, nI_toInt (by omega), nI_toInt (by omega)]
  exact bm32 (by omega) (by omega)
set_option maxHeartbeats 4000000 in
theorem law_loop {c : ZX} {p : Program} {l : Launch} {e : Env} {s : State} {m : MethodId} {below : List Frame} {meth : Method} {cd : Code} {b L : Nat} {xs : Nat → Int32} (G : LG c p s m meth cd b L xs) (hL : L ≤ 3072) : ∀ (q k : Nat) (σ : ZS), k + q = 513 → 6 * k ≤ L → INV σ → LX c p l e s m below meth cd b (58 + 3 * k) (3061 + 364 * k) 18 [some (.ref 3026), some (.ref 0), some (.ref 1000), some (.int (nI (6 * k)))] [] σ := by
  intro q
  induction q with
  | zero =>
    intro k σ h1 h2
    omega
  | succ q ih =>
    intro k σ h1 h2 hI
    refine y_iload_n (i := 3) (x := nI (6 * k)) G dL_law_18 rfl ?_
    refine y_aload_n (i := 0) (x := 3026) G dL_law_19 rfl ?_
    refine y_slen G dL_law_20 ?_
    refine y_bipush (v := nI 6) G dL_law_21 (by decide) ?_
    refine y_isub G dL_law_23 ?_
    refine y_icmp_gt (tgt := 967) (q := ((6 * k : Nat) : Int)) (r := (L : Int) - 6) G (nI_toInt (by omega)) (nI_sub6 hL) dL_law_24 (by decide) (fun hv => ?_) (fun hv => ?_)
    · refine y_iconst (v := 1) G dL_law_967 (by decide) ?_
      exact y_ret G ⟨by omega, by omega⟩ dL_law_968
    · have h6 : 6 * k + 6 ≤ L := by omega
      have K : ∀ σ', INV σ' → LX c p l e s m below meth cd b (58 + 3 * k + 3) (3061 + 364 * k + 364) 961 [some (.ref 3026), some (.ref 0), some (.ref 1000), some (.int (nI (6 * k)))] [] σ' := by
        intro σ' hI'
        refine y_iinc (x := nI (6 * k)) (v := nI (6 * (k + 1))) G dL_law_961 rfl (by rw [show Int32.ofInt 6 = nI 6 from by decide, nI_add, show 6 * (k + 1) = 6 * k + 6 by omega]) (by decide) rfl ?_
        refine y_lv (lv' := [some (.ref 3026), some (.ref 0), some (.ref 1000), some (.int (nI (6 * (k + 1))))]) rfl ?_
        refine y_goto (tgt := 18) G dL_law_964 (by decide) ?_
        exact y_wide (kc' := 58 + 3 * (k + 1)) (ks' := 3061 + 364 * (k + 1)) (by omega) (by omega) (ih (k + 1) σ' (by omega) (by omega) hI')
      refine y_aload_n (i := 0) (x := 3026) G dL_law_27 rfl ?_
      refine y_iload_n (i := 3) (x := nI (6 * k)) G dL_law_28 rfl ?_
      refine y_sld (n := 6 * k) G (by omega) hL dL_law_29 ?_
      refine y_bipush (v := nI 31) G dL_law_30 (by decide) ?_
      refine y_iand G dL_law_32 ?_
      obtain ⟨j, hj, ej⟩ := and31 (xs (6 * k))
      rw [ej]
      rcases (show j = 0 ∨ j = 1 ∨ j = 2 ∨ j = 3 ∨ j = 4 ∨ j = 5 ∨ j = 6 ∨ j = 7 ∨ j = 8 ∨ j = 9 ∨ j = 10 ∨ j = 11 ∨ j = 12 ∨ j = 13 ∨ j = 14 ∨ j = 15 ∨ j = 16 ∨ j = 17 ∨ j = 18 ∨ j = 19 ∨ j = 20 ∨ j = 21 ∨ j = 22 ∨ j = 23 ∨ j = 24 ∨ j = 25 ∨ 26 ≤ j by omega) with rfl | rfl | rfl | rfl | rfl | rfl | rfl | rfl | rfl | rfl | rfl | rfl | rfl | rfl | rfl | rfl | rfl | rfl | rfl | rfl | rfl | rfl | rfl | rfl | rfl | rfl | hj2
      · refine y_tableIn (tgt := 152) G dL_law_33 (by decide) (by decide) rfl (by decide) ?_
        exact law_set G hL h6 hI (by omega) (by omega) K
      · refine y_tableIn (tgt := 195) G dL_law_33 (by decide) (by decide) rfl (by decide) ?_
        exact law_guest G hL h6 hI (by omega) (by omega) K
      · refine y_tableIn (tgt := 228) G dL_law_33 (by decide) (by decide) rfl (by decide) ?_
        exact law_owe G hL h6 hI (by omega) (by omega) K
      · refine y_tableIn (tgt := 271) G dL_law_33 (by decide) (by decide) rfl (by decide) ?_
        exact law_told G hL h6 hI (by omega) (by omega) K
      · refine y_tableIn (tgt := 304) G dL_law_33 (by decide) (by decide) rfl (by decide) ?_
        exact law_feed G hL h6 hI (by omega) (by omega) K
      · refine y_tableIn (tgt := 327) G dL_law_33 (by decide) (by decide) rfl (by decide) ?_
        exact law_text G hL h6 hI (by omega) (by omega) K
      · refine y_tableIn (tgt := 340) G dL_law_33 (by decide) (by decide) rfl (by decide) ?_
        exact law_force G hL h6 hI (by omega) (by omega) K
      · refine y_tableIn (tgt := 363) G dL_law_33 (by decide) (by decide) rfl (by decide) ?_
        exact law_table G hL h6 hI (by omega) (by omega) K
      · refine y_tableIn (tgt := 396) G dL_law_33 (by decide) (by decide) rfl (by decide) ?_
        exact law_dine G hL h6 hI (by omega) (by omega) K
      · refine y_tableIn (tgt := 419) G dL_law_33 (by decide) (by decide) rfl (by decide) ?_
        exact law_tables G hL h6 hI (by omega) (by omega) K
      · refine y_tableIn (tgt := 442) G dL_law_33 (by decide) (by decide) rfl (by decide) ?_
        exact law_bars G hL h6 hI (by omega) (by omega) K
      · refine y_tableIn (tgt := 455) G dL_law_33 (by decide) (by decide) rfl (by decide) ?_
        exact law_borrow G hL h6 hI (by omega) (by omega) K
      · refine y_tableIn (tgt := 488) G dL_law_33 (by decide) (by decide) rfl (by decide) ?_
        exact law_company G hL h6 hI (by omega) (by omega) K
      · refine y_tableIn (tgt := 511) G dL_law_33 (by decide) (by decide) rfl (by decide) ?_
        exact law_run G hL h6 hI (by omega) (by omega) K
      · refine y_tableIn (tgt := 544) G dL_law_33 (by decide) (by decide) rfl (by decide) ?_
        exact law_tells G hL h6 hI (by omega) (by omega) K
      · refine y_tableIn (tgt := 587) G dL_law_33 (by decide) (by decide) rfl (by decide) ?_
        exact law_film G hL h6 hI (by omega) (by omega) K
      · refine y_tableIn (tgt := 610) G dL_law_33 (by decide) (by decide) rfl (by decide) ?_
        exact law_drawn G hL h6 hI (by omega) (by omega) K
      · refine y_tableIn (tgt := 633) G dL_law_33 (by decide) (by decide) rfl (by decide) ?_
        exact law_chance G hL h6 hI (by omega) (by omega) K
      · refine y_tableIn (tgt := 677) G dL_law_33 (by decide) (by decide) rfl (by decide) ?_
        exact law_image G hL h6 hI (by omega) (by omega) K
      · refine y_tableIn (tgt := 690) G dL_law_33 (by decide) (by decide) rfl (by decide) ?_
        exact law_back G hL h6 hI (by omega) (by omega) K
      · refine y_tableIn (tgt := 703) G dL_law_33 (by decide) (by decide) rfl (by decide) ?_
        exact law_count G hL h6 hI (by omega) (by omega) K
      · refine y_tableIn (tgt := 726) G dL_law_33 (by decide) (by decide) rfl (by decide) ?_
        exact law_sheet G hL h6 hI (by omega) (by omega) K
      · refine y_tableIn (tgt := 769) G dL_law_33 (by decide) (by decide) rfl (by decide) ?_
        exact law_cell G hL h6 hI (by omega) (by omega) K
      · refine y_tableIn (tgt := 812) G dL_law_33 (by decide) (by decide) rfl (by decide) ?_
        exact law_copy G hL h6 hI (by omega) (by omega) K
      · refine y_tableIn (tgt := 875) G dL_law_33 (by decide) (by decide) rfl (by decide) ?_
        exact law_guests G hL h6 hI (by omega) (by omega) K
      · refine y_tableIn (tgt := 928) G dL_law_33 (by decide) (by decide) rfl (by decide) ?_
        exact law_taken G hL h6 hI (by omega) (by omega) K
      · refine y_tableOut (tgt := 961) G dL_law_33 (Or.inr (by rw [nI_toInt (by omega)]; omega)) (by decide) ?_
        exact y_wide (by omega) (by omega) (K σ hI)
