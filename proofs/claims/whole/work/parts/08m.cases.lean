section LC
variable {K : Kx} {G : Gx} {b n : Nat} {xs : Nat → Int32} {Q : State → Prop} {cn sn : Nat} {σ : Sg} {i : Nat} {Nx : Sg → Prop}
set_option maxHeartbeats 4000000 in
theorem law_c_corner (C : CL K G b n xs) (hn : n ≤ 320) (hcn : cn ≤ 600000) (hsn : sn ≤ 7302250) (hi : i + 5 ≤ n) (P : PrGI Nx (kL K) G yX5_corner wsX5_corner 3 yX6_corner wsX6_corner 2 [.int (xs (i + 1)), .int (xs (i + 2))] σ) (k : ∀ σ2, Nx σ2 → WL K G Q cn sn σ2 (LL G b i) 816 []) : WL K G Q cn sn σ (LL G b i) 132 [] := by
  obtain ⟨post1, h1, P⟩ := P
  refine wl_aload_n C dL_law_132 rfl 2 rfl ?_
  refine wl_arg (j := 1) C hn (by omega) dL_law_133 dL_law_134 dL_law_135 (by decide) dL_law_136 dL_law_137 ?_
  refine wl_arg (j := 2) C hn (by omega) dL_law_138 dL_law_139 dL_law_140 (by decide) dL_law_141 dL_law_142 ?_
  refine wl_calli (na := 2) (kd := 0) (ci := 5) (As := [.int (xs (i + 1)), .int (xs (i + 2))]) (rest := []) C h1 gL_law_X5_corner rfl (by decide +kernel) ⟨by decide, by decide⟩ hcn hsn rfl (by decide) rfl rfl rfl (Nat.le_of_ble_eq_true rfl) dL_law_143 (fun r1 σ1 q1 => ?_)
  obtain ⟨post2, h2, P⟩ := P r1 σ1 q1
  refine wl_aload_n C dL_law_146 rfl 1 rfl ?_
  refine wl_arg (j := 1) C hn (by omega) dL_law_147 dL_law_148 dL_law_149 (by decide) dL_law_150 dL_law_151 ?_
  refine wl_arg (j := 2) C hn (by omega) dL_law_152 dL_law_153 dL_law_154 (by decide) dL_law_155 dL_law_156 ?_
  refine wl_calli (na := 2) (kd := 30) (ci := 6) (As := [.int (xs (i + 1)), .int (xs (i + 2))]) (rest := [.int r1]) C h2 gL_law_X6_corner rfl (by decide +kernel) ⟨by decide, by decide⟩ hcn hsn rfl (by decide) rfl rfl rfl (Nat.le_of_ble_eq_true rfl) dL_law_157 (fun r2 σ2 q2 => ?_)
  obtain ⟨e, nx⟩ := P r2 σ2 q2
  exact wl_icmp_eq 816 C dL_law_160 (by decide) (fun _ => k σ2 nx) (fun z => absurd e z)
set_option maxHeartbeats 4000000 in
theorem law_c_polygon (C : CL K G b n xs) (hn : n ≤ 320) (hcn : cn ≤ 600000) (hsn : sn ≤ 7302250) (hi : i + 5 ≤ n) (P : PrGI Nx (kL K) G yX5_polygon wsX5_polygon 7 yX6_polygon wsX6_polygon 5 [] σ) (k : ∀ σ2, Nx σ2 → WL K G Q cn sn σ2 (LL G b i) 816 []) : WL K G Q cn sn σ (LL G b i) 165 [] := by
  obtain ⟨post1, h1, P⟩ := P
  refine wl_aload_n C dL_law_165 rfl 2 rfl ?_
  refine wl_calli (na := 0) (kd := 0) (ci := 5) (As := []) (rest := []) C h1 gL_law_X5_polygon rfl (by decide +kernel) ⟨by decide, by decide⟩ hcn hsn rfl (by decide) rfl rfl rfl (Nat.le_of_ble_eq_true rfl) dL_law_166 (fun r1 σ1 q1 => ?_)
  obtain ⟨post2, h2, P⟩ := P r1 σ1 q1
  refine wl_aload_n C dL_law_169 rfl 1 rfl ?_
  refine wl_calli (na := 0) (kd := 30) (ci := 6) (As := []) (rest := [.int r1]) C h2 gL_law_X6_polygon rfl (by decide +kernel) ⟨by decide, by decide⟩ hcn hsn rfl (by decide) rfl rfl rfl (Nat.le_of_ble_eq_true rfl) dL_law_170 (fun r2 σ2 q2 => ?_)
  obtain ⟨e, nx⟩ := P r2 σ2 q2
  exact wl_icmp_eq 816 C dL_law_173 (by decide) (fun _ => k σ2 nx) (fun z => absurd e z)
set_option maxHeartbeats 4000000 in
theorem law_c_fault (C : CL K G b n xs) (hn : n ≤ 320) (hcn : cn ≤ 600000) (hsn : sn ≤ 7302250) (hi : i + 5 ≤ n) (P : PrGI Nx (kL K) G yX5_fault wsX5_fault 1 yX6_fault wsX6_fault 2 [.int (xs (i + 1))] σ) (k : ∀ σ2, Nx σ2 → WL K G Q cn sn σ2 (LL G b i) 816 []) : WL K G Q cn sn σ (LL G b i) 178 [] := by
  obtain ⟨post1, h1, P⟩ := P
  refine wl_aload_n C dL_law_178 rfl 2 rfl ?_
  refine wl_arg (j := 1) C hn (by omega) dL_law_179 dL_law_180 dL_law_181 (by decide) dL_law_182 dL_law_183 ?_
  refine wl_calli (na := 1) (kd := 0) (ci := 5) (As := [.int (xs (i + 1))]) (rest := []) C h1 gL_law_X5_fault rfl (by decide +kernel) ⟨by decide, by decide⟩ hcn hsn rfl (by decide) rfl rfl rfl (Nat.le_of_ble_eq_true rfl) dL_law_184 (fun r1 σ1 q1 => ?_)
  obtain ⟨post2, h2, P⟩ := P r1 σ1 q1
  refine wl_aload_n C dL_law_187 rfl 1 rfl ?_
  refine wl_arg (j := 1) C hn (by omega) dL_law_188 dL_law_189 dL_law_190 (by decide) dL_law_191 dL_law_192 ?_
  refine wl_calli (na := 1) (kd := 30) (ci := 6) (As := [.int (xs (i + 1))]) (rest := [.int r1]) C h2 gL_law_X6_fault rfl (by decide +kernel) ⟨by decide, by decide⟩ hcn hsn rfl (by decide) rfl rfl rfl (Nat.le_of_ble_eq_true rfl) dL_law_193 (fun r2 σ2 q2 => ?_)
  obtain ⟨e, nx⟩ := P r2 σ2 q2
  exact wl_icmp_eq 816 C dL_law_196 (by decide) (fun _ => k σ2 nx) (fun z => absurd e z)
set_option maxHeartbeats 4000000 in
theorem law_c_drop (C : CL K G b n xs) (hn : n ≤ 320) (hcn : cn ≤ 600000) (hsn : sn ≤ 7302250) (hi : i + 5 ≤ n) (P : PrGI Nx (kL K) G yX5_drop wsX5_drop 1 yX6_drop wsX6_drop 1 [] σ) (k : ∀ σ2, Nx σ2 → WL K G Q cn sn σ2 (LL G b i) 816 []) : WL K G Q cn sn σ (LL G b i) 201 [] := by
  obtain ⟨post1, h1, P⟩ := P
  refine wl_aload_n C dL_law_201 rfl 2 rfl ?_
  refine wl_calli (na := 0) (kd := 0) (ci := 5) (As := []) (rest := []) C h1 gL_law_X5_drop rfl (by decide +kernel) ⟨by decide, by decide⟩ hcn hsn rfl (by decide) rfl rfl rfl (Nat.le_of_ble_eq_true rfl) dL_law_202 (fun r1 σ1 q1 => ?_)
  obtain ⟨post2, h2, P⟩ := P r1 σ1 q1
  refine wl_aload_n C dL_law_205 rfl 1 rfl ?_
  refine wl_calli (na := 0) (kd := 30) (ci := 6) (As := []) (rest := [.int r1]) C h2 gL_law_X6_drop rfl (by decide +kernel) ⟨by decide, by decide⟩ hcn hsn rfl (by decide) rfl rfl rfl (Nat.le_of_ble_eq_true rfl) dL_law_206 (fun r2 σ2 q2 => ?_)
  obtain ⟨e, nx⟩ := P r2 σ2 q2
  exact wl_icmp_eq 816 C dL_law_209 (by decide) (fun _ => k σ2 nx) (fun z => absurd e z)
set_option maxHeartbeats 4000000 in
theorem law_c_count (C : CL K G b n xs) (hn : n ≤ 320) (hcn : cn ≤ 600000) (hsn : sn ≤ 7302250) (hi : i + 5 ≤ n) (P : PrGI Nx (kL K) G yX5_count wsX5_count 2 yX6_count wsX6_count 3 [.int (xs (i + 1))] σ) (k : ∀ σ2, Nx σ2 → WL K G Q cn sn σ2 (LL G b i) 816 []) : WL K G Q cn sn σ (LL G b i) 214 [] := by
  obtain ⟨post1, h1, P⟩ := P
  refine wl_aload_n C dL_law_214 rfl 2 rfl ?_
  refine wl_arg (j := 1) C hn (by omega) dL_law_215 dL_law_216 dL_law_217 (by decide) dL_law_218 dL_law_219 ?_
  refine wl_calli (na := 1) (kd := 0) (ci := 5) (As := [.int (xs (i + 1))]) (rest := []) C h1 gL_law_X5_count rfl (by decide +kernel) ⟨by decide, by decide⟩ hcn hsn rfl (by decide) rfl rfl rfl (Nat.le_of_ble_eq_true rfl) dL_law_220 (fun r1 σ1 q1 => ?_)
  obtain ⟨post2, h2, P⟩ := P r1 σ1 q1
  refine wl_aload_n C dL_law_223 rfl 1 rfl ?_
  refine wl_arg (j := 1) C hn (by omega) dL_law_224 dL_law_225 dL_law_226 (by decide) dL_law_227 dL_law_228 ?_
  refine wl_calli (na := 1) (kd := 30) (ci := 6) (As := [.int (xs (i + 1))]) (rest := [.int r1]) C h2 gL_law_X6_count rfl (by decide +kernel) ⟨by decide, by decide⟩ hcn hsn rfl (by decide) rfl rfl rfl (Nat.le_of_ble_eq_true rfl) dL_law_229 (fun r2 σ2 q2 => ?_)
  obtain ⟨e, nx⟩ := P r2 σ2 q2
  exact wl_icmp_eq 816 C dL_law_232 (by decide) (fun _ => k σ2 nx) (fun z => absurd e z)
set_option maxHeartbeats 4000000 in
theorem law_c_at (C : CL K G b n xs) (hn : n ≤ 320) (hcn : cn ≤ 600000) (hsn : sn ≤ 7302250) (hi : i + 5 ≤ n) (P : PrGI Nx (kL K) G yX5_at wsX5_at 2 yX6_at wsX6_at 4 [.int (xs (i + 1)), .int (xs (i + 2)), .int (xs (i + 3))] σ) (k : ∀ σ2, Nx σ2 → WL K G Q cn sn σ2 (LL G b i) 816 []) : WL K G Q cn sn σ (LL G b i) 237 [] := by
  obtain ⟨post1, h1, P⟩ := P
  refine wl_aload_n C dL_law_237 rfl 2 rfl ?_
  refine wl_arg (j := 1) C hn (by omega) dL_law_238 dL_law_239 dL_law_240 (by decide) dL_law_241 dL_law_242 ?_
  refine wl_arg (j := 2) C hn (by omega) dL_law_243 dL_law_244 dL_law_245 (by decide) dL_law_246 dL_law_247 ?_
  refine wl_arg (j := 3) C hn (by omega) dL_law_248 dL_law_249 dL_law_250 (by decide) dL_law_251 dL_law_252 ?_
  refine wl_calli (na := 3) (kd := 0) (ci := 5) (As := [.int (xs (i + 1)), .int (xs (i + 2)), .int (xs (i + 3))]) (rest := []) C h1 gL_law_X5_at rfl (by decide +kernel) ⟨by decide, by decide⟩ hcn hsn rfl (by decide) rfl rfl rfl (Nat.le_of_ble_eq_true rfl) dL_law_253 (fun r1 σ1 q1 => ?_)
  obtain ⟨post2, h2, P⟩ := P r1 σ1 q1
  refine wl_aload_n C dL_law_256 rfl 1 rfl ?_
  refine wl_arg (j := 1) C hn (by omega) dL_law_257 dL_law_258 dL_law_259 (by decide) dL_law_260 dL_law_261 ?_
  refine wl_arg (j := 2) C hn (by omega) dL_law_262 dL_law_263 dL_law_264 (by decide) dL_law_265 dL_law_266 ?_
  refine wl_arg (j := 3) C hn (by omega) dL_law_267 dL_law_268 dL_law_269 (by decide) dL_law_270 dL_law_271 ?_
  refine wl_calli (na := 3) (kd := 30) (ci := 6) (As := [.int (xs (i + 1)), .int (xs (i + 2)), .int (xs (i + 3))]) (rest := [.int r1]) C h2 gL_law_X6_at rfl (by decide +kernel) ⟨by decide, by decide⟩ hcn hsn rfl (by decide) rfl rfl rfl (Nat.le_of_ble_eq_true rfl) dL_law_272 (fun r2 σ2 q2 => ?_)
  obtain ⟨e, nx⟩ := P r2 σ2 q2
  exact wl_icmp_eq 816 C dL_law_275 (by decide) (fun _ => k σ2 nx) (fun z => absurd e z)
set_option maxHeartbeats 4000000 in
theorem law_c_area (C : CL K G b n xs) (hn : n ≤ 320) (hcn : cn ≤ 600000) (hsn : sn ≤ 7302250) (hi : i + 5 ≤ n) (P : PrGI Nx (kL K) G yX5_area wsX5_area 2 yX6_area wsX6_area 3 [.int (xs (i + 1))] σ) (k : ∀ σ2, Nx σ2 → WL K G Q cn sn σ2 (LL G b i) 816 []) : WL K G Q cn sn σ (LL G b i) 280 [] := by
  obtain ⟨post1, h1, P⟩ := P
  refine wl_aload_n C dL_law_280 rfl 2 rfl ?_
  refine wl_arg (j := 1) C hn (by omega) dL_law_281 dL_law_282 dL_law_283 (by decide) dL_law_284 dL_law_285 ?_
  refine wl_calli (na := 1) (kd := 0) (ci := 5) (As := [.int (xs (i + 1))]) (rest := []) C h1 gL_law_X5_area rfl (by decide +kernel) ⟨by decide, by decide⟩ hcn hsn rfl (by decide) rfl rfl rfl (Nat.le_of_ble_eq_true rfl) dL_law_286 (fun r1 σ1 q1 => ?_)
  obtain ⟨post2, h2, P⟩ := P r1 σ1 q1
  refine wl_aload_n C dL_law_289 rfl 1 rfl ?_
  refine wl_arg (j := 1) C hn (by omega) dL_law_290 dL_law_291 dL_law_292 (by decide) dL_law_293 dL_law_294 ?_
  refine wl_calli (na := 1) (kd := 30) (ci := 6) (As := [.int (xs (i + 1))]) (rest := [.int r1]) C h2 gL_law_X6_area rfl (by decide +kernel) ⟨by decide, by decide⟩ hcn hsn rfl (by decide) rfl rfl rfl (Nat.le_of_ble_eq_true rfl) dL_law_295 (fun r2 σ2 q2 => ?_)
  obtain ⟨e, nx⟩ := P r2 σ2 q2
  exact wl_icmp_eq 816 C dL_law_298 (by decide) (fun _ => k σ2 nx) (fun z => absurd e z)
set_option maxHeartbeats 4000000 in
theorem law_c_centroid (C : CL K G b n xs) (hn : n ≤ 320) (hcn : cn ≤ 600000) (hsn : sn ≤ 7302250) (hi : i + 5 ≤ n) (P : PrGL Nx (kL K) G yX5_centroid wsX5_centroid 4 yX6_centroid wsX6_centroid 3 [.int (xs (i + 1)), .int (xs (i + 2)), .int (xs (i + 3))] σ) (k : ∀ σ2, Nx σ2 → WL K G Q cn sn σ2 (LL G b i) 816 []) : WL K G Q cn sn σ (LL G b i) 303 [] := by
  obtain ⟨post1, h1, P⟩ := P
  refine wl_aload_n C dL_law_303 rfl 2 rfl ?_
  refine wl_arg (j := 1) C hn (by omega) dL_law_304 dL_law_305 dL_law_306 (by decide) dL_law_307 dL_law_308 ?_
  refine wl_arg (j := 2) C hn (by omega) dL_law_309 dL_law_310 dL_law_311 (by decide) dL_law_312 dL_law_313 ?_
  refine wl_arg (j := 3) C hn (by omega) dL_law_314 dL_law_315 dL_law_316 (by decide) dL_law_317 dL_law_318 ?_
  refine wl_calll (na := 3) (kd := 0) (ci := 5) (As := [.int (xs (i + 1)), .int (xs (i + 2)), .int (xs (i + 3))]) (rest := []) C h1 gL_law_X5_centroid rfl (by decide +kernel) ⟨by decide, by decide⟩ hcn hsn rfl (by decide) rfl rfl rfl (Nat.le_of_ble_eq_true rfl) dL_law_319 (fun r1 σ1 q1 => ?_)
  obtain ⟨post2, h2, P⟩ := P r1 σ1 q1
  refine wl_aload_n C dL_law_322 rfl 1 rfl ?_
  refine wl_arg (j := 1) C hn (by omega) dL_law_323 dL_law_324 dL_law_325 (by decide) dL_law_326 dL_law_327 ?_
  refine wl_arg (j := 2) C hn (by omega) dL_law_328 dL_law_329 dL_law_330 (by decide) dL_law_331 dL_law_332 ?_
  refine wl_arg (j := 3) C hn (by omega) dL_law_333 dL_law_334 dL_law_335 (by decide) dL_law_336 dL_law_337 ?_
  refine wl_calll (na := 3) (kd := 30) (ci := 6) (As := [.int (xs (i + 1)), .int (xs (i + 2)), .int (xs (i + 3))]) (rest := [.long r1]) C h2 gL_law_X6_centroid rfl (by decide +kernel) ⟨by decide, by decide⟩ hcn hsn rfl (by decide) rfl rfl rfl (Nat.le_of_ble_eq_true rfl) dL_law_338 (fun r2 σ2 q2 => ?_)
  obtain ⟨e, nx⟩ := P r2 σ2 q2
  subst e
  refine wl_lcmp C dL_law_341 ?_
  exact wl_if_eq 816 C dL_law_342 (by decide) (fun _ => k σ2 nx) (fun z => absurd (lgc_self r1) z)
set_option maxHeartbeats 4000000 in
theorem law_c_points (C : CL K G b n xs) (hn : n ≤ 320) (hcn : cn ≤ 600000) (hsn : sn ≤ 7302250) (hi : i + 5 ≤ n) (P : PrGI Nx (kL K) G yX5_points wsX5_points 4 yX6_points wsX6_points 3 [.int (xs (i + 1)), .int (xs (i + 2))] σ) (k : ∀ σ2, Nx σ2 → WL K G Q cn sn σ2 (LL G b i) 816 []) : WL K G Q cn sn σ (LL G b i) 347 [] := by
  obtain ⟨post1, h1, P⟩ := P
  refine wl_aload_n C dL_law_347 rfl 2 rfl ?_
  refine wl_arg (j := 1) C hn (by omega) dL_law_348 dL_law_349 dL_law_350 (by decide) dL_law_351 dL_law_352 ?_
  refine wl_arg (j := 2) C hn (by omega) dL_law_353 dL_law_354 dL_law_355 (by decide) dL_law_356 dL_law_357 ?_
  refine wl_calli (na := 2) (kd := 0) (ci := 5) (As := [.int (xs (i + 1)), .int (xs (i + 2))]) (rest := []) C h1 gL_law_X5_points rfl (by decide +kernel) ⟨by decide, by decide⟩ hcn hsn rfl (by decide) rfl rfl rfl (Nat.le_of_ble_eq_true rfl) dL_law_358 (fun r1 σ1 q1 => ?_)
  obtain ⟨post2, h2, P⟩ := P r1 σ1 q1
  refine wl_aload_n C dL_law_361 rfl 1 rfl ?_
  refine wl_arg (j := 1) C hn (by omega) dL_law_362 dL_law_363 dL_law_364 (by decide) dL_law_365 dL_law_366 ?_
  refine wl_arg (j := 2) C hn (by omega) dL_law_367 dL_law_368 dL_law_369 (by decide) dL_law_370 dL_law_371 ?_
  refine wl_calli (na := 2) (kd := 30) (ci := 6) (As := [.int (xs (i + 1)), .int (xs (i + 2))]) (rest := [.int r1]) C h2 gL_law_X6_points rfl (by decide +kernel) ⟨by decide, by decide⟩ hcn hsn rfl (by decide) rfl rfl rfl (Nat.le_of_ble_eq_true rfl) dL_law_372 (fun r2 σ2 q2 => ?_)
  obtain ⟨e, nx⟩ := P r2 σ2 q2
  exact wl_icmp_eq 816 C dL_law_375 (by decide) (fun _ => k σ2 nx) (fun z => absurd e z)
set_option maxHeartbeats 4000000 in
theorem law_c_in (C : CL K G b n xs) (hn : n ≤ 320) (hcn : cn ≤ 600000) (hsn : sn ≤ 7302250) (hi : i + 5 ≤ n) (P : PrGI Nx (kL K) G yX5_in wsX5_in 3 yX6_in wsX6_in 4 [.int (xs (i + 1)), .int (xs (i + 2)), .int (xs (i + 3))] σ) (k : ∀ σ2, Nx σ2 → WL K G Q cn sn σ2 (LL G b i) 816 []) : WL K G Q cn sn σ (LL G b i) 380 [] := by
  obtain ⟨post1, h1, P⟩ := P
  refine wl_aload_n C dL_law_380 rfl 2 rfl ?_
  refine wl_arg (j := 1) C hn (by omega) dL_law_381 dL_law_382 dL_law_383 (by decide) dL_law_384 dL_law_385 ?_
  refine wl_arg (j := 2) C hn (by omega) dL_law_386 dL_law_387 dL_law_388 (by decide) dL_law_389 dL_law_390 ?_
  refine wl_arg (j := 3) C hn (by omega) dL_law_391 dL_law_392 dL_law_393 (by decide) dL_law_394 dL_law_395 ?_
  refine wl_calli (na := 3) (kd := 0) (ci := 5) (As := [.int (xs (i + 1)), .int (xs (i + 2)), .int (xs (i + 3))]) (rest := []) C h1 gL_law_X5_in rfl (by decide +kernel) ⟨by decide, by decide⟩ hcn hsn rfl (by decide) rfl rfl rfl (Nat.le_of_ble_eq_true rfl) dL_law_396 (fun r1 σ1 q1 => ?_)
  obtain ⟨post2, h2, P⟩ := P r1 σ1 q1
  refine wl_aload_n C dL_law_399 rfl 1 rfl ?_
  refine wl_arg (j := 1) C hn (by omega) dL_law_400 dL_law_401 dL_law_402 (by decide) dL_law_403 dL_law_404 ?_
  refine wl_arg (j := 2) C hn (by omega) dL_law_405 dL_law_406 dL_law_407 (by decide) dL_law_408 dL_law_409 ?_
  refine wl_arg (j := 3) C hn (by omega) dL_law_410 dL_law_411 dL_law_412 (by decide) dL_law_413 dL_law_414 ?_
  refine wl_calli (na := 3) (kd := 30) (ci := 6) (As := [.int (xs (i + 1)), .int (xs (i + 2)), .int (xs (i + 3))]) (rest := [.int r1]) C h2 gL_law_X6_in rfl (by decide +kernel) ⟨by decide, by decide⟩ hcn hsn rfl (by decide) rfl rfl rfl (Nat.le_of_ble_eq_true rfl) dL_law_415 (fun r2 σ2 q2 => ?_)
  obtain ⟨e, nx⟩ := P r2 σ2 q2
  exact wl_icmp_eq 816 C dL_law_418 (by decide) (fun _ => k σ2 nx) (fun z => absurd e z)
set_option maxHeartbeats 4000000 in
theorem law_c_sees (C : CL K G b n xs) (hn : n ≤ 320) (hcn : cn ≤ 600000) (hsn : sn ≤ 7302250) (hi : i + 5 ≤ n) (P : PrGI Nx (kL K) G yX5_sees wsX5_sees 2 yX6_sees wsX6_sees 6 [.int (xs (i + 1)), .int (xs (i + 2)), .int (xs (i + 3))] σ) (k : ∀ σ2, Nx σ2 → WL K G Q cn sn σ2 (LL G b i) 816 []) : WL K G Q cn sn σ (LL G b i) 423 [] := by
  obtain ⟨post1, h1, P⟩ := P
  refine wl_aload_n C dL_law_423 rfl 2 rfl ?_
  refine wl_arg (j := 1) C hn (by omega) dL_law_424 dL_law_425 dL_law_426 (by decide) dL_law_427 dL_law_428 ?_
  refine wl_arg (j := 2) C hn (by omega) dL_law_429 dL_law_430 dL_law_431 (by decide) dL_law_432 dL_law_433 ?_
  refine wl_arg (j := 3) C hn (by omega) dL_law_434 dL_law_435 dL_law_436 (by decide) dL_law_437 dL_law_438 ?_
  refine wl_calli (na := 3) (kd := 0) (ci := 5) (As := [.int (xs (i + 1)), .int (xs (i + 2)), .int (xs (i + 3))]) (rest := []) C h1 gL_law_X5_sees rfl (by decide +kernel) ⟨by decide, by decide⟩ hcn hsn rfl (by decide) rfl rfl rfl (Nat.le_of_ble_eq_true rfl) dL_law_439 (fun r1 σ1 q1 => ?_)
  obtain ⟨post2, h2, P⟩ := P r1 σ1 q1
  refine wl_aload_n C dL_law_442 rfl 1 rfl ?_
  refine wl_arg (j := 1) C hn (by omega) dL_law_443 dL_law_444 dL_law_445 (by decide) dL_law_446 dL_law_447 ?_
  refine wl_arg (j := 2) C hn (by omega) dL_law_448 dL_law_449 dL_law_450 (by decide) dL_law_451 dL_law_452 ?_
  refine wl_arg (j := 3) C hn (by omega) dL_law_453 dL_law_454 dL_law_455 (by decide) dL_law_456 dL_law_457 ?_
  refine wl_calli (na := 3) (kd := 30) (ci := 6) (As := [.int (xs (i + 1)), .int (xs (i + 2)), .int (xs (i + 3))]) (rest := [.int r1]) C h2 gL_law_X6_sees rfl (by decide +kernel) ⟨by decide, by decide⟩ hcn hsn rfl (by decide) rfl rfl rfl (Nat.le_of_ble_eq_true rfl) dL_law_458 (fun r2 σ2 q2 => ?_)
  obtain ⟨e, nx⟩ := P r2 σ2 q2
  exact wl_icmp_eq 816 C dL_law_461 (by decide) (fun _ => k σ2 nx) (fun z => absurd e z)
set_option maxHeartbeats 4000000 in
theorem law_c_way (C : CL K G b n xs) (hn : n ≤ 320) (hcn : cn ≤ 600000) (hsn : sn ≤ 7302250) (hi : i + 5 ≤ n) (P : PrGI Nx (kL K) G yX5_way wsX5_way 3 yX6_way wsX6_way 7 [.int (xs (i + 1)), .int (xs (i + 2)), .int (xs (i + 3))] σ) (k : ∀ σ2, Nx σ2 → WL K G Q cn sn σ2 (LL G b i) 816 []) : WL K G Q cn sn σ (LL G b i) 466 [] := by
  obtain ⟨post1, h1, P⟩ := P
  refine wl_aload_n C dL_law_466 rfl 2 rfl ?_
  refine wl_arg (j := 1) C hn (by omega) dL_law_467 dL_law_468 dL_law_469 (by decide) dL_law_470 dL_law_471 ?_
  refine wl_arg (j := 2) C hn (by omega) dL_law_472 dL_law_473 dL_law_474 (by decide) dL_law_475 dL_law_476 ?_
  refine wl_arg (j := 3) C hn (by omega) dL_law_477 dL_law_478 dL_law_479 (by decide) dL_law_480 dL_law_481 ?_
  refine wl_calli (na := 3) (kd := 0) (ci := 5) (As := [.int (xs (i + 1)), .int (xs (i + 2)), .int (xs (i + 3))]) (rest := []) C h1 gL_law_X5_way rfl (by decide +kernel) ⟨by decide, by decide⟩ hcn hsn rfl (by decide) rfl rfl rfl (Nat.le_of_ble_eq_true rfl) dL_law_482 (fun r1 σ1 q1 => ?_)
  obtain ⟨post2, h2, P⟩ := P r1 σ1 q1
  refine wl_aload_n C dL_law_485 rfl 1 rfl ?_
  refine wl_arg (j := 1) C hn (by omega) dL_law_486 dL_law_487 dL_law_488 (by decide) dL_law_489 dL_law_490 ?_
  refine wl_arg (j := 2) C hn (by omega) dL_law_491 dL_law_492 dL_law_493 (by decide) dL_law_494 dL_law_495 ?_
  refine wl_arg (j := 3) C hn (by omega) dL_law_496 dL_law_497 dL_law_498 (by decide) dL_law_499 dL_law_500 ?_
  refine wl_calli (na := 3) (kd := 30) (ci := 6) (As := [.int (xs (i + 1)), .int (xs (i + 2)), .int (xs (i + 3))]) (rest := [.int r1]) C h2 gL_law_X6_way rfl (by decide +kernel) ⟨by decide, by decide⟩ hcn hsn rfl (by decide) rfl rfl rfl (Nat.le_of_ble_eq_true rfl) dL_law_501 (fun r2 σ2 q2 => ?_)
  obtain ⟨e, nx⟩ := P r2 σ2 q2
  exact wl_icmp_eq 816 C dL_law_504 (by decide) (fun _ => k σ2 nx) (fun z => absurd e z)
set_option maxHeartbeats 4000000 in
theorem law_c_step (C : CL K G b n xs) (hn : n ≤ 320) (hcn : cn ≤ 600000) (hsn : sn ≤ 7302250) (hi : i + 5 ≤ n) (P : PrGI Nx (kL K) G yX5_step wsX5_step 3 yX6_step wsX6_step 7 [.int (xs (i + 1)), .int (xs (i + 2)), .int (xs (i + 3)), .int (xs (i + 4))] σ) (k : ∀ σ2, Nx σ2 → WL K G Q cn sn σ2 (LL G b i) 816 []) : WL K G Q cn sn σ (LL G b i) 509 [] := by
  obtain ⟨post1, h1, P⟩ := P
  refine wl_aload_n C dL_law_509 rfl 2 rfl ?_
  refine wl_arg (j := 1) C hn (by omega) dL_law_510 dL_law_511 dL_law_512 (by decide) dL_law_513 dL_law_514 ?_
  refine wl_arg (j := 2) C hn (by omega) dL_law_515 dL_law_516 dL_law_517 (by decide) dL_law_518 dL_law_519 ?_
  refine wl_arg (j := 3) C hn (by omega) dL_law_520 dL_law_521 dL_law_522 (by decide) dL_law_523 dL_law_524 ?_
  refine wl_arg (j := 4) C hn (by omega) dL_law_525 dL_law_526 dL_law_527 (by decide) dL_law_528 dL_law_529 ?_
  refine wl_calli (na := 4) (kd := 0) (ci := 5) (As := [.int (xs (i + 1)), .int (xs (i + 2)), .int (xs (i + 3)), .int (xs (i + 4))]) (rest := []) C h1 gL_law_X5_step rfl (by decide +kernel) ⟨by decide, by decide⟩ hcn hsn rfl (by decide) rfl rfl rfl (Nat.le_of_ble_eq_true rfl) dL_law_530 (fun r1 σ1 q1 => ?_)
  obtain ⟨post2, h2, P⟩ := P r1 σ1 q1
  refine wl_aload_n C dL_law_533 rfl 1 rfl ?_
  refine wl_arg (j := 1) C hn (by omega) dL_law_534 dL_law_535 dL_law_536 (by decide) dL_law_537 dL_law_538 ?_
  refine wl_arg (j := 2) C hn (by omega) dL_law_539 dL_law_540 dL_law_541 (by decide) dL_law_542 dL_law_543 ?_
  refine wl_arg (j := 3) C hn (by omega) dL_law_544 dL_law_545 dL_law_546 (by decide) dL_law_547 dL_law_548 ?_
  refine wl_arg (j := 4) C hn (by omega) dL_law_549 dL_law_550 dL_law_551 (by decide) dL_law_552 dL_law_553 ?_
  refine wl_calli (na := 4) (kd := 30) (ci := 6) (As := [.int (xs (i + 1)), .int (xs (i + 2)), .int (xs (i + 3)), .int (xs (i + 4))]) (rest := [.int r1]) C h2 gL_law_X6_step rfl (by decide +kernel) ⟨by decide, by decide⟩ hcn hsn rfl (by decide) rfl rfl rfl (Nat.le_of_ble_eq_true rfl) dL_law_554 (fun r2 σ2 q2 => ?_)
  obtain ⟨e, nx⟩ := P r2 σ2 q2
  exact wl_icmp_eq 816 C dL_law_557 (by decide) (fun _ => k σ2 nx) (fun z => absurd e z)
set_option maxHeartbeats 4000000 in
theorem law_c_triangulations (C : CL K G b n xs) (hn : n ≤ 320) (hcn : cn ≤ 600000) (hsn : sn ≤ 7302250) (hi : i + 5 ≤ n) (P : PrGI Nx (kL K) G yX5_triangulations wsX5_triangulations 2 yX6_triangulations wsX6_triangulations 7 [.int (xs (i + 1))] σ) (k : ∀ σ2, Nx σ2 → WL K G Q cn sn σ2 (LL G b i) 816 []) : WL K G Q cn sn σ (LL G b i) 562 [] := by
  obtain ⟨post1, h1, P⟩ := P
  refine wl_aload_n C dL_law_562 rfl 2 rfl ?_
  refine wl_arg (j := 1) C hn (by omega) dL_law_563 dL_law_564 dL_law_565 (by decide) dL_law_566 dL_law_567 ?_
  refine wl_calli (na := 1) (kd := 0) (ci := 5) (As := [.int (xs (i + 1))]) (rest := []) C h1 gL_law_X5_triangulations rfl (by decide +kernel) ⟨by decide, by decide⟩ hcn hsn rfl (by decide) rfl rfl rfl (Nat.le_of_ble_eq_true rfl) dL_law_568 (fun r1 σ1 q1 => ?_)
  obtain ⟨post2, h2, P⟩ := P r1 σ1 q1
  refine wl_aload_n C dL_law_571 rfl 1 rfl ?_
  refine wl_arg (j := 1) C hn (by omega) dL_law_572 dL_law_573 dL_law_574 (by decide) dL_law_575 dL_law_576 ?_
  refine wl_calli (na := 1) (kd := 30) (ci := 6) (As := [.int (xs (i + 1))]) (rest := [.int r1]) C h2 gL_law_X6_triangulations rfl (by decide +kernel) ⟨by decide, by decide⟩ hcn hsn rfl (by decide) rfl rfl rfl (Nat.le_of_ble_eq_true rfl) dL_law_577 (fun r2 σ2 q2 => ?_)
  obtain ⟨e, nx⟩ := P r2 σ2 q2
  exact wl_icmp_eq 816 C dL_law_580 (by decide) (fun _ => k σ2 nx) (fun z => absurd e z)
set_option maxHeartbeats 4000000 in
theorem law_c_best (C : CL K G b n xs) (hn : n ≤ 320) (hcn : cn ≤ 600000) (hsn : sn ≤ 7302250) (hi : i + 5 ≤ n) (P : PrGI Nx (kL K) G yX5_best wsX5_best 2 yX6_best wsX6_best 7 [.int (xs (i + 1))] σ) (k : ∀ σ2, Nx σ2 → WL K G Q cn sn σ2 (LL G b i) 816 []) : WL K G Q cn sn σ (LL G b i) 585 [] := by
  obtain ⟨post1, h1, P⟩ := P
  refine wl_aload_n C dL_law_585 rfl 2 rfl ?_
  refine wl_arg (j := 1) C hn (by omega) dL_law_586 dL_law_587 dL_law_588 (by decide) dL_law_589 dL_law_590 ?_
  refine wl_calli (na := 1) (kd := 0) (ci := 5) (As := [.int (xs (i + 1))]) (rest := []) C h1 gL_law_X5_best rfl (by decide +kernel) ⟨by decide, by decide⟩ hcn hsn rfl (by decide) rfl rfl rfl (Nat.le_of_ble_eq_true rfl) dL_law_591 (fun r1 σ1 q1 => ?_)
  obtain ⟨post2, h2, P⟩ := P r1 σ1 q1
  refine wl_aload_n C dL_law_594 rfl 1 rfl ?_
  refine wl_arg (j := 1) C hn (by omega) dL_law_595 dL_law_596 dL_law_597 (by decide) dL_law_598 dL_law_599 ?_
  refine wl_calli (na := 1) (kd := 30) (ci := 6) (As := [.int (xs (i + 1))]) (rest := [.int r1]) C h2 gL_law_X6_best rfl (by decide +kernel) ⟨by decide, by decide⟩ hcn hsn rfl (by decide) rfl rfl rfl (Nat.le_of_ble_eq_true rfl) dL_law_600 (fun r2 σ2 q2 => ?_)
  obtain ⟨e, nx⟩ := P r2 σ2 q2
  exact wl_icmp_eq 816 C dL_law_603 (by decide) (fun _ => k σ2 nx) (fun z => absurd e z)
set_option maxHeartbeats 4000000 in
theorem law_c_triangle (C : CL K G b n xs) (hn : n ≤ 320) (hcn : cn ≤ 600000) (hsn : sn ≤ 7302250) (hi : i + 5 ≤ n) (P : PrGI Nx (kL K) G yX5_triangle wsX5_triangle 2 yX6_triangle wsX6_triangle 8 [.int (xs (i + 1)), .int (xs (i + 2)), .int (xs (i + 3))] σ) (k : ∀ σ2, Nx σ2 → WL K G Q cn sn σ2 (LL G b i) 816 []) : WL K G Q cn sn σ (LL G b i) 608 [] := by
  obtain ⟨post1, h1, P⟩ := P
  refine wl_aload_n C dL_law_608 rfl 2 rfl ?_
  refine wl_arg (j := 1) C hn (by omega) dL_law_609 dL_law_610 dL_law_611 (by decide) dL_law_612 dL_law_613 ?_
  refine wl_arg (j := 2) C hn (by omega) dL_law_614 dL_law_615 dL_law_616 (by decide) dL_law_617 dL_law_618 ?_
  refine wl_arg (j := 3) C hn (by omega) dL_law_619 dL_law_620 dL_law_621 (by decide) dL_law_622 dL_law_623 ?_
  refine wl_calli (na := 3) (kd := 0) (ci := 5) (As := [.int (xs (i + 1)), .int (xs (i + 2)), .int (xs (i + 3))]) (rest := []) C h1 gL_law_X5_triangle rfl (by decide +kernel) ⟨by decide, by decide⟩ hcn hsn rfl (by decide) rfl rfl rfl (Nat.le_of_ble_eq_true rfl) dL_law_624 (fun r1 σ1 q1 => ?_)
  obtain ⟨post2, h2, P⟩ := P r1 σ1 q1
  refine wl_aload_n C dL_law_627 rfl 1 rfl ?_
  refine wl_arg (j := 1) C hn (by omega) dL_law_628 dL_law_629 dL_law_630 (by decide) dL_law_631 dL_law_632 ?_
  refine wl_arg (j := 2) C hn (by omega) dL_law_633 dL_law_634 dL_law_635 (by decide) dL_law_636 dL_law_637 ?_
  refine wl_arg (j := 3) C hn (by omega) dL_law_638 dL_law_639 dL_law_640 (by decide) dL_law_641 dL_law_642 ?_
  refine wl_calli (na := 3) (kd := 30) (ci := 6) (As := [.int (xs (i + 1)), .int (xs (i + 2)), .int (xs (i + 3))]) (rest := [.int r1]) C h2 gL_law_X6_triangle rfl (by decide +kernel) ⟨by decide, by decide⟩ hcn hsn rfl (by decide) rfl rfl rfl (Nat.le_of_ble_eq_true rfl) dL_law_643 (fun r2 σ2 q2 => ?_)
  obtain ⟨e, nx⟩ := P r2 σ2 q2
  exact wl_icmp_eq 816 C dL_law_646 (by decide) (fun _ => k σ2 nx) (fun z => absurd e z)
set_option maxHeartbeats 4000000 in
theorem law_c_diagonal (C : CL K G b n xs) (hn : n ≤ 320) (hcn : cn ≤ 600000) (hsn : sn ≤ 7302250) (hi : i + 5 ≤ n) (P : PrGI Nx (kL K) G yX5_diagonal wsX5_diagonal 2 yX6_diagonal wsX6_diagonal 9 [.int (xs (i + 1)), .int (xs (i + 2)), .int (xs (i + 3))] σ) (k : ∀ σ2, Nx σ2 → WL K G Q cn sn σ2 (LL G b i) 816 []) : WL K G Q cn sn σ (LL G b i) 651 [] := by
  obtain ⟨post1, h1, P⟩ := P
  refine wl_aload_n C dL_law_651 rfl 2 rfl ?_
  refine wl_arg (j := 1) C hn (by omega) dL_law_652 dL_law_653 dL_law_654 (by decide) dL_law_655 dL_law_656 ?_
  refine wl_arg (j := 2) C hn (by omega) dL_law_657 dL_law_658 dL_law_659 (by decide) dL_law_660 dL_law_661 ?_
  refine wl_arg (j := 3) C hn (by omega) dL_law_662 dL_law_663 dL_law_664 (by decide) dL_law_665 dL_law_666 ?_
  refine wl_calli (na := 3) (kd := 0) (ci := 5) (As := [.int (xs (i + 1)), .int (xs (i + 2)), .int (xs (i + 3))]) (rest := []) C h1 gL_law_X5_diagonal rfl (by decide +kernel) ⟨by decide, by decide⟩ hcn hsn rfl (by decide) rfl rfl rfl (Nat.le_of_ble_eq_true rfl) dL_law_667 (fun r1 σ1 q1 => ?_)
  obtain ⟨post2, h2, P⟩ := P r1 σ1 q1
  refine wl_aload_n C dL_law_670 rfl 1 rfl ?_
  refine wl_arg (j := 1) C hn (by omega) dL_law_671 dL_law_672 dL_law_673 (by decide) dL_law_674 dL_law_675 ?_
  refine wl_arg (j := 2) C hn (by omega) dL_law_676 dL_law_677 dL_law_678 (by decide) dL_law_679 dL_law_680 ?_
  refine wl_arg (j := 3) C hn (by omega) dL_law_681 dL_law_682 dL_law_683 (by decide) dL_law_684 dL_law_685 ?_
  refine wl_calli (na := 3) (kd := 30) (ci := 6) (As := [.int (xs (i + 1)), .int (xs (i + 2)), .int (xs (i + 3))]) (rest := [.int r1]) C h2 gL_law_X6_diagonal rfl (by decide +kernel) ⟨by decide, by decide⟩ hcn hsn rfl (by decide) rfl rfl rfl (Nat.le_of_ble_eq_true rfl) dL_law_686 (fun r2 σ2 q2 => ?_)
  obtain ⟨e, nx⟩ := P r2 σ2 q2
  exact wl_icmp_eq 816 C dL_law_689 (by decide) (fun _ => k σ2 nx) (fun z => absurd e z)
set_option maxHeartbeats 4000000 in
theorem law_c_parts (C : CL K G b n xs) (hn : n ≤ 320) (hcn : cn ≤ 600000) (hsn : sn ≤ 7302250) (hi : i + 5 ≤ n) (P : PrGI Nx (kL K) G yX5_parts wsX5_parts 2 yX6_parts wsX6_parts 9 [.int (xs (i + 1))] σ) (k : ∀ σ2, Nx σ2 → WL K G Q cn sn σ2 (LL G b i) 816 []) : WL K G Q cn sn σ (LL G b i) 694 [] := by
  obtain ⟨post1, h1, P⟩ := P
  refine wl_aload_n C dL_law_694 rfl 2 rfl ?_
  refine wl_arg (j := 1) C hn (by omega) dL_law_695 dL_law_696 dL_law_697 (by decide) dL_law_698 dL_law_699 ?_
  refine wl_calli (na := 1) (kd := 0) (ci := 5) (As := [.int (xs (i + 1))]) (rest := []) C h1 gL_law_X5_parts rfl (by decide +kernel) ⟨by decide, by decide⟩ hcn hsn rfl (by decide) rfl rfl rfl (Nat.le_of_ble_eq_true rfl) dL_law_700 (fun r1 σ1 q1 => ?_)
  obtain ⟨post2, h2, P⟩ := P r1 σ1 q1
  refine wl_aload_n C dL_law_703 rfl 1 rfl ?_
  refine wl_arg (j := 1) C hn (by omega) dL_law_704 dL_law_705 dL_law_706 (by decide) dL_law_707 dL_law_708 ?_
  refine wl_calli (na := 1) (kd := 30) (ci := 6) (As := [.int (xs (i + 1))]) (rest := [.int r1]) C h2 gL_law_X6_parts rfl (by decide +kernel) ⟨by decide, by decide⟩ hcn hsn rfl (by decide) rfl rfl rfl (Nat.le_of_ble_eq_true rfl) dL_law_709 (fun r2 σ2 q2 => ?_)
  obtain ⟨e, nx⟩ := P r2 σ2 q2
  exact wl_icmp_eq 816 C dL_law_712 (by decide) (fun _ => k σ2 nx) (fun z => absurd e z)
set_option maxHeartbeats 4000000 in
theorem law_c_same (C : CL K G b n xs) (hn : n ≤ 320) (hcn : cn ≤ 600000) (hsn : sn ≤ 7302250) (hi : i + 5 ≤ n) (P : PrGI Nx (kL K) G yX5_same wsX5_same 5 yX6_same wsX6_same 5 [.int (xs (i + 1)), .int (xs (i + 2))] σ) (k : ∀ σ2, Nx σ2 → WL K G Q cn sn σ2 (LL G b i) 816 []) : WL K G Q cn sn σ (LL G b i) 717 [] := by
  obtain ⟨post1, h1, P⟩ := P
  refine wl_aload_n C dL_law_717 rfl 2 rfl ?_
  refine wl_arg (j := 1) C hn (by omega) dL_law_718 dL_law_719 dL_law_720 (by decide) dL_law_721 dL_law_722 ?_
  refine wl_arg (j := 2) C hn (by omega) dL_law_723 dL_law_724 dL_law_725 (by decide) dL_law_726 dL_law_727 ?_
  refine wl_calli (na := 2) (kd := 0) (ci := 5) (As := [.int (xs (i + 1)), .int (xs (i + 2))]) (rest := []) C h1 gL_law_X5_same rfl (by decide +kernel) ⟨by decide, by decide⟩ hcn hsn rfl (by decide) rfl rfl rfl (Nat.le_of_ble_eq_true rfl) dL_law_728 (fun r1 σ1 q1 => ?_)
  obtain ⟨post2, h2, P⟩ := P r1 σ1 q1
  refine wl_aload_n C dL_law_731 rfl 1 rfl ?_
  refine wl_arg (j := 1) C hn (by omega) dL_law_732 dL_law_733 dL_law_734 (by decide) dL_law_735 dL_law_736 ?_
  refine wl_arg (j := 2) C hn (by omega) dL_law_737 dL_law_738 dL_law_739 (by decide) dL_law_740 dL_law_741 ?_
  refine wl_calli (na := 2) (kd := 30) (ci := 6) (As := [.int (xs (i + 1)), .int (xs (i + 2))]) (rest := [.int r1]) C h2 gL_law_X6_same rfl (by decide +kernel) ⟨by decide, by decide⟩ hcn hsn rfl (by decide) rfl rfl rfl (Nat.le_of_ble_eq_true rfl) dL_law_742 (fun r2 σ2 q2 => ?_)
  obtain ⟨e, nx⟩ := P r2 σ2 q2
  exact wl_icmp_eq 816 C dL_law_745 (by decide) (fun _ => k σ2 nx) (fun z => absurd e z)
set_option maxHeartbeats 4000000 in
theorem law_c_onto (C : CL K G b n xs) (hn : n ≤ 320) (hcn : cn ≤ 600000) (hsn : sn ≤ 7302250) (hi : i + 5 ≤ n) (P : PrGI Nx (kL K) G yX5_onto wsX5_onto 5 yX6_onto wsX6_onto 5 [.int (xs (i + 1)), .int (xs (i + 2))] σ) (k : ∀ σ2, Nx σ2 → WL K G Q cn sn σ2 (LL G b i) 816 []) : WL K G Q cn sn σ (LL G b i) 750 [] := by
  obtain ⟨post1, h1, P⟩ := P
  refine wl_aload_n C dL_law_750 rfl 2 rfl ?_
  refine wl_arg (j := 1) C hn (by omega) dL_law_751 dL_law_752 dL_law_753 (by decide) dL_law_754 dL_law_755 ?_
  refine wl_arg (j := 2) C hn (by omega) dL_law_756 dL_law_757 dL_law_758 (by decide) dL_law_759 dL_law_760 ?_
  refine wl_calli (na := 2) (kd := 0) (ci := 5) (As := [.int (xs (i + 1)), .int (xs (i + 2))]) (rest := []) C h1 gL_law_X5_onto rfl (by decide +kernel) ⟨by decide, by decide⟩ hcn hsn rfl (by decide) rfl rfl rfl (Nat.le_of_ble_eq_true rfl) dL_law_761 (fun r1 σ1 q1 => ?_)
  obtain ⟨post2, h2, P⟩ := P r1 σ1 q1
  refine wl_aload_n C dL_law_764 rfl 1 rfl ?_
  refine wl_arg (j := 1) C hn (by omega) dL_law_765 dL_law_766 dL_law_767 (by decide) dL_law_768 dL_law_769 ?_
  refine wl_arg (j := 2) C hn (by omega) dL_law_770 dL_law_771 dL_law_772 (by decide) dL_law_773 dL_law_774 ?_
  refine wl_calli (na := 2) (kd := 30) (ci := 6) (As := [.int (xs (i + 1)), .int (xs (i + 2))]) (rest := [.int r1]) C h2 gL_law_X6_onto rfl (by decide +kernel) ⟨by decide, by decide⟩ hcn hsn rfl (by decide) rfl rfl rfl (Nat.le_of_ble_eq_true rfl) dL_law_775 (fun r2 σ2 q2 => ?_)
  obtain ⟨e, nx⟩ := P r2 σ2 q2
  exact wl_icmp_eq 816 C dL_law_778 (by decide) (fun _ => k σ2 nx) (fun z => absurd e z)
set_option maxHeartbeats 4000000 in
theorem law_c_symmetries (C : CL K G b n xs) (hn : n ≤ 320) (hcn : cn ≤ 600000) (hsn : sn ≤ 7302250) (hi : i + 5 ≤ n) (P : PrGI Nx (kL K) G yX5_symmetries wsX5_symmetries 5 yX6_symmetries wsX6_symmetries 5 [.int (xs (i + 1)), .int (xs (i + 2))] σ) (k : ∀ σ2, Nx σ2 → WL K G Q cn sn σ2 (LL G b i) 816 []) : WL K G Q cn sn σ (LL G b i) 783 [] := by
  obtain ⟨post1, h1, P⟩ := P
  refine wl_aload_n C dL_law_783 rfl 2 rfl ?_
  refine wl_arg (j := 1) C hn (by omega) dL_law_784 dL_law_785 dL_law_786 (by decide) dL_law_787 dL_law_788 ?_
  refine wl_arg (j := 2) C hn (by omega) dL_law_789 dL_law_790 dL_law_791 (by decide) dL_law_792 dL_law_793 ?_
  refine wl_calli (na := 2) (kd := 0) (ci := 5) (As := [.int (xs (i + 1)), .int (xs (i + 2))]) (rest := []) C h1 gL_law_X5_symmetries rfl (by decide +kernel) ⟨by decide, by decide⟩ hcn hsn rfl (by decide) rfl rfl rfl (Nat.le_of_ble_eq_true rfl) dL_law_794 (fun r1 σ1 q1 => ?_)
  obtain ⟨post2, h2, P⟩ := P r1 σ1 q1
  refine wl_aload_n C dL_law_797 rfl 1 rfl ?_
  refine wl_arg (j := 1) C hn (by omega) dL_law_798 dL_law_799 dL_law_800 (by decide) dL_law_801 dL_law_802 ?_
  refine wl_arg (j := 2) C hn (by omega) dL_law_803 dL_law_804 dL_law_805 (by decide) dL_law_806 dL_law_807 ?_
  refine wl_calli (na := 2) (kd := 30) (ci := 6) (As := [.int (xs (i + 1)), .int (xs (i + 2))]) (rest := [.int r1]) C h2 gL_law_X6_symmetries rfl (by decide +kernel) ⟨by decide, by decide⟩ hcn hsn rfl (by decide) rfl rfl rfl (Nat.le_of_ble_eq_true rfl) dL_law_808 (fun r2 σ2 q2 => ?_)
  obtain ⟨e, nx⟩ := P r2 σ2 q2
  exact wl_icmp_eq 816 C dL_law_811 (by decide) (fun _ => k σ2 nx) (fun z => absurd e z)
end LC
def LawP (Nx : Sg → Prop) (l : Launch) (G : Gx) : Prop := (∀ σ, Nx σ → ∀ x y : Int32, PrGI Nx l G yX5_corner wsX5_corner 3 yX6_corner wsX6_corner 2 [.int x, .int y] σ) ∧ (∀ σ, Nx σ → PrGI Nx l G yX5_polygon wsX5_polygon 7 yX6_polygon wsX6_polygon 5 [] σ) ∧ (∀ σ, Nx σ → ∀ x : Int32, PrGI Nx l G yX5_fault wsX5_fault 1 yX6_fault wsX6_fault 2 [.int x] σ) ∧ (∀ σ, Nx σ → PrGI Nx l G yX5_drop wsX5_drop 1 yX6_drop wsX6_drop 1 [] σ) ∧ (∀ σ, Nx σ → ∀ x : Int32, PrGI Nx l G yX5_count wsX5_count 2 yX6_count wsX6_count 3 [.int x] σ) ∧ (∀ σ, Nx σ → ∀ x y u : Int32, PrGI Nx l G yX5_at wsX5_at 2 yX6_at wsX6_at 4 [.int x, .int y, .int u] σ) ∧ (∀ σ, Nx σ → ∀ x : Int32, PrGI Nx l G yX5_area wsX5_area 2 yX6_area wsX6_area 3 [.int x] σ) ∧ (∀ σ, Nx σ → ∀ x y u : Int32, PrGL Nx l G yX5_centroid wsX5_centroid 4 yX6_centroid wsX6_centroid 3 [.int x, .int y, .int u] σ) ∧ (∀ σ, Nx σ → ∀ x y : Int32, PrGI Nx l G yX5_points wsX5_points 4 yX6_points wsX6_points 3 [.int x, .int y] σ) ∧ (∀ σ, Nx σ → ∀ x y u : Int32, PrGI Nx l G yX5_in wsX5_in 3 yX6_in wsX6_in 4 [.int x, .int y, .int u] σ) ∧ (∀ σ, Nx σ → ∀ x y u : Int32, PrGI Nx l G yX5_sees wsX5_sees 2 yX6_sees wsX6_sees 6 [.int x, .int y, .int u] σ) ∧ (∀ σ, Nx σ → ∀ x y u : Int32, PrGI Nx l G yX5_way wsX5_way 3 yX6_way wsX6_way 7 [.int x, .int y, .int u] σ) ∧ (∀ σ, Nx σ → ∀ x y u v : Int32, PrGI Nx l G yX5_step wsX5_step 3 yX6_step wsX6_step 7 [.int x, .int y, .int u, .int v] σ) ∧ (∀ σ, Nx σ → ∀ x : Int32, PrGI Nx l G yX5_triangulations wsX5_triangulations 2 yX6_triangulations wsX6_triangulations 7 [.int x] σ) ∧ (∀ σ, Nx σ → ∀ x : Int32, PrGI Nx l G yX5_best wsX5_best 2 yX6_best wsX6_best 7 [.int x] σ) ∧ (∀ σ, Nx σ → ∀ x y u : Int32, PrGI Nx l G yX5_triangle wsX5_triangle 2 yX6_triangle wsX6_triangle 8 [.int x, .int y, .int u] σ) ∧ (∀ σ, Nx σ → ∀ x y u : Int32, PrGI Nx l G yX5_diagonal wsX5_diagonal 2 yX6_diagonal wsX6_diagonal 9 [.int x, .int y, .int u] σ) ∧ (∀ σ, Nx σ → ∀ x : Int32, PrGI Nx l G yX5_parts wsX5_parts 2 yX6_parts wsX6_parts 9 [.int x] σ) ∧ (∀ σ, Nx σ → ∀ x y : Int32, PrGI Nx l G yX5_same wsX5_same 5 yX6_same wsX6_same 5 [.int x, .int y] σ) ∧ (∀ σ, Nx σ → ∀ x y : Int32, PrGI Nx l G yX5_onto wsX5_onto 5 yX6_onto wsX6_onto 5 [.int x, .int y] σ) ∧ (∀ σ, Nx σ → ∀ x y : Int32, PrGI Nx l G yX5_symmetries wsX5_symmetries 5 yX6_symmetries wsX6_symmetries 5 [.int x, .int y] σ)
section LS
variable {K : Kx} {G : Gx} {b n : Nat} {xs : Nat → Int32} {Q : State → Prop} {cn sn : Nat} {Nx : Sg → Prop}
set_option maxHeartbeats 4000000 in
theorem law_step {σ : Sg} {i : Nat} (C : CL K G b n xs) (hn : n ≤ 320) (hcn : cn ≤ 600000) (hsn : sn ≤ 7302250) (hi : i ≤ 330) (N : Nx σ) (Ps : LawP Nx (kL K) G) (fin : ∀ σ, WL K G Q cn sn σ (LL G b i) 822 []) (next : i + 5 ≤ n → ∀ σ2, Nx σ2 → WL K G Q cn sn σ2 (LL G b (i + 5)) 18 []) : WL K G Q cn sn σ (LL G b i) 18 [] := by
  refine wl_iload_n C dL_law_18 rfl 0 rfl ?_
  refine wl_aload_n C dL_law_19 rfl 3 rfl ?_
  refine wl_slen C dL_law_20 ?_
  refine wl_iconst (v := 5) C dL_law_21 (by decide) ?_
  refine wl_isub C dL_law_22 ?_
  refine wl_icmp_gt 822 C dL_law_23 (by decide) (fun _ => fin σ) (fun q => ?_)
  have h5 := le5 hn hi q
  have k9 : ∀ σ2, Nx σ2 → WL K G Q cn sn σ2 (LL G b i) 816 [] := fun σ2 N2 => by
    refine wl_iinc (v := nI (i + 5)) (q := 0) (L' := LL G b (i + 5)) C dL_law_816 rfl (nI_add i 5) (by decide) rfl ?_
    exact wl_goto 18 C dL_law_819 (by decide) (next h5 σ2 N2)
  refine wl_aload_n C dL_law_26 rfl 3 rfl ?_
  refine wl_iload_n C dL_law_27 rfl 0 rfl ?_
  refine wl_sld C rfl (by omega) hn dL_law_28 ?_
  refine wl_bipush (v := 31) C dL_law_29 (by decide) ?_
  refine wl_iand C dL_law_31 ?_
  generalize xs i &&& 31 = x
  by_cases hx : x.toInt < 0 ∨ 20 < x.toInt
  · exact wl_out 816 C dL_law_32 hx (by decide) (k9 σ N)
  · have hx' : x.toInt = 0 ∨ x.toInt = 1 ∨ x.toInt = 2 ∨ x.toInt = 3 ∨ x.toInt = 4 ∨ x.toInt = 5 ∨ x.toInt = 6 ∨ x.toInt = 7 ∨ x.toInt = 8 ∨ x.toInt = 9 ∨ x.toInt = 10 ∨ x.toInt = 11 ∨ x.toInt = 12 ∨ x.toInt = 13 ∨ x.toInt = 14 ∨ x.toInt = 15 ∨ x.toInt = 16 ∨ x.toInt = 17 ∨ x.toInt = 18 ∨ x.toInt = 19 ∨ x.toInt = 20 := by omega
    rcases hx' with e | e | e | e | e | e | e | e | e | e | e | e | e | e | e | e | e | e | e | e | e
    · exact wl_in (off := 100) 132 C dL_law_32 0 e (by decide) (by decide) (by decide) (by decide) (law_c_corner C hn hcn hsn h5 (Ps.1 σ N _ _) k9)
    · exact wl_in (off := 133) 165 C dL_law_32 1 e (by decide) (by decide) (by decide) (by decide) (law_c_polygon C hn hcn hsn h5 (Ps.2.1 σ N) k9)
    · exact wl_in (off := 146) 178 C dL_law_32 2 e (by decide) (by decide) (by decide) (by decide) (law_c_fault C hn hcn hsn h5 (Ps.2.2.1 σ N _) k9)
    · exact wl_in (off := 169) 201 C dL_law_32 3 e (by decide) (by decide) (by decide) (by decide) (law_c_drop C hn hcn hsn h5 (Ps.2.2.2.1 σ N) k9)
    · exact wl_in (off := 182) 214 C dL_law_32 4 e (by decide) (by decide) (by decide) (by decide) (law_c_count C hn hcn hsn h5 (Ps.2.2.2.2.1 σ N _) k9)
    · exact wl_in (off := 205) 237 C dL_law_32 5 e (by decide) (by decide) (by decide) (by decide) (law_c_at C hn hcn hsn h5 (Ps.2.2.2.2.2.1 σ N _ _ _) k9)
    · exact wl_in (off := 248) 280 C dL_law_32 6 e (by decide) (by decide) (by decide) (by decide) (law_c_area C hn hcn hsn h5 (Ps.2.2.2.2.2.2.1 σ N _) k9)
    · exact wl_in (off := 271) 303 C dL_law_32 7 e (by decide) (by decide) (by decide) (by decide) (law_c_centroid C hn hcn hsn h5 (Ps.2.2.2.2.2.2.2.1 σ N _ _ _) k9)
    · exact wl_in (off := 315) 347 C dL_law_32 8 e (by decide) (by decide) (by decide) (by decide) (law_c_points C hn hcn hsn h5 (Ps.2.2.2.2.2.2.2.2.1 σ N _ _) k9)
    · exact wl_in (off := 348) 380 C dL_law_32 9 e (by decide) (by decide) (by decide) (by decide) (law_c_in C hn hcn hsn h5 (Ps.2.2.2.2.2.2.2.2.2.1 σ N _ _ _) k9)
    · exact wl_in (off := 391) 423 C dL_law_32 10 e (by decide) (by decide) (by decide) (by decide) (law_c_sees C hn hcn hsn h5 (Ps.2.2.2.2.2.2.2.2.2.2.1 σ N _ _ _) k9)
    · exact wl_in (off := 434) 466 C dL_law_32 11 e (by decide) (by decide) (by decide) (by decide) (law_c_way C hn hcn hsn h5 (Ps.2.2.2.2.2.2.2.2.2.2.2.1 σ N _ _ _) k9)
    · exact wl_in (off := 477) 509 C dL_law_32 12 e (by decide) (by decide) (by decide) (by decide) (law_c_step C hn hcn hsn h5 (Ps.2.2.2.2.2.2.2.2.2.2.2.2.1 σ N _ _ _ _) k9)
    · exact wl_in (off := 530) 562 C dL_law_32 13 e (by decide) (by decide) (by decide) (by decide) (law_c_triangulations C hn hcn hsn h5 (Ps.2.2.2.2.2.2.2.2.2.2.2.2.2.1 σ N _) k9)
    · exact wl_in (off := 553) 585 C dL_law_32 14 e (by decide) (by decide) (by decide) (by decide) (law_c_best C hn hcn hsn h5 (Ps.2.2.2.2.2.2.2.2.2.2.2.2.2.2.1 σ N _) k9)
    · exact wl_in (off := 576) 608 C dL_law_32 15 e (by decide) (by decide) (by decide) (by decide) (law_c_triangle C hn hcn hsn h5 (Ps.2.2.2.2.2.2.2.2.2.2.2.2.2.2.2.1 σ N _ _ _) k9)
    · exact wl_in (off := 619) 651 C dL_law_32 16 e (by decide) (by decide) (by decide) (by decide) (law_c_diagonal C hn hcn hsn h5 (Ps.2.2.2.2.2.2.2.2.2.2.2.2.2.2.2.2.1 σ N _ _ _) k9)
    · exact wl_in (off := 662) 694 C dL_law_32 17 e (by decide) (by decide) (by decide) (by decide) (law_c_parts C hn hcn hsn h5 (Ps.2.2.2.2.2.2.2.2.2.2.2.2.2.2.2.2.2.1 σ N _) k9)
    · exact wl_in (off := 685) 717 C dL_law_32 18 e (by decide) (by decide) (by decide) (by decide) (law_c_same C hn hcn hsn h5 (Ps.2.2.2.2.2.2.2.2.2.2.2.2.2.2.2.2.2.2.1 σ N _ _) k9)
    · exact wl_in (off := 718) 750 C dL_law_32 19 e (by decide) (by decide) (by decide) (by decide) (law_c_onto C hn hcn hsn h5 (Ps.2.2.2.2.2.2.2.2.2.2.2.2.2.2.2.2.2.2.2.1 σ N _ _) k9)
    · exact wl_in (off := 751) 783 C dL_law_32 20 e (by decide) (by decide) (by decide) (by decide) (law_c_symmetries C hn hcn hsn h5 (Ps.2.2.2.2.2.2.2.2.2.2.2.2.2.2.2.2.2.2.2.2 σ N _ _) k9)
theorem law_loop (C : CL K G b n xs) (hn : n ≤ 320) (hcn : cn ≤ 600000) (hsn : sn ≤ 7302250) (Ps : LawP Nx (kL K) G) (fin : ∀ i σ, WL K G Q cn sn σ (LL G b i) 822 []) : ∀ (m i : Nat) (σ : Sg), i ≤ 330 → n + 1 ≤ i + m → Nx σ → WL K G Q cn sn σ (LL G b i) 18 []
  | 0, i, _, hi, hm, N => law_step C hn hcn hsn hi N Ps (fin i) (fun h => absurd h (by omega))
  | m + 1, i, _, hi, hm, N => law_step C hn hcn hsn hi N Ps (fin i) (fun h σ2 N2 => law_loop C hn hcn hsn Ps fin m (i + 5) σ2 (by omega) (by omega) N2)
end LS
