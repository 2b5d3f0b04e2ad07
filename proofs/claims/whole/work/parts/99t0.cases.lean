/-! ===== the law: its cases 0 .. 10 ===== -/
section JX
variable {Ln : Nat} {xs : Nat → Int32}
theorem law_c0 {j : Nat} {A : AS} {h : PH} (hL : Ln ≤ 3584) (hj : 7 * j + 7 ≤ Ln) (S : St h A) (kk : ∀ A' h', St h' A' → J mL_law room_1 [] (ZW Ln xs) 1332 (LW j) [] SHF h') : J mL_law room_1 [] (ZW Ln xs) 180 (LW j) [] SHF h := by
  obtain ⟨hG, ⟨p, hX⟩, hM, hW⟩ := id S
  refine J_aload_n dL_law_180 rfl ?_
  refine J_arg (k := 1) dL_law_181 dL_law_182 dL_law_183 dL_law_184 dL_law_185 (by omega) hL ?_
  refine J_arg (k := 2) dL_law_186 dL_law_187 dL_law_188 dL_law_189 dL_law_190 (by omega) hL ?_
  refine J_arg (k := 3) dL_law_191 dL_law_192 dL_law_193 dL_law_194 dL_law_195 (by omega) hL ?_
  refine J_arg (k := 4) dL_law_196 dL_law_197 dL_law_198 dL_law_199 dL_law_200 (by omega) hL ?_
  refine J_arg (k := 5) dL_law_201 dL_law_202 dL_law_203 dL_law_204 dL_law_205 (by omega) hL ?_
  refine J_cWI (ci := 9) (c := 0) (as := [pI (xs (7 * j + 1)), pI (xs (7 * j + 2)), pI (xs (7 * j + 3)), pI (xs (7 * j + 4)), pI (xs (7 * j + 5))]) (st := []) dL_law_206 lL_13 okX9_feed vX9_feed s0 (by decide) rfl rfl rfl (Nat.le_of_ble_eq_true rfl) ⟨Nat.le_of_ble_eq_true rfl, Nat.le_of_ble_eq_true rfl⟩ crW (c_X9_feed hG hX hW) (fun v h1 q1 => ?_)
  obtain ⟨e1, q1⟩ := q1
  have q1 := XP.q q1 hG
  have G1 := q1.2.2
  have M1 := hM.far q1.2.1
  refine J_aload_n dL_law_209 rfl ?_
  refine J_arg (k := 1) dL_law_210 dL_law_211 dL_law_212 dL_law_213 dL_law_214 (by omega) hL ?_
  refine J_arg (k := 2) dL_law_215 dL_law_216 dL_law_217 dL_law_218 dL_law_219 (by omega) hL ?_
  refine J_arg (k := 3) dL_law_220 dL_law_221 dL_law_222 dL_law_223 dL_law_224 (by omega) hL ?_
  refine J_arg (k := 4) dL_law_225 dL_law_226 dL_law_227 dL_law_228 dL_law_229 (by omega) hL ?_
  refine J_arg (k := 5) dL_law_230 dL_law_231 dL_law_232 dL_law_233 dL_law_234 (by omega) hL ?_
  refine J_cWI (ci := 10) (c := 158) (as := [pI (xs (7 * j + 1)), pI (xs (7 * j + 2)), pI (xs (7 * j + 3)), pI (xs (7 * j + 4)), pI (xs (7 * j + 5))]) (st := [pI v]) dL_law_235 lL_17 okX10_feed vX10_feed s158 (by decide) rfl rfl rfl (Nat.le_of_ble_eq_true rfl) ⟨Nat.le_of_ble_eq_true rfl, Nat.le_of_ble_eq_true rfl⟩ crW (c_X10_feed G1 M1 hW) (fun w h2 q2 => ?_)
  obtain ⟨e2, q2⟩ := q2
  exact J_icmp_eq dL_law_238 (fun _ => kk _ _ (S.next q1 q2 (hW.feed))) (fun z => absurd (e1.trans e2.symm) z)
theorem law_c1 {j : Nat} {A : AS} {h : PH} (hL : Ln ≤ 3584) (hj : 7 * j + 7 ≤ Ln) (S : St h A) (kk : ∀ A' h', St h' A' → J mL_law room_1 [] (ZW Ln xs) 1332 (LW j) [] SHF h') : J mL_law room_1 [] (ZW Ln xs) 243 (LW j) [] SHF h := by
  obtain ⟨hG, ⟨p, hX⟩, hM, hW⟩ := id S
  refine J_aload_n dL_law_243 rfl ?_
  refine J_arg (k := 1) dL_law_244 dL_law_245 dL_law_246 dL_law_247 dL_law_248 (by omega) hL ?_
  refine J_cWI (ci := 9) (c := 0) (as := [pI (xs (7 * j + 1))]) (st := []) dL_law_249 lL_18 okX9_end vX9_end s0 (by decide) rfl rfl rfl (Nat.le_of_ble_eq_true rfl) ⟨Nat.le_of_ble_eq_true rfl, Nat.le_of_ble_eq_true rfl⟩ crW (c_X9_end hG hX hW) (fun v h1 q1 => ?_)
  obtain ⟨e1, q1⟩ := q1
  have q1 := XP.q q1 hG
  have G1 := q1.2.2
  have M1 := hM.far q1.2.1
  refine J_aload_n dL_law_252 rfl ?_
  refine J_arg (k := 1) dL_law_253 dL_law_254 dL_law_255 dL_law_256 dL_law_257 (by omega) hL ?_
  refine J_cWI (ci := 10) (c := 158) (as := [pI (xs (7 * j + 1))]) (st := [pI v]) dL_law_258 lL_22 okX10_end vX10_end s158 (by decide) rfl rfl rfl (Nat.le_of_ble_eq_true rfl) ⟨Nat.le_of_ble_eq_true rfl, Nat.le_of_ble_eq_true rfl⟩ crW (c_X10_end G1 M1 hW) (fun w h2 q2 => ?_)
  obtain ⟨e2, q2⟩ := q2
  exact J_icmp_eq dL_law_261 (fun _ => kk _ _ (S.next q1 q2 hW.ends)) (fun z => absurd (e1.trans e2.symm) z)
theorem law_c2 {j : Nat} {A : AS} {h : PH} (hL : Ln ≤ 3584) (hj : 7 * j + 7 ≤ Ln) (S : St h A) (kk : ∀ A' h', St h' A' → J mL_law room_1 [] (ZW Ln xs) 1332 (LW j) [] SHF h') : J mL_law room_1 [] (ZW Ln xs) 266 (LW j) [] SHF h := by
  obtain ⟨hG, ⟨p, hX⟩, hM, hW⟩ := id S
  refine J_aload_n dL_law_266 rfl ?_
  refine J_cWI (ci := 9) (c := 0) (as := []) (st := []) dL_law_267 lL_23 okX9_post vX9_post s0 (by decide) rfl rfl rfl (Nat.le_of_ble_eq_true rfl) ⟨Nat.le_of_ble_eq_true rfl, Nat.le_of_ble_eq_true rfl⟩ crW (c_X9_post hG hX hW) (fun v h1 q1 => ?_)
  obtain ⟨e1, q1⟩ := q1
  have G1 := q1.2.2
  have M1 := hM.far q1.2.1
  refine J_aload_n dL_law_270 rfl ?_
  refine J_cWI (ci := 10) (c := 158) (as := []) (st := [pI v]) dL_law_271 lL_27 okX10_post vX10_post s158 (by decide) rfl rfl rfl (Nat.le_of_ble_eq_true rfl) ⟨Nat.le_of_ble_eq_true rfl, Nat.le_of_ble_eq_true rfl⟩ crW (c_X10_post G1 M1 hW) (fun w h2 q2 => ?_)
  obtain ⟨e2, q2⟩ := q2
  exact J_icmp_eq dL_law_274 (fun _ => kk _ _ (S.next q1 q2 hW.post)) (fun z => absurd (e1.trans e2.symm) z)
theorem law_c3 {j : Nat} {A : AS} {h : PH} (hL : Ln ≤ 3584) (hj : 7 * j + 7 ≤ Ln) (S : St h A) (kk : ∀ A' h', St h' A' → J mL_law room_1 [] (ZW Ln xs) 1332 (LW j) [] SHF h') : J mL_law room_1 [] (ZW Ln xs) 279 (LW j) [] SHF h := by
  obtain ⟨hG, ⟨p, hX⟩, hM, hW⟩ := id S
  refine J_aload_n dL_law_279 rfl ?_
  refine J_arg (k := 1) dL_law_280 dL_law_281 dL_law_282 dL_law_283 dL_law_284 (by omega) hL ?_
  refine J_cWI (ci := 9) (c := 0) (as := [pI (xs (7 * j + 1))]) (st := []) dL_law_285 lL_28 okX9_fault vX9_fault s0 (by decide) rfl rfl rfl (Nat.le_of_ble_eq_true rfl) ⟨Nat.le_of_ble_eq_true rfl, Nat.le_of_ble_eq_true rfl⟩ crW (c_X9_fault hG hX hW) (fun v h1 q1 => ?_)
  obtain ⟨e1, q1⟩ := q1
  have q1 := XP.q q1 hG
  have G1 := q1.2.2
  have M1 := hM.far q1.2.1
  refine J_aload_n dL_law_288 rfl ?_
  refine J_arg (k := 1) dL_law_289 dL_law_290 dL_law_291 dL_law_292 dL_law_293 (by omega) hL ?_
  refine J_cWI (ci := 10) (c := 158) (as := [pI (xs (7 * j + 1))]) (st := [pI v]) dL_law_294 lL_31 okX10_fault vX10_fault s158 (by decide) rfl rfl rfl (Nat.le_of_ble_eq_true rfl) ⟨Nat.le_of_ble_eq_true rfl, Nat.le_of_ble_eq_true rfl⟩ crW (c_X10_fault G1 M1 hW) (fun w h2 q2 => ?_)
  obtain ⟨e2, q2⟩ := q2
  exact J_icmp_eq dL_law_297 (fun _ => kk _ _ (S.next q1 q2 hW)) (fun z => absurd (e1.trans e2.symm) z)
theorem law_c4 {j : Nat} {A : AS} {h : PH} (hL : Ln ≤ 3584) (hj : 7 * j + 7 ≤ Ln) (S : St h A) (kk : ∀ A' h', St h' A' → J mL_law room_1 [] (ZW Ln xs) 1332 (LW j) [] SHF h') : J mL_law room_1 [] (ZW Ln xs) 302 (LW j) [] SHF h := by
  obtain ⟨hG, ⟨p, hX⟩, hM, hW⟩ := id S
  refine J_aload_n dL_law_302 rfl ?_
  refine J_arg (k := 1) dL_law_303 dL_law_304 dL_law_305 dL_law_306 dL_law_307 (by omega) hL ?_
  refine J_cWI (ci := 9) (c := 0) (as := [pI (xs (7 * j + 1))]) (st := []) dL_law_308 lL_32 okX9_told vX9_told s0 (by decide) rfl rfl rfl (Nat.le_of_ble_eq_true rfl) ⟨Nat.le_of_ble_eq_true rfl, Nat.le_of_ble_eq_true rfl⟩ crW (c_X9_told hG hX hW) (fun v h1 q1 => ?_)
  obtain ⟨e1, q1⟩ := q1
  have q1 := XP.q q1 hG
  have G1 := q1.2.2
  have M1 := hM.far q1.2.1
  refine J_aload_n dL_law_311 rfl ?_
  refine J_arg (k := 1) dL_law_312 dL_law_313 dL_law_314 dL_law_315 dL_law_316 (by omega) hL ?_
  refine J_cWI (ci := 10) (c := 158) (as := [pI (xs (7 * j + 1))]) (st := [pI v]) dL_law_317 lL_35 okX10_told vX10_told s158 (by decide) rfl rfl rfl (Nat.le_of_ble_eq_true rfl) ⟨Nat.le_of_ble_eq_true rfl, Nat.le_of_ble_eq_true rfl⟩ crW (c_X10_told G1 M1 hW) (fun w h2 q2 => ?_)
  obtain ⟨e2, q2⟩ := q2
  exact J_icmp_eq dL_law_320 (fun _ => kk _ _ (S.next q1 q2 hW)) (fun z => absurd (e1.trans e2.symm) z)
theorem law_c5 {j : Nat} {A : AS} {h : PH} (hL : Ln ≤ 3584) (hj : 7 * j + 7 ≤ Ln) (S : St h A) (kk : ∀ A' h', St h' A' → J mL_law room_1 [] (ZW Ln xs) 1332 (LW j) [] SHF h') : J mL_law room_1 [] (ZW Ln xs) 325 (LW j) [] SHF h := by
  obtain ⟨hG, ⟨p, hX⟩, hM, hW⟩ := id S
  refine J_aload_n dL_law_325 rfl ?_
  refine J_arg (k := 1) dL_law_326 dL_law_327 dL_law_328 dL_law_329 dL_law_330 (by omega) hL ?_
  refine J_arg (k := 2) dL_law_331 dL_law_332 dL_law_333 dL_law_334 dL_law_335 (by omega) hL ?_
  refine J_arg (k := 3) dL_law_336 dL_law_337 dL_law_338 dL_law_339 dL_law_340 (by omega) hL ?_
  refine J_cWI (ci := 9) (c := 0) (as := [pI (xs (7 * j + 1)), pI (xs (7 * j + 2)), pI (xs (7 * j + 3))]) (st := []) dL_law_341 lL_36 okX9_wants vX9_wants s0 (by decide) rfl rfl rfl (Nat.le_of_ble_eq_true rfl) ⟨Nat.le_of_ble_eq_true rfl, Nat.le_of_ble_eq_true rfl⟩ crW (c_X9_wants hG hX hW) (fun v h1 q1 => ?_)
  obtain ⟨e1, q1⟩ := q1
  have q1 := XP.q q1 hG
  have G1 := q1.2.2
  have M1 := hM.far q1.2.1
  refine J_aload_n dL_law_344 rfl ?_
  refine J_arg (k := 1) dL_law_345 dL_law_346 dL_law_347 dL_law_348 dL_law_349 (by omega) hL ?_
  refine J_arg (k := 2) dL_law_350 dL_law_351 dL_law_352 dL_law_353 dL_law_354 (by omega) hL ?_
  refine J_arg (k := 3) dL_law_355 dL_law_356 dL_law_357 dL_law_358 dL_law_359 (by omega) hL ?_
  refine J_cWI (ci := 10) (c := 158) (as := [pI (xs (7 * j + 1)), pI (xs (7 * j + 2)), pI (xs (7 * j + 3))]) (st := [pI v]) dL_law_360 lL_40 okX10_wants vX10_wants s158 (by decide) rfl rfl rfl (Nat.le_of_ble_eq_true rfl) ⟨Nat.le_of_ble_eq_true rfl, Nat.le_of_ble_eq_true rfl⟩ crW (c_X10_wants G1 M1 hW) (fun w h2 q2 => ?_)
  obtain ⟨e2, q2⟩ := q2
  exact J_icmp_eq dL_law_363 (fun _ => kk _ _ (S.next q1 q2 hW)) (fun z => absurd (e1.trans e2.symm) z)
theorem law_c6 {j : Nat} {A : AS} {h : PH} (hL : Ln ≤ 3584) (hj : 7 * j + 7 ≤ Ln) (S : St h A) (kk : ∀ A' h', St h' A' → J mL_law room_1 [] (ZW Ln xs) 1332 (LW j) [] SHF h') : J mL_law room_1 [] (ZW Ln xs) 368 (LW j) [] SHF h := by
  obtain ⟨hG, ⟨p, hX⟩, hM, hW⟩ := id S
  refine J_aload_n dL_law_368 rfl ?_
  refine J_arg (k := 1) dL_law_369 dL_law_370 dL_law_371 dL_law_372 dL_law_373 (by omega) hL ?_
  refine J_arg (k := 2) dL_law_374 dL_law_375 dL_law_376 dL_law_377 dL_law_378 (by omega) hL ?_
  refine J_cWI (ci := 9) (c := 0) (as := [pI (xs (7 * j + 1)), pI (xs (7 * j + 2))]) (st := []) dL_law_379 lL_41 okX9_signs vX9_signs s0 (by decide) rfl rfl rfl (Nat.le_of_ble_eq_true rfl) ⟨Nat.le_of_ble_eq_true rfl, Nat.le_of_ble_eq_true rfl⟩ crW (c_X9_signs hG hX hW) (fun v h1 q1 => ?_)
  obtain ⟨e1, q1⟩ := q1
  have q1 := XP.q q1 hG
  have G1 := q1.2.2
  have M1 := hM.far q1.2.1
  refine J_aload_n dL_law_382 rfl ?_
  refine J_arg (k := 1) dL_law_383 dL_law_384 dL_law_385 dL_law_386 dL_law_387 (by omega) hL ?_
  refine J_arg (k := 2) dL_law_388 dL_law_389 dL_law_390 dL_law_391 dL_law_392 (by omega) hL ?_
  refine J_cWI (ci := 10) (c := 158) (as := [pI (xs (7 * j + 1)), pI (xs (7 * j + 2))]) (st := [pI v]) dL_law_393 lL_45 okX10_signs vX10_signs s158 (by decide) rfl rfl rfl (Nat.le_of_ble_eq_true rfl) ⟨Nat.le_of_ble_eq_true rfl, Nat.le_of_ble_eq_true rfl⟩ crW (c_X10_signs G1 M1 hW) (fun w h2 q2 => ?_)
  obtain ⟨e2, q2⟩ := q2
  exact J_icmp_eq dL_law_396 (fun _ => kk _ _ (S.next q1 q2 hW)) (fun z => absurd (e1.trans e2.symm) z)
theorem law_c7 {j : Nat} {A : AS} {h : PH} (hL : Ln ≤ 3584) (hj : 7 * j + 7 ≤ Ln) (S : St h A) (kk : ∀ A' h', St h' A' → J mL_law room_1 [] (ZW Ln xs) 1332 (LW j) [] SHF h') : J mL_law room_1 [] (ZW Ln xs) 401 (LW j) [] SHF h := by
  obtain ⟨hG, ⟨p, hX⟩, hM, hW⟩ := id S
  refine J_aload_n dL_law_401 rfl ?_
  refine J_arg (k := 1) dL_law_402 dL_law_403 dL_law_404 dL_law_405 dL_law_406 (by omega) hL ?_
  refine J_arg (k := 2) dL_law_407 dL_law_408 dL_law_409 dL_law_410 dL_law_411 (by omega) hL ?_
  refine J_arg (k := 3) dL_law_412 dL_law_413 dL_law_414 dL_law_415 dL_law_416 (by omega) hL ?_
  refine J_cWI (ci := 9) (c := 0) (as := [pI (xs (7 * j + 1)), pI (xs (7 * j + 2)), pI (xs (7 * j + 3))]) (st := []) dL_law_417 lL_46 okX9_rule vX9_rule s0 (by decide) rfl rfl rfl (Nat.le_of_ble_eq_true rfl) ⟨Nat.le_of_ble_eq_true rfl, Nat.le_of_ble_eq_true rfl⟩ crW (c_X9_rule hG hX hW) (fun v h1 q1 => ?_)
  obtain ⟨e1, q1⟩ := q1
  have q1 := XP.q q1 hG
  have G1 := q1.2.2
  have M1 := hM.far q1.2.1
  refine J_aload_n dL_law_420 rfl ?_
  refine J_arg (k := 1) dL_law_421 dL_law_422 dL_law_423 dL_law_424 dL_law_425 (by omega) hL ?_
  refine J_arg (k := 2) dL_law_426 dL_law_427 dL_law_428 dL_law_429 dL_law_430 (by omega) hL ?_
  refine J_arg (k := 3) dL_law_431 dL_law_432 dL_law_433 dL_law_434 dL_law_435 (by omega) hL ?_
  refine J_cWI (ci := 10) (c := 158) (as := [pI (xs (7 * j + 1)), pI (xs (7 * j + 2)), pI (xs (7 * j + 3))]) (st := [pI v]) dL_law_436 lL_49 okX10_rule vX10_rule s158 (by decide) rfl rfl rfl (Nat.le_of_ble_eq_true rfl) ⟨Nat.le_of_ble_eq_true rfl, Nat.le_of_ble_eq_true rfl⟩ crW (c_X10_rule G1 M1 hW) (fun w h2 q2 => ?_)
  obtain ⟨e2, q2⟩ := q2
  exact J_icmp_eq dL_law_439 (fun _ => kk _ _ (S.next q1 q2 hW.rule)) (fun z => absurd (e1.trans e2.symm) z)
theorem law_c8 {j : Nat} {A : AS} {h : PH} (hL : Ln ≤ 3584) (hj : 7 * j + 7 ≤ Ln) (S : St h A) (kk : ∀ A' h', St h' A' → J mL_law room_1 [] (ZW Ln xs) 1332 (LW j) [] SHF h') : J mL_law room_1 [] (ZW Ln xs) 444 (LW j) [] SHF h := by
  obtain ⟨hG, ⟨p, hX⟩, hM, hW⟩ := id S
  refine J_aload_n dL_law_444 rfl ?_
  refine J_arg (k := 1) dL_law_445 dL_law_446 dL_law_447 dL_law_448 dL_law_449 (by omega) hL ?_
  refine J_arg (k := 2) dL_law_450 dL_law_451 dL_law_452 dL_law_453 dL_law_454 (by omega) hL ?_
  refine J_arg (k := 3) dL_law_455 dL_law_456 dL_law_457 dL_law_458 dL_law_459 (by omega) hL ?_
  refine J_arg (k := 4) dL_law_460 dL_law_461 dL_law_462 dL_law_463 dL_law_464 (by omega) hL ?_
  refine J_cWL (ci := 9) (c := 0) (as := [pI (xs (7 * j + 1)), pI (xs (7 * j + 2)), pI (xs (7 * j + 3)), pI (xs (7 * j + 4))]) (st := []) dL_law_465 lL_50 okX9_means vX9_means s0 (by decide) rfl rfl rfl (Nat.le_of_ble_eq_true rfl) ⟨Nat.le_of_ble_eq_true rfl, Nat.le_of_ble_eq_true rfl⟩ crW (c_X9_means hG hX hW) (fun v h1 q1 => ?_)
  obtain ⟨e1, q1⟩ := q1
  have q1 := XP.q q1 hG
  have G1 := q1.2.2
  have M1 := hM.far q1.2.1
  refine J_aload_n dL_law_468 rfl ?_
  refine J_arg (k := 1) dL_law_469 dL_law_470 dL_law_471 dL_law_472 dL_law_473 (by omega) hL ?_
  refine J_arg (k := 2) dL_law_474 dL_law_475 dL_law_476 dL_law_477 dL_law_478 (by omega) hL ?_
  refine J_arg (k := 3) dL_law_479 dL_law_480 dL_law_481 dL_law_482 dL_law_483 (by omega) hL ?_
  refine J_arg (k := 4) dL_law_484 dL_law_485 dL_law_486 dL_law_487 dL_law_488 (by omega) hL ?_
  refine J_cWL (ci := 10) (c := 158) (as := [pI (xs (7 * j + 1)), pI (xs (7 * j + 2)), pI (xs (7 * j + 3)), pI (xs (7 * j + 4))]) (st := [pL v]) dL_law_489 lL_54 okX10_means vX10_means s158 (by decide) rfl rfl rfl (Nat.le_of_ble_eq_true rfl) ⟨Nat.le_of_ble_eq_true rfl, Nat.le_of_ble_eq_true rfl⟩ crW (c_X10_means G1 M1 hW) (fun w h2 q2 => ?_)
  obtain ⟨e2, q2⟩ := q2
  refine J_lcmp dL_law_492 ?_
  exact J_lif_eq dL_law_493 (fun _ => kk _ _ (S.next q1 q2 hW)) (fun z => absurd (e1.trans e2.symm) z)
theorem law_c9 {j : Nat} {A : AS} {h : PH} (hL : Ln ≤ 3584) (hj : 7 * j + 7 ≤ Ln) (S : St h A) (kk : ∀ A' h', St h' A' → J mL_law room_1 [] (ZW Ln xs) 1332 (LW j) [] SHF h') : J mL_law room_1 [] (ZW Ln xs) 498 (LW j) [] SHF h := by
  obtain ⟨hG, ⟨p, hX⟩, hM, hW⟩ := id S
  refine J_aload_n dL_law_498 rfl ?_
  refine J_arg (k := 1) dL_law_499 dL_law_500 dL_law_501 dL_law_502 dL_law_503 (by omega) hL ?_
  refine J_arg (k := 2) dL_law_504 dL_law_505 dL_law_506 dL_law_507 dL_law_508 (by omega) hL ?_
  refine J_arg (k := 3) dL_law_509 dL_law_510 dL_law_511 dL_law_512 dL_law_513 (by omega) hL ?_
  refine J_cWL (ci := 9) (c := 0) (as := [pI (xs (7 * j + 1)), pI (xs (7 * j + 2)), pI (xs (7 * j + 3))]) (st := []) dL_law_514 lL_55 okX9_score vX9_score s0 (by decide) rfl rfl rfl (Nat.le_of_ble_eq_true rfl) ⟨Nat.le_of_ble_eq_true rfl, Nat.le_of_ble_eq_true rfl⟩ crW (c_X9_score hG hX hW) (fun v h1 q1 => ?_)
  obtain ⟨e1, q1⟩ := q1
  have q1 := XP.q q1 hG
  have G1 := q1.2.2
  have M1 := hM.far q1.2.1
  refine J_aload_n dL_law_517 rfl ?_
  refine J_arg (k := 1) dL_law_518 dL_law_519 dL_law_520 dL_law_521 dL_law_522 (by omega) hL ?_
  refine J_arg (k := 2) dL_law_523 dL_law_524 dL_law_525 dL_law_526 dL_law_527 (by omega) hL ?_
  refine J_arg (k := 3) dL_law_528 dL_law_529 dL_law_530 dL_law_531 dL_law_532 (by omega) hL ?_
  refine J_cWL (ci := 10) (c := 158) (as := [pI (xs (7 * j + 1)), pI (xs (7 * j + 2)), pI (xs (7 * j + 3))]) (st := [pL v]) dL_law_533 lL_59 okX10_score vX10_score s158 (by decide) rfl rfl rfl (Nat.le_of_ble_eq_true rfl) ⟨Nat.le_of_ble_eq_true rfl, Nat.le_of_ble_eq_true rfl⟩ crW (c_X10_score G1 M1 hW) (fun w h2 q2 => ?_)
  obtain ⟨e2, q2⟩ := q2
  refine J_lcmp dL_law_536 ?_
  exact J_lif_eq dL_law_537 (fun _ => kk _ _ (S.next q1 q2 hW)) (fun z => absurd (e1.trans e2.symm) z)
theorem law_c10 {j : Nat} {A : AS} {h : PH} (hL : Ln ≤ 3584) (hj : 7 * j + 7 ≤ Ln) (S : St h A) (kk : ∀ A' h', St h' A' → J mL_law room_1 [] (ZW Ln xs) 1332 (LW j) [] SHF h') : J mL_law room_1 [] (ZW Ln xs) 542 (LW j) [] SHF h := by
  obtain ⟨hG, ⟨p, hX⟩, hM, hW⟩ := id S
  refine J_aload_n dL_law_542 rfl ?_
  refine J_arg (k := 1) dL_law_543 dL_law_544 dL_law_545 dL_law_546 dL_law_547 (by omega) hL ?_
  refine J_arg (k := 2) dL_law_548 dL_law_549 dL_law_550 dL_law_551 dL_law_552 (by omega) hL ?_
  refine J_arg (k := 3) dL_law_553 dL_law_554 dL_law_555 dL_law_556 dL_law_557 (by omega) hL ?_
  refine J_arg (k := 4) dL_law_558 dL_law_559 dL_law_560 dL_law_561 dL_law_562 (by omega) hL ?_
  refine J_bool dL_law_563 dL_law_566 dL_law_567 dL_law_570 ?_
  refine J_cWL (ci := 9) (c := 0) (as := [pI (xs (7 * j + 1)), pI (xs (7 * j + 2)), pI (xs (7 * j + 3)), pI (nI (bz (xs (7 * j + 4))))]) (st := []) dL_law_571 lL_60 okX9_safe vX9_safe s0 (by decide) rfl rfl rfl (Nat.le_of_ble_eq_true rfl) ⟨Nat.le_of_ble_eq_true rfl, Nat.le_of_ble_eq_true rfl⟩ crW (c_X9_safe hG hX hW bz_lt) (fun v h1 q1 => ?_)
  obtain ⟨e1, q1⟩ := q1
  have q1 := XP.q q1 hG
  have G1 := q1.2.2
  have M1 := hM.far q1.2.1
  refine J_aload_n dL_law_574 rfl ?_
  refine J_arg (k := 1) dL_law_575 dL_law_576 dL_law_577 dL_law_578 dL_law_579 (by omega) hL ?_
  refine J_arg (k := 2) dL_law_580 dL_law_581 dL_law_582 dL_law_583 dL_law_584 (by omega) hL ?_
  refine J_arg (k := 3) dL_law_585 dL_law_586 dL_law_587 dL_law_588 dL_law_589 (by omega) hL ?_
  refine J_arg (k := 4) dL_law_590 dL_law_591 dL_law_592 dL_law_593 dL_law_594 (by omega) hL ?_
  refine J_bool dL_law_595 dL_law_598 dL_law_599 dL_law_602 ?_
  refine J_cWL (ci := 10) (c := 158) (as := [pI (xs (7 * j + 1)), pI (xs (7 * j + 2)), pI (xs (7 * j + 3)), pI (nI (bz (xs (7 * j + 4))))]) (st := [pL v]) dL_law_603 lL_64 okX10_safe vX10_safe s158 (by decide) rfl rfl rfl (Nat.le_of_ble_eq_true rfl) ⟨Nat.le_of_ble_eq_true rfl, Nat.le_of_ble_eq_true rfl⟩ crW (c_X10_safe G1 M1 hW bz_lt) (fun w h2 q2 => ?_)
  obtain ⟨e2, q2⟩ := q2
  refine J_lcmp dL_law_606 ?_
  exact J_lif_eq dL_law_607 (fun _ => kk _ _ (S.next q1 q2 hW)) (fun z => absurd (e1.trans e2.symm) z)
end JX
