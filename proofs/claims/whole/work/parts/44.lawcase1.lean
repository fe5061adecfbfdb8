theorem walkC0 {X : Ctx} {aM : Nat → Nat} {b L : Nat} {xs : Nat → Int32} {z : Mem × Mem} (hX : FL X aM b L xs) {i : Int32} {v : Nat → Int32} (hv : VI L xs i v) (N : Nat) (μ ν : Mem) {k n : Nat} (hk : k + 8 ≤ room_1.cells) (hn : n + 48 ≤ room_1.slots) (hC : CL X aM z [(0, .ref b), (1, .ref (cx_ad X 0)), (2, .ref (aM 0)), (3, .ref (cx_ad X 90)), (4, .int i)] (k + 8) (n + 48)) : GL X aM z 216 [(0, .ref b), (1, .ref (cx_ad X 0)), (2, .ref (aM 0)), (3, .ref (cx_ad X 90)), (4, .int i)] [] μ ν k n (lawC0 N v μ ν) := by
  unfold lawC0
  refine L_aload_n hX 1 rfl rfl dL_law_216 ?_
  refine L_aload_n hX 0 rfl rfl dL_law_217 ?_
  refine L_iload hX 4 rfl dL_law_218 ?_
  refine L_iconst hX (1 : Int32) rfl dL_law_220 ?_
  refine L_iadd hX dL_law_221 ?_
  refine L_sv hX hv 1 (by decide) rfl dL_law_222 ?_
  refine L_aload_n hX 0 rfl rfl dL_law_223 ?_
  refine L_iload hX 4 rfl dL_law_224 ?_
  refine L_iconst hX (2 : Int32) rfl dL_law_226 ?_
  refine L_iadd hX dL_law_227 ?_
  refine L_sv hX hv 2 (by decide) rfl dL_law_228 ?_
  refine L_aload_n hX 0 rfl rfl dL_law_229 ?_
  refine L_iload hX 4 rfl dL_law_230 ?_
  refine L_iconst hX (3 : Int32) rfl dL_law_232 ?_
  refine L_iadd hX dL_law_233 ?_
  refine L_sv hX hv 3 (by decide) rfl dL_law_234 ?_
  refine L_aload_n hX 0 rfl rfl dL_law_235 ?_
  refine L_iload hX 4 rfl dL_law_236 ?_
  refine L_iconst hX (4 : Int32) rfl dL_law_238 ?_
  refine L_iadd hX dL_law_239 ?_
  refine L_sv hX hv 4 (by decide) rfl dL_law_240 ?_
  refine L_aload_n hX 0 rfl rfl dL_law_241 ?_
  refine L_iload hX 4 rfl dL_law_242 ?_
  refine L_iconst hX (5 : Int32) rfl dL_law_244 ?_
  refine L_iadd hX dL_law_245 ?_
  refine L_sv hX hv 5 (by decide) rfl dL_law_246 ?_
  refine L_cCi hX 10 (fun ad adK => [.int (v 1), .int (v 2), .int (v 3), .int (v 4), .int (v 5)]) [] (fun z2 h2 => cX10_feed_ok (cx_l X) N (v 1) (v 2) (v 3) (v 4) (v 5) μ z2 h2) ok_X10_feed lm_L_135 rfl rfl rfl (fun _ _ => rfl) (Nat.le_of_ble_eq_true rfl) ⟨rfl, rfl, Nat.le_of_ble_eq_true rfl, Nat.le_of_ble_eq_true rfl⟩ ⟨by omega, by omega⟩ dL_law_247 (fun r1 μ2 => ?_)
  refine L_aload_n hX 2 rfl rfl dL_law_250 ?_
  refine L_aload_n hX 0 rfl rfl dL_law_251 ?_
  refine L_iload hX 4 rfl dL_law_252 ?_
  refine L_iconst hX (1 : Int32) rfl dL_law_254 ?_
  refine L_iadd hX dL_law_255 ?_
  refine L_sv hX hv 1 (by decide) rfl dL_law_256 ?_
  refine L_aload_n hX 0 rfl rfl dL_law_257 ?_
  refine L_iload hX 4 rfl dL_law_258 ?_
  refine L_iconst hX (2 : Int32) rfl dL_law_260 ?_
  refine L_iadd hX dL_law_261 ?_
  refine L_sv hX hv 2 (by decide) rfl dL_law_262 ?_
  refine L_aload_n hX 0 rfl rfl dL_law_263 ?_
  refine L_iload hX 4 rfl dL_law_264 ?_
  refine L_iconst hX (3 : Int32) rfl dL_law_266 ?_
  refine L_iadd hX dL_law_267 ?_
  refine L_sv hX hv 3 (by decide) rfl dL_law_268 ?_
  refine L_aload_n hX 0 rfl rfl dL_law_269 ?_
  refine L_iload hX 4 rfl dL_law_270 ?_
  refine L_iconst hX (4 : Int32) rfl dL_law_272 ?_
  refine L_iadd hX dL_law_273 ?_
  refine L_sv hX hv 4 (by decide) rfl dL_law_274 ?_
  refine L_aload_n hX 0 rfl rfl dL_law_275 ?_
  refine L_iload hX 4 rfl dL_law_276 ?_
  refine L_iconst hX (5 : Int32) rfl dL_law_278 ?_
  refine L_iadd hX dL_law_279 ?_
  refine L_sv hX hv 5 (by decide) rfl dL_law_280 ?_
  refine L_cMi hX 11 (fun ad adK => [.int (v 1), .int (v 2), .int (v 3), .int (v 4), .int (v 5)]) [.int r1] (fun z2 h2 => cX11_feed_ok (cx_l X) N (v 1) (v 2) (v 3) (v 4) (v 5) ν z2 h2) ok_X11_feed lm_L_139 rfl rfl rfl (fun _ _ => rfl) (Nat.le_of_ble_eq_true rfl) ⟨rfl, rfl, Nat.le_of_ble_eq_true rfl, Nat.le_of_ble_eq_true rfl⟩ ⟨by omega, by omega⟩ dL_law_281 (fun r3 ν4 => ?_)
  refine L_icmp_eq hX 2715 rfl dL_law_284 ?_ ?_
  · skip
    exact L_end hC [0, 1, 2, 3, 4] rfl ⟨by omega, by omega⟩
  · skip
    exact L_none
theorem walkC1 {X : Ctx} {aM : Nat → Nat} {b L : Nat} {xs : Nat → Int32} {z : Mem × Mem} (hX : FL X aM b L xs) {i : Int32} {v : Nat → Int32} (hv : VI L xs i v) (N : Nat) (μ ν : Mem) {k n : Nat} (hk : k + 8 ≤ room_1.cells) (hn : n + 48 ≤ room_1.slots) (hC : CL X aM z [(0, .ref b), (1, .ref (cx_ad X 0)), (2, .ref (aM 0)), (3, .ref (cx_ad X 90)), (4, .int i)] (k + 8) (n + 48)) : GL X aM z 289 [(0, .ref b), (1, .ref (cx_ad X 0)), (2, .ref (aM 0)), (3, .ref (cx_ad X 90)), (4, .int i)] [] μ ν k n (lawC1 N v μ ν) := by
  unfold lawC1
  refine L_aload_n hX 1 rfl rfl dL_law_289 ?_
  refine L_aload_n hX 0 rfl rfl dL_law_290 ?_
  refine L_iload hX 4 rfl dL_law_291 ?_
  refine L_iconst hX (1 : Int32) rfl dL_law_293 ?_
  refine L_iadd hX dL_law_294 ?_
  refine L_sv hX hv 1 (by decide) rfl dL_law_295 ?_
  refine L_cCi hX 10 (fun ad adK => [.int (v 1)]) [] (fun z2 h2 => cX10_end_ok (cx_l X) N (v 1) μ z2 h2) ok_X10_end lm_L_140 rfl rfl rfl (fun _ _ => rfl) (Nat.le_of_ble_eq_true rfl) ⟨rfl, rfl, Nat.le_of_ble_eq_true rfl, Nat.le_of_ble_eq_true rfl⟩ ⟨by omega, by omega⟩ dL_law_296 (fun r1 μ2 => ?_)
  refine L_aload_n hX 2 rfl rfl dL_law_299 ?_
  refine L_aload_n hX 0 rfl rfl dL_law_300 ?_
  refine L_iload hX 4 rfl dL_law_301 ?_
  refine L_iconst hX (1 : Int32) rfl dL_law_303 ?_
  refine L_iadd hX dL_law_304 ?_
  refine L_sv hX hv 1 (by decide) rfl dL_law_305 ?_
  refine L_cMi hX 11 (fun ad adK => [.int (v 1)]) [.int r1] (fun z2 h2 => cX11_end_ok (cx_l X) N (v 1) ν z2 h2) ok_X11_end lm_L_143 rfl rfl rfl (fun _ _ => rfl) (Nat.le_of_ble_eq_true rfl) ⟨rfl, rfl, Nat.le_of_ble_eq_true rfl, Nat.le_of_ble_eq_true rfl⟩ ⟨by omega, by omega⟩ dL_law_306 (fun r3 ν4 => ?_)
  refine L_icmp_eq hX 2715 rfl dL_law_309 ?_ ?_
  · skip
    exact L_end hC [0, 1, 2, 3, 4] rfl ⟨by omega, by omega⟩
  · skip
    exact L_none
theorem walkC2 {X : Ctx} {aM : Nat → Nat} {b L : Nat} {xs : Nat → Int32} {z : Mem × Mem} (hX : FL X aM b L xs) {i : Int32} {v : Nat → Int32} (hv : VI L xs i v) (N : Nat) (μ ν : Mem) {k n : Nat} (hk : k + 8 ≤ room_1.cells) (hn : n + 48 ≤ room_1.slots) (hC : CL X aM z [(0, .ref b), (1, .ref (cx_ad X 0)), (2, .ref (aM 0)), (3, .ref (cx_ad X 90)), (4, .int i)] (k + 8) (n + 48)) : GL X aM z 314 [(0, .ref b), (1, .ref (cx_ad X 0)), (2, .ref (aM 0)), (3, .ref (cx_ad X 90)), (4, .int i)] [] μ ν k n (lawC2 N v μ ν) := by
  unfold lawC2
  refine L_aload_n hX 1 rfl rfl dL_law_314 ?_
  refine L_aload_n hX 3 rfl rfl dL_law_315 ?_
  refine L_h hX (fun ad adK => [.ref (ad 0), .ref (ad 90)]) [] (fun z2 h2 => cL_read_ok (cx_l X) hX.2.2.2.2.2.2.2.2.2.2.2.2 N μ z2 h2) okh_L_read lm_L_144 rfl (fun _ _ => rfl) (Nat.le_of_ble_eq_true rfl) ⟨rfl, rfl, Nat.le_of_ble_eq_true rfl, Nat.le_of_ble_eq_true rfl⟩ ⟨by omega, by omega⟩ dL_law_316 (fun r1 μ2 => ?_)
  refine L_istore hX [(5, .int r1), (0, .ref b), (1, .ref (cx_ad X 0)), (2, .ref (aM 0)), (3, .ref (cx_ad X 90)), (4, .int i)] (by decide) rfl dL_law_319 ?_
  refine L_aload_n hX 3 rfl rfl dL_law_321 ?_
  refine L_cMi hX 11 (fun ad adK => []) [] (fun z2 h2 => cX11_read_ok (cx_l X) N ν z2 h2) ok_X11_read lm_L_149 rfl rfl rfl (fun _ _ => rfl) (Nat.le_of_ble_eq_true rfl) ⟨rfl, rfl, Nat.le_of_ble_eq_true rfl, Nat.le_of_ble_eq_true rfl⟩ ⟨by omega, by omega⟩ dL_law_322 (fun r3 ν4 => ?_)
  refine L_istore hX [(6, .int r3), (5, .int r1), (0, .ref b), (1, .ref (cx_ad X 0)), (2, .ref (aM 0)), (3, .ref (cx_ad X 90)), (4, .int i)] (by decide) rfl dL_law_325 ?_
  refine L_aload_n hX 4 rfl rfl dL_law_327 ?_
  refine L_cMi hX 11 (fun ad adK => []) [] (fun z2 h2 => cX11_thrown_ok (cx_l X) N ν4 z2 h2) ok_X11_thrown lm_L_150 rfl rfl rfl (fun _ _ => rfl) (Nat.le_of_ble_eq_true rfl) ⟨rfl, rfl, Nat.le_of_ble_eq_true rfl, Nat.le_of_ble_eq_true rfl⟩ ⟨by omega, by omega⟩ dL_law_328 (fun r5 ν6 => ?_)
  refine L_iload hX 1 rfl dL_law_331 ?_
  refine L_icmp_eq hX 338 rfl dL_law_333 ?_ ?_
  · skip
    refine L_iload hX 1 rfl dL_law_338 ?_
    refine L_if_ne hX 355 rfl dL_law_340 ?_ ?_
    · skip
      refine L_goto hX 2715 rfl dL_law_355 ?_
      exact L_end hC [2, 3, 4, 5, 6] rfl ⟨by omega, by omega⟩
    · skip
      refine L_aload_n hX 5 rfl rfl dL_law_343 ?_
      refine L_iconst hX (0 : Int32) rfl dL_law_344 ?_
      refine L_outn hX dL_law_345 (fun y7 => ?_)
      refine L_iload hX 0 rfl dL_law_346 ?_
      refine L_i2l hX dL_law_348 ?_
      refine L_lcmp hX dL_law_349 ?_
      refine L_if_eq hX 355 rfl dL_law_350 ?_ ?_
      · skip
        refine L_goto hX 2715 rfl dL_law_355 ?_
        exact L_end hC [2, 3, 4, 5, 6] rfl ⟨by omega, by omega⟩
      · skip
        exact L_none
  · skip
    exact L_none
theorem walkC3 {X : Ctx} {aM : Nat → Nat} {b L : Nat} {xs : Nat → Int32} {z : Mem × Mem} (hX : FL X aM b L xs) {i : Int32} {v : Nat → Int32} (hv : VI L xs i v) (N : Nat) (μ ν : Mem) {k n : Nat} (hk : k + 8 ≤ room_1.cells) (hn : n + 48 ≤ room_1.slots) (hC : CL X aM z [(0, .ref b), (1, .ref (cx_ad X 0)), (2, .ref (aM 0)), (3, .ref (cx_ad X 90)), (4, .int i)] (k + 8) (n + 48)) : GL X aM z 358 [(0, .ref b), (1, .ref (cx_ad X 0)), (2, .ref (aM 0)), (3, .ref (cx_ad X 90)), (4, .int i)] [] μ ν k n (lawC3 N v μ ν) := by
  unfold lawC3
  refine L_aload_n hX 1 rfl rfl dL_law_358 ?_
  refine L_cCi hX 10 (fun ad adK => []) [] (fun z2 h2 => cX10_fault_ok (cx_l X) N μ z2 h2) ok_X10_fault lm_L_153 rfl rfl rfl (fun _ _ => rfl) (Nat.le_of_ble_eq_true rfl) ⟨rfl, rfl, Nat.le_of_ble_eq_true rfl, Nat.le_of_ble_eq_true rfl⟩ ⟨by omega, by omega⟩ dL_law_359 (fun r1 μ2 => ?_)
  refine L_aload_n hX 2 rfl rfl dL_law_362 ?_
  refine L_cMi hX 11 (fun ad adK => []) [.int r1] (fun z2 h2 => cX11_fault_ok (cx_l X) N ν z2 h2) ok_X11_fault lm_L_156 rfl rfl rfl (fun _ _ => rfl) (Nat.le_of_ble_eq_true rfl) ⟨rfl, rfl, Nat.le_of_ble_eq_true rfl, Nat.le_of_ble_eq_true rfl⟩ ⟨by omega, by omega⟩ dL_law_363 (fun r3 ν4 => ?_)
  refine L_icmp_eq hX 2715 rfl dL_law_366 ?_ ?_
  · skip
    exact L_end hC [0, 1, 2, 3, 4] rfl ⟨by omega, by omega⟩
  · skip
    exact L_none
theorem walkC4 {X : Ctx} {aM : Nat → Nat} {b L : Nat} {xs : Nat → Int32} {z : Mem × Mem} (hX : FL X aM b L xs) {i : Int32} {v : Nat → Int32} (hv : VI L xs i v) (N : Nat) (μ ν : Mem) {k n : Nat} (hk : k + 8 ≤ room_1.cells) (hn : n + 48 ≤ room_1.slots) (hC : CL X aM z [(0, .ref b), (1, .ref (cx_ad X 0)), (2, .ref (aM 0)), (3, .ref (cx_ad X 90)), (4, .int i)] (k + 8) (n + 48)) : GL X aM z 371 [(0, .ref b), (1, .ref (cx_ad X 0)), (2, .ref (aM 0)), (3, .ref (cx_ad X 90)), (4, .int i)] [] μ ν k n (lawC4 N v μ ν) := by
  unfold lawC4
  refine L_aload_n hX 1 rfl rfl dL_law_371 ?_
  refine L_aload_n hX 0 rfl rfl dL_law_372 ?_
  refine L_iload hX 4 rfl dL_law_373 ?_
  refine L_iconst hX (1 : Int32) rfl dL_law_375 ?_
  refine L_iadd hX dL_law_376 ?_
  refine L_sv hX hv 1 (by decide) rfl dL_law_377 ?_
  refine L_booln hX dL_law_378 dL_law_381 dL_law_382 dL_law_385 (fun x1 => ?_)
  refine L_aload_n hX 0 rfl rfl dL_law_386 ?_
  refine L_iload hX 4 rfl dL_law_387 ?_
  refine L_iconst hX (2 : Int32) rfl dL_law_389 ?_
  refine L_iadd hX dL_law_390 ?_
  refine L_sv hX hv 2 (by decide) rfl dL_law_391 ?_
  refine L_aload_n hX 0 rfl rfl dL_law_392 ?_
  refine L_iload hX 4 rfl dL_law_393 ?_
  refine L_iconst hX (3 : Int32) rfl dL_law_395 ?_
  refine L_iadd hX dL_law_396 ?_
  refine L_sv hX hv 3 (by decide) rfl dL_law_397 ?_
  refine L_aload_n hX 3 rfl rfl dL_law_398 ?_
  refine L_h hX (fun ad adK => [.ref (ad 0), .int x1, .int (v 2), .int (v 3), .ref (ad 90)]) [] (fun z2 h2 => cL_name_ok (cx_l X) hX.2.2.2.2.2.2.2.2.2.2.2.2 N x1 (v 2) (v 3) μ z2 h2) okh_L_name lm_L_157 rfl (fun _ _ => rfl) (Nat.le_of_ble_eq_true rfl) ⟨rfl, rfl, Nat.le_of_ble_eq_true rfl, Nat.le_of_ble_eq_true rfl⟩ ⟨by omega, by omega⟩ dL_law_399 (fun r2 μ3 => ?_)
  refine L_istore hX [(5, .int r2), (0, .ref b), (1, .ref (cx_ad X 0)), (2, .ref (aM 0)), (3, .ref (cx_ad X 90)), (4, .int i)] (by decide) rfl dL_law_402 ?_
  refine L_aload_n hX 3 rfl rfl dL_law_404 ?_
  refine L_aload_n hX 1 rfl rfl dL_law_405 ?_
  refine L_iload hX 5 rfl dL_law_406 ?_
  refine L_iconst hX (1 : Int32) rfl dL_law_408 ?_
  refine L_iadd hX dL_law_409 ?_
  refine L_sv hX hv 1 (by decide) rfl dL_law_410 ?_
  refine L_booln hX dL_law_411 dL_law_414 dL_law_415 dL_law_418 (fun x4 => ?_)
  refine L_aload_n hX 1 rfl rfl dL_law_419 ?_
  refine L_iload hX 5 rfl dL_law_420 ?_
  refine L_iconst hX (2 : Int32) rfl dL_law_422 ?_
  refine L_iadd hX dL_law_423 ?_
  refine L_sv hX hv 2 (by decide) rfl dL_law_424 ?_
  refine L_aload_n hX 1 rfl rfl dL_law_425 ?_
  refine L_iload hX 5 rfl dL_law_426 ?_
  refine L_iconst hX (3 : Int32) rfl dL_law_428 ?_
  refine L_iadd hX dL_law_429 ?_
  refine L_sv hX hv 3 (by decide) rfl dL_law_430 ?_
  refine L_cMi hX 11 (fun ad adK => [.int x4, .int (v 2), .int (v 3)]) [] (fun z2 h2 => cX11_name_ok (cx_l X) N x4 (v 2) (v 3) ν z2 h2) ok_X11_name lm_L_160 rfl rfl rfl (fun _ _ => rfl) (Nat.le_of_ble_eq_true rfl) ⟨rfl, rfl, Nat.le_of_ble_eq_true rfl, Nat.le_of_ble_eq_true rfl⟩ ⟨by omega, by omega⟩ dL_law_431 (fun r5 ν6 => ?_)
  refine L_istore hX [(6, .int r5), (5, .int r2), (0, .ref b), (1, .ref (cx_ad X 0)), (2, .ref (aM 0)), (3, .ref (cx_ad X 90)), (4, .int i)] (by decide) rfl dL_law_434 ?_
  refine L_aload_n hX 4 rfl rfl dL_law_436 ?_
  refine L_cMi hX 11 (fun ad adK => []) [] (fun z2 h2 => cX11_thrown_ok (cx_l X) N ν6 z2 h2) ok_X11_thrown lm_L_150 rfl rfl rfl (fun _ _ => rfl) (Nat.le_of_ble_eq_true rfl) ⟨rfl, rfl, Nat.le_of_ble_eq_true rfl, Nat.le_of_ble_eq_true rfl⟩ ⟨by omega, by omega⟩ dL_law_437 (fun r7 ν8 => ?_)
  refine L_iload hX 1 rfl dL_law_440 ?_
  refine L_icmp_eq hX 447 rfl dL_law_442 ?_ ?_
  · skip
    refine L_iload hX 1 rfl dL_law_447 ?_
    refine L_if_ne hX 464 rfl dL_law_449 ?_ ?_
    · skip
      refine L_goto hX 2715 rfl dL_law_464 ?_
      exact L_end hC [2, 3, 4, 5, 6] rfl ⟨by omega, by omega⟩
    · skip
      refine L_aload_n hX 5 rfl rfl dL_law_452 ?_
      refine L_iconst hX (0 : Int32) rfl dL_law_453 ?_
      refine L_outn hX dL_law_454 (fun y9 => ?_)
      refine L_iload hX 0 rfl dL_law_455 ?_
      refine L_i2l hX dL_law_457 ?_
      refine L_lcmp hX dL_law_458 ?_
      refine L_if_eq hX 464 rfl dL_law_459 ?_ ?_
      · skip
        refine L_goto hX 2715 rfl dL_law_464 ?_
        exact L_end hC [2, 3, 4, 5, 6] rfl ⟨by omega, by omega⟩
      · skip
        exact L_none
  · skip
    exact L_none
theorem walkC5 {X : Ctx} {aM : Nat → Nat} {b L : Nat} {xs : Nat → Int32} {z : Mem × Mem} (hX : FL X aM b L xs) {i : Int32} {v : Nat → Int32} (hv : VI L xs i v) (N : Nat) (μ ν : Mem) {k n : Nat} (hk : k + 8 ≤ room_1.cells) (hn : n + 48 ≤ room_1.slots) (hC : CL X aM z [(0, .ref b), (1, .ref (cx_ad X 0)), (2, .ref (aM 0)), (3, .ref (cx_ad X 90)), (4, .int i)] (k + 8) (n + 48)) : GL X aM z 467 [(0, .ref b), (1, .ref (cx_ad X 0)), (2, .ref (aM 0)), (3, .ref (cx_ad X 90)), (4, .int i)] [] μ ν k n (lawC5 N v μ ν) := by
  unfold lawC5
  refine L_aload_n hX 1 rfl rfl dL_law_467 ?_
  refine L_aload_n hX 0 rfl rfl dL_law_468 ?_
  refine L_iload hX 4 rfl dL_law_469 ?_
  refine L_iconst hX (1 : Int32) rfl dL_law_471 ?_
  refine L_iadd hX dL_law_472 ?_
  refine L_sv hX hv 1 (by decide) rfl dL_law_473 ?_
  refine L_aload_n hX 0 rfl rfl dL_law_474 ?_
  refine L_iload hX 4 rfl dL_law_475 ?_
  refine L_iconst hX (2 : Int32) rfl dL_law_477 ?_
  refine L_iadd hX dL_law_478 ?_
  refine L_sv hX hv 2 (by decide) rfl dL_law_479 ?_
  refine L_aload_n hX 3 rfl rfl dL_law_480 ?_
  refine L_h hX (fun ad adK => [.ref (ad 0), .int (v 1), .int (v 2), .ref (ad 90)]) [] (fun z2 h2 => cL_model_ok (cx_l X) hX.2.2.2.2.2.2.2.2.2.2.2.2 N (v 1) (v 2) μ z2 h2) okh_L_model lm_L_161 rfl (fun _ _ => rfl) (Nat.le_of_ble_eq_true rfl) ⟨rfl, rfl, Nat.le_of_ble_eq_true rfl, Nat.le_of_ble_eq_true rfl⟩ ⟨by omega, by omega⟩ dL_law_481 (fun r1 μ2 => ?_)
  refine L_istore hX [(5, .int r1), (0, .ref b), (1, .ref (cx_ad X 0)), (2, .ref (aM 0)), (3, .ref (cx_ad X 90)), (4, .int i)] (by decide) rfl dL_law_484 ?_
  refine L_aload_n hX 3 rfl rfl dL_law_486 ?_
  refine L_aload_n hX 1 rfl rfl dL_law_487 ?_
  refine L_iload hX 5 rfl dL_law_488 ?_
  refine L_iconst hX (1 : Int32) rfl dL_law_490 ?_
  refine L_iadd hX dL_law_491 ?_
  refine L_sv hX hv 1 (by decide) rfl dL_law_492 ?_
  refine L_aload_n hX 1 rfl rfl dL_law_493 ?_
  refine L_iload hX 5 rfl dL_law_494 ?_
  refine L_iconst hX (2 : Int32) rfl dL_law_496 ?_
  refine L_iadd hX dL_law_497 ?_
  refine L_sv hX hv 2 (by decide) rfl dL_law_498 ?_
  refine L_cMi hX 11 (fun ad adK => [.int (v 1), .int (v 2)]) [] (fun z2 h2 => cX11_model_ok (cx_l X) N (v 1) (v 2) ν z2 h2) ok_X11_model lm_L_164 rfl rfl rfl (fun _ _ => rfl) (Nat.le_of_ble_eq_true rfl) ⟨rfl, rfl, Nat.le_of_ble_eq_true rfl, Nat.le_of_ble_eq_true rfl⟩ ⟨by omega, by omega⟩ dL_law_499 (fun r3 ν4 => ?_)
  refine L_istore hX [(6, .int r3), (5, .int r1), (0, .ref b), (1, .ref (cx_ad X 0)), (2, .ref (aM 0)), (3, .ref (cx_ad X 90)), (4, .int i)] (by decide) rfl dL_law_502 ?_
  refine L_aload_n hX 4 rfl rfl dL_law_504 ?_
  refine L_cMi hX 11 (fun ad adK => []) [] (fun z2 h2 => cX11_thrown_ok (cx_l X) N ν4 z2 h2) ok_X11_thrown lm_L_150 rfl rfl rfl (fun _ _ => rfl) (Nat.le_of_ble_eq_true rfl) ⟨rfl, rfl, Nat.le_of_ble_eq_true rfl, Nat.le_of_ble_eq_true rfl⟩ ⟨by omega, by omega⟩ dL_law_505 (fun r5 ν6 => ?_)
  refine L_iload hX 1 rfl dL_law_508 ?_
  refine L_icmp_eq hX 515 rfl dL_law_510 ?_ ?_
  · skip
    refine L_iload hX 1 rfl dL_law_515 ?_
    refine L_if_ne hX 532 rfl dL_law_517 ?_ ?_
    · skip
      refine L_goto hX 2715 rfl dL_law_532 ?_
      exact L_end hC [2, 3, 4, 5, 6] rfl ⟨by omega, by omega⟩
    · skip
      refine L_aload_n hX 5 rfl rfl dL_law_520 ?_
      refine L_iconst hX (0 : Int32) rfl dL_law_521 ?_
      refine L_outn hX dL_law_522 (fun y7 => ?_)
      refine L_iload hX 0 rfl dL_law_523 ?_
      refine L_i2l hX dL_law_525 ?_
      refine L_lcmp hX dL_law_526 ?_
      refine L_if_eq hX 532 rfl dL_law_527 ?_ ?_
      · skip
        refine L_goto hX 2715 rfl dL_law_532 ?_
        exact L_end hC [2, 3, 4, 5, 6] rfl ⟨by omega, by omega⟩
      · skip
        exact L_none
  · skip
    exact L_none
theorem walkC6 {X : Ctx} {aM : Nat → Nat} {b L : Nat} {xs : Nat → Int32} {z : Mem × Mem} (hX : FL X aM b L xs) {i : Int32} {v : Nat → Int32} (hv : VI L xs i v) (N : Nat) (μ ν : Mem) {k n : Nat} (hk : k + 8 ≤ room_1.cells) (hn : n + 48 ≤ room_1.slots) (hC : CL X aM z [(0, .ref b), (1, .ref (cx_ad X 0)), (2, .ref (aM 0)), (3, .ref (cx_ad X 90)), (4, .int i)] (k + 8) (n + 48)) : GL X aM z 535 [(0, .ref b), (1, .ref (cx_ad X 0)), (2, .ref (aM 0)), (3, .ref (cx_ad X 90)), (4, .int i)] [] μ ν k n (lawC6 N v μ ν) := by
  unfold lawC6
  refine L_aload_n hX 1 rfl rfl dL_law_535 ?_
  refine L_aload_n hX 0 rfl rfl dL_law_536 ?_
  refine L_iload hX 4 rfl dL_law_537 ?_
  refine L_iconst hX (1 : Int32) rfl dL_law_539 ?_
  refine L_iadd hX dL_law_540 ?_
  refine L_sv hX hv 1 (by decide) rfl dL_law_541 ?_
  refine L_aload_n hX 0 rfl rfl dL_law_542 ?_
  refine L_iload hX 4 rfl dL_law_543 ?_
  refine L_iconst hX (2 : Int32) rfl dL_law_545 ?_
  refine L_iadd hX dL_law_546 ?_
  refine L_sv hX hv 2 (by decide) rfl dL_law_547 ?_
  refine L_aload_n hX 3 rfl rfl dL_law_548 ?_
  refine L_h hX (fun ad adK => [.ref (ad 0), .int (v 1), .int (v 2), .ref (ad 90)]) [] (fun z2 h2 => cL_cost_ok (cx_l X) hX.2.2.2.2.2.2.2.2.2.2.2.2 N (v 1) (v 2) μ z2 h2) okh_L_cost lm_L_165 rfl (fun _ _ => rfl) (Nat.le_of_ble_eq_true rfl) ⟨rfl, rfl, Nat.le_of_ble_eq_true rfl, Nat.le_of_ble_eq_true rfl⟩ ⟨by omega, by omega⟩ dL_law_549 (fun r1 μ2 => ?_)
  refine L_istore hX [(5, .int r1), (0, .ref b), (1, .ref (cx_ad X 0)), (2, .ref (aM 0)), (3, .ref (cx_ad X 90)), (4, .int i)] (by decide) rfl dL_law_552 ?_
  refine L_aload_n hX 3 rfl rfl dL_law_554 ?_
  refine L_aload_n hX 1 rfl rfl dL_law_555 ?_
  refine L_iload hX 5 rfl dL_law_556 ?_
  refine L_iconst hX (1 : Int32) rfl dL_law_558 ?_
  refine L_iadd hX dL_law_559 ?_
  refine L_sv hX hv 1 (by decide) rfl dL_law_560 ?_
  refine L_aload_n hX 1 rfl rfl dL_law_561 ?_
  refine L_iload hX 5 rfl dL_law_562 ?_
  refine L_iconst hX (2 : Int32) rfl dL_law_564 ?_
  refine L_iadd hX dL_law_565 ?_
  refine L_sv hX hv 2 (by decide) rfl dL_law_566 ?_
  refine L_cMi hX 11 (fun ad adK => [.int (v 1), .int (v 2)]) [] (fun z2 h2 => cX11_cost_ok (cx_l X) N (v 1) (v 2) ν z2 h2) ok_X11_cost lm_L_167 rfl rfl rfl (fun _ _ => rfl) (Nat.le_of_ble_eq_true rfl) ⟨rfl, rfl, Nat.le_of_ble_eq_true rfl, Nat.le_of_ble_eq_true rfl⟩ ⟨by omega, by omega⟩ dL_law_567 (fun r3 ν4 => ?_)
  refine L_istore hX [(6, .int r3), (5, .int r1), (0, .ref b), (1, .ref (cx_ad X 0)), (2, .ref (aM 0)), (3, .ref (cx_ad X 90)), (4, .int i)] (by decide) rfl dL_law_570 ?_
  refine L_aload_n hX 4 rfl rfl dL_law_572 ?_
  refine L_cMi hX 11 (fun ad adK => []) [] (fun z2 h2 => cX11_thrown_ok (cx_l X) N ν4 z2 h2) ok_X11_thrown lm_L_150 rfl rfl rfl (fun _ _ => rfl) (Nat.le_of_ble_eq_true rfl) ⟨rfl, rfl, Nat.le_of_ble_eq_true rfl, Nat.le_of_ble_eq_true rfl⟩ ⟨by omega, by omega⟩ dL_law_573 (fun r5 ν6 => ?_)
  refine L_iload hX 1 rfl dL_law_576 ?_
  refine L_icmp_eq hX 583 rfl dL_law_578 ?_ ?_
  · skip
    refine L_iload hX 1 rfl dL_law_583 ?_
    refine L_if_ne hX 600 rfl dL_law_585 ?_ ?_
    · skip
      refine L_goto hX 2715 rfl dL_law_600 ?_
      exact L_end hC [2, 3, 4, 5, 6] rfl ⟨by omega, by omega⟩
    · skip
      refine L_aload_n hX 5 rfl rfl dL_law_588 ?_
      refine L_iconst hX (0 : Int32) rfl dL_law_589 ?_
      refine L_outn hX dL_law_590 (fun y7 => ?_)
      refine L_iload hX 0 rfl dL_law_591 ?_
      refine L_i2l hX dL_law_593 ?_
      refine L_lcmp hX dL_law_594 ?_
      refine L_if_eq hX 600 rfl dL_law_595 ?_ ?_
      · skip
        refine L_goto hX 2715 rfl dL_law_600 ?_
        exact L_end hC [2, 3, 4, 5, 6] rfl ⟨by omega, by omega⟩
      · skip
        exact L_none
  · skip
    exact L_none
theorem walkC7 {X : Ctx} {aM : Nat → Nat} {b L : Nat} {xs : Nat → Int32} {z : Mem × Mem} (hX : FL X aM b L xs) {i : Int32} {v : Nat → Int32} (hv : VI L xs i v) (N : Nat) (μ ν : Mem) {k n : Nat} (hk : k + 8 ≤ room_1.cells) (hn : n + 48 ≤ room_1.slots) (hC : CL X aM z [(0, .ref b), (1, .ref (cx_ad X 0)), (2, .ref (aM 0)), (3, .ref (cx_ad X 90)), (4, .int i)] (k + 8) (n + 48)) : GL X aM z 603 [(0, .ref b), (1, .ref (cx_ad X 0)), (2, .ref (aM 0)), (3, .ref (cx_ad X 90)), (4, .int i)] [] μ ν k n (lawC7 N v μ ν) := by
  unfold lawC7
  refine L_aload_n hX 1 rfl rfl dL_law_603 ?_
  refine L_aload_n hX 0 rfl rfl dL_law_604 ?_
  refine L_iload hX 4 rfl dL_law_605 ?_
  refine L_iconst hX (1 : Int32) rfl dL_law_607 ?_
  refine L_iadd hX dL_law_608 ?_
  refine L_sv hX hv 1 (by decide) rfl dL_law_609 ?_
  refine L_aload_n hX 0 rfl rfl dL_law_610 ?_
  refine L_iload hX 4 rfl dL_law_611 ?_
  refine L_iconst hX (2 : Int32) rfl dL_law_613 ?_
  refine L_iadd hX dL_law_614 ?_
  refine L_sv hX hv 2 (by decide) rfl dL_law_615 ?_
  refine L_aload_n hX 3 rfl rfl dL_law_616 ?_
  refine L_h hX (fun ad adK => [.ref (ad 0), .int (v 1), .int (v 2), .ref (ad 90)]) [] (fun z2 h2 => cL_sale_ok (cx_l X) hX.2.2.2.2.2.2.2.2.2.2.2.2 N (v 1) (v 2) μ z2 h2) okh_L_sale lm_L_168 rfl (fun _ _ => rfl) (Nat.le_of_ble_eq_true rfl) ⟨rfl, rfl, Nat.le_of_ble_eq_true rfl, Nat.le_of_ble_eq_true rfl⟩ ⟨by omega, by omega⟩ dL_law_617 (fun r1 μ2 => ?_)
  refine L_istore hX [(5, .int r1), (0, .ref b), (1, .ref (cx_ad X 0)), (2, .ref (aM 0)), (3, .ref (cx_ad X 90)), (4, .int i)] (by decide) rfl dL_law_620 ?_
  refine L_aload_n hX 3 rfl rfl dL_law_622 ?_
  refine L_aload_n hX 1 rfl rfl dL_law_623 ?_
  refine L_iload hX 5 rfl dL_law_624 ?_
  refine L_iconst hX (1 : Int32) rfl dL_law_626 ?_
  refine L_iadd hX dL_law_627 ?_
  refine L_sv hX hv 1 (by decide) rfl dL_law_628 ?_
  refine L_aload_n hX 1 rfl rfl dL_law_629 ?_
  refine L_iload hX 5 rfl dL_law_630 ?_
  refine L_iconst hX (2 : Int32) rfl dL_law_632 ?_
  refine L_iadd hX dL_law_633 ?_
  refine L_sv hX hv 2 (by decide) rfl dL_law_634 ?_
  refine L_cMi hX 11 (fun ad adK => [.int (v 1), .int (v 2)]) [] (fun z2 h2 => cX11_sale_ok (cx_l X) N (v 1) (v 2) ν z2 h2) ok_X11_sale lm_L_170 rfl rfl rfl (fun _ _ => rfl) (Nat.le_of_ble_eq_true rfl) ⟨rfl, rfl, Nat.le_of_ble_eq_true rfl, Nat.le_of_ble_eq_true rfl⟩ ⟨by omega, by omega⟩ dL_law_635 (fun r3 ν4 => ?_)
  refine L_istore hX [(6, .int r3), (5, .int r1), (0, .ref b), (1, .ref (cx_ad X 0)), (2, .ref (aM 0)), (3, .ref (cx_ad X 90)), (4, .int i)] (by decide) rfl dL_law_638 ?_
  refine L_aload_n hX 4 rfl rfl dL_law_640 ?_
  refine L_cMi hX 11 (fun ad adK => []) [] (fun z2 h2 => cX11_thrown_ok (cx_l X) N ν4 z2 h2) ok_X11_thrown lm_L_150 rfl rfl rfl (fun _ _ => rfl) (Nat.le_of_ble_eq_true rfl) ⟨rfl, rfl, Nat.le_of_ble_eq_true rfl, Nat.le_of_ble_eq_true rfl⟩ ⟨by omega, by omega⟩ dL_law_641 (fun r5 ν6 => ?_)
  refine L_iload hX 1 rfl dL_law_644 ?_
  refine L_icmp_eq hX 651 rfl dL_law_646 ?_ ?_
  · skip
    refine L_iload hX 1 rfl dL_law_651 ?_
    refine L_if_ne hX 668 rfl dL_law_653 ?_ ?_
    · skip
      refine L_goto hX 2715 rfl dL_law_668 ?_
      exact L_end hC [2, 3, 4, 5, 6] rfl ⟨by omega, by omega⟩
    · skip
      refine L_aload_n hX 5 rfl rfl dL_law_656 ?_
      refine L_iconst hX (0 : Int32) rfl dL_law_657 ?_
      refine L_outn hX dL_law_658 (fun y7 => ?_)
      refine L_iload hX 0 rfl dL_law_659 ?_
      refine L_i2l hX dL_law_661 ?_
      refine L_lcmp hX dL_law_662 ?_
      refine L_if_eq hX 668 rfl dL_law_663 ?_ ?_
      · skip
        refine L_goto hX 2715 rfl dL_law_668 ?_
        exact L_end hC [2, 3, 4, 5, 6] rfl ⟨by omega, by omega⟩
      · skip
        exact L_none
  · skip
    exact L_none
theorem walkC8 {X : Ctx} {aM : Nat → Nat} {b L : Nat} {xs : Nat → Int32} {z : Mem × Mem} (hX : FL X aM b L xs) {i : Int32} {v : Nat → Int32} (hv : VI L xs i v) (N : Nat) (μ ν : Mem) {k n : Nat} (hk : k + 8 ≤ room_1.cells) (hn : n + 48 ≤ room_1.slots) (hC : CL X aM z [(0, .ref b), (1, .ref (cx_ad X 0)), (2, .ref (aM 0)), (3, .ref (cx_ad X 90)), (4, .int i)] (k + 8) (n + 48)) : GL X aM z 671 [(0, .ref b), (1, .ref (cx_ad X 0)), (2, .ref (aM 0)), (3, .ref (cx_ad X 90)), (4, .int i)] [] μ ν k n (lawC8 N v μ ν) := by
  unfold lawC8
  refine L_aload_n hX 1 rfl rfl dL_law_671 ?_
  refine L_aload_n hX 0 rfl rfl dL_law_672 ?_
  refine L_iload hX 4 rfl dL_law_673 ?_
  refine L_iconst hX (1 : Int32) rfl dL_law_675 ?_
  refine L_iadd hX dL_law_676 ?_
  refine L_sv hX hv 1 (by decide) rfl dL_law_677 ?_
  refine L_aload_n hX 0 rfl rfl dL_law_678 ?_
  refine L_iload hX 4 rfl dL_law_679 ?_
  refine L_iconst hX (2 : Int32) rfl dL_law_681 ?_
  refine L_iadd hX dL_law_682 ?_
  refine L_sv hX hv 2 (by decide) rfl dL_law_683 ?_
  refine L_aload_n hX 0 rfl rfl dL_law_684 ?_
  refine L_iload hX 4 rfl dL_law_685 ?_
  refine L_iconst hX (3 : Int32) rfl dL_law_687 ?_
  refine L_iadd hX dL_law_688 ?_
  refine L_sv hX hv 3 (by decide) rfl dL_law_689 ?_
  refine L_aload_n hX 0 rfl rfl dL_law_690 ?_
  refine L_iload hX 4 rfl dL_law_691 ?_
  refine L_iconst hX (4 : Int32) rfl dL_law_693 ?_
  refine L_iadd hX dL_law_694 ?_
  refine L_sv hX hv 4 (by decide) rfl dL_law_695 ?_
  refine L_aload_n hX 0 rfl rfl dL_law_696 ?_
  refine L_iload hX 4 rfl dL_law_697 ?_
  refine L_iconst hX (5 : Int32) rfl dL_law_699 ?_
  refine L_iadd hX dL_law_700 ?_
  refine L_sv hX hv 5 (by decide) rfl dL_law_701 ?_
  refine L_aload_n hX 0 rfl rfl dL_law_702 ?_
  refine L_iload hX 4 rfl dL_law_703 ?_
  refine L_bipush hX (6 : Int32) rfl dL_law_705 ?_
  refine L_iadd hX dL_law_707 ?_
  refine L_sv hX hv 6 (by decide) rfl dL_law_708 ?_
  refine L_aload_n hX 0 rfl rfl dL_law_709 ?_
  refine L_iload hX 4 rfl dL_law_710 ?_
  refine L_bipush hX (7 : Int32) rfl dL_law_712 ?_
  refine L_iadd hX dL_law_714 ?_
  refine L_sv hX hv 7 (by decide) rfl dL_law_715 ?_
  refine L_aload_n hX 3 rfl rfl dL_law_716 ?_
  refine L_h hX (fun ad adK => [.ref (ad 0), .int (v 1), .int (v 2), .int (v 3), .int (v 4), .int (v 5), .int (v 6), .int (v 7), .ref (ad 90)]) [] (fun z2 h2 => cL_put_ok (cx_l X) hX.2.2.2.2.2.2.2.2.2.2.2.2 N (v 1) (v 2) (v 3) (v 4) (v 5) (v 6) (v 7) μ z2 h2) okh_L_put lm_L_171 rfl (fun _ _ => rfl) (Nat.le_of_ble_eq_true rfl) ⟨rfl, rfl, Nat.le_of_ble_eq_true rfl, Nat.le_of_ble_eq_true rfl⟩ ⟨by omega, by omega⟩ dL_law_717 (fun r1 μ2 => ?_)
  refine L_istore hX [(5, .int r1), (0, .ref b), (1, .ref (cx_ad X 0)), (2, .ref (aM 0)), (3, .ref (cx_ad X 90)), (4, .int i)] (by decide) rfl dL_law_720 ?_
  refine L_aload_n hX 3 rfl rfl dL_law_722 ?_
  refine L_aload_n hX 1 rfl rfl dL_law_723 ?_
  refine L_iload hX 5 rfl dL_law_724 ?_
  refine L_iconst hX (1 : Int32) rfl dL_law_726 ?_
  refine L_iadd hX dL_law_727 ?_
  refine L_sv hX hv 1 (by decide) rfl dL_law_728 ?_
  refine L_aload_n hX 1 rfl rfl dL_law_729 ?_
  refine L_iload hX 5 rfl dL_law_730 ?_
  refine L_iconst hX (2 : Int32) rfl dL_law_732 ?_
  refine L_iadd hX dL_law_733 ?_
  refine L_sv hX hv 2 (by decide) rfl dL_law_734 ?_
  refine L_aload_n hX 1 rfl rfl dL_law_735 ?_
  refine L_iload hX 5 rfl dL_law_736 ?_
  refine L_iconst hX (3 : Int32) rfl dL_law_738 ?_
  refine L_iadd hX dL_law_739 ?_
  refine L_sv hX hv 3 (by decide) rfl dL_law_740 ?_
  refine L_aload_n hX 1 rfl rfl dL_law_741 ?_
  refine L_iload hX 5 rfl dL_law_742 ?_
  refine L_iconst hX (4 : Int32) rfl dL_law_744 ?_
  refine L_iadd hX dL_law_745 ?_
  refine L_sv hX hv 4 (by decide) rfl dL_law_746 ?_
  refine L_aload_n hX 1 rfl rfl dL_law_747 ?_
  refine L_iload hX 5 rfl dL_law_748 ?_
  refine L_iconst hX (5 : Int32) rfl dL_law_750 ?_
  refine L_iadd hX dL_law_751 ?_
  refine L_sv hX hv 5 (by decide) rfl dL_law_752 ?_
  refine L_aload_n hX 1 rfl rfl dL_law_753 ?_
  refine L_iload hX 5 rfl dL_law_754 ?_
  refine L_bipush hX (6 : Int32) rfl dL_law_756 ?_
  refine L_iadd hX dL_law_758 ?_
  refine L_sv hX hv 6 (by decide) rfl dL_law_759 ?_
  refine L_aload_n hX 1 rfl rfl dL_law_760 ?_
  refine L_iload hX 5 rfl dL_law_761 ?_
  refine L_bipush hX (7 : Int32) rfl dL_law_763 ?_
  refine L_iadd hX dL_law_765 ?_
  refine L_sv hX hv 7 (by decide) rfl dL_law_766 ?_
  refine L_cMi hX 11 (fun ad adK => [.int (v 1), .int (v 2), .int (v 3), .int (v 4), .int (v 5), .int (v 6), .int (v 7)]) [] (fun z2 h2 => cX11_put_ok (cx_l X) N (v 1) (v 2) (v 3) (v 4) (v 5) (v 6) (v 7) ν z2 h2) ok_X11_put lm_L_174 rfl rfl rfl (fun _ _ => rfl) (Nat.le_of_ble_eq_true rfl) ⟨rfl, rfl, Nat.le_of_ble_eq_true rfl, Nat.le_of_ble_eq_true rfl⟩ ⟨by omega, by omega⟩ dL_law_767 (fun r3 ν4 => ?_)
  refine L_istore hX [(6, .int r3), (5, .int r1), (0, .ref b), (1, .ref (cx_ad X 0)), (2, .ref (aM 0)), (3, .ref (cx_ad X 90)), (4, .int i)] (by decide) rfl dL_law_770 ?_
  refine L_aload_n hX 4 rfl rfl dL_law_772 ?_
  refine L_cMi hX 11 (fun ad adK => []) [] (fun z2 h2 => cX11_thrown_ok (cx_l X) N ν4 z2 h2) ok_X11_thrown lm_L_150 rfl rfl rfl (fun _ _ => rfl) (Nat.le_of_ble_eq_true rfl) ⟨rfl, rfl, Nat.le_of_ble_eq_true rfl, Nat.le_of_ble_eq_true rfl⟩ ⟨by omega, by omega⟩ dL_law_773 (fun r5 ν6 => ?_)
  refine L_iload hX 1 rfl dL_law_776 ?_
  refine L_icmp_eq hX 783 rfl dL_law_778 ?_ ?_
  · skip
    refine L_iload hX 1 rfl dL_law_783 ?_
    refine L_if_ne hX 800 rfl dL_law_785 ?_ ?_
    · skip
      refine L_goto hX 2715 rfl dL_law_800 ?_
      exact L_end hC [2, 3, 4, 5, 6] rfl ⟨by omega, by omega⟩
    · skip
      refine L_aload_n hX 5 rfl rfl dL_law_788 ?_
      refine L_iconst hX (0 : Int32) rfl dL_law_789 ?_
      refine L_outn hX dL_law_790 (fun y7 => ?_)
      refine L_iload hX 0 rfl dL_law_791 ?_
      refine L_i2l hX dL_law_793 ?_
      refine L_lcmp hX dL_law_794 ?_
      refine L_if_eq hX 800 rfl dL_law_795 ?_ ?_
      · skip
        refine L_goto hX 2715 rfl dL_law_800 ?_
        exact L_end hC [2, 3, 4, 5, 6] rfl ⟨by omega, by omega⟩
      · skip
        exact L_none
  · skip
    exact L_none
theorem walkC9 {X : Ctx} {aM : Nat → Nat} {b L : Nat} {xs : Nat → Int32} {z : Mem × Mem} (hX : FL X aM b L xs) {i : Int32} {v : Nat → Int32} (hv : VI L xs i v) (N : Nat) (μ ν : Mem) {k n : Nat} (hk : k + 8 ≤ room_1.cells) (hn : n + 48 ≤ room_1.slots) (hC : CL X aM z [(0, .ref b), (1, .ref (cx_ad X 0)), (2, .ref (aM 0)), (3, .ref (cx_ad X 90)), (4, .int i)] (k + 8) (n + 48)) : GL X aM z 803 [(0, .ref b), (1, .ref (cx_ad X 0)), (2, .ref (aM 0)), (3, .ref (cx_ad X 90)), (4, .int i)] [] μ ν k n (lawC9 N v μ ν) := by
  unfold lawC9
  refine L_aload_n hX 1 rfl rfl dL_law_803 ?_
  refine L_aload_n hX 0 rfl rfl dL_law_804 ?_
  refine L_iload hX 4 rfl dL_law_805 ?_
  refine L_iconst hX (1 : Int32) rfl dL_law_807 ?_
  refine L_iadd hX dL_law_808 ?_
  refine L_sv hX hv 1 (by decide) rfl dL_law_809 ?_
  refine L_h hX (fun ad adK => [.ref (ad 0), .int (v 1)]) [] (fun z2 h2 => cL_drop_ok (cx_l X) hX.2.2.2.2.2.2.2.2.2.2.2.2 N (v 1) μ z2 h2) okh_L_drop lm_L_175 rfl (fun _ _ => rfl) (Nat.le_of_ble_eq_true rfl) ⟨rfl, rfl, Nat.le_of_ble_eq_true rfl, Nat.le_of_ble_eq_true rfl⟩ ⟨by omega, by omega⟩ dL_law_810 (fun r1 μ2 => ?_)
  refine L_istore hX [(5, .int r1), (0, .ref b), (1, .ref (cx_ad X 0)), (2, .ref (aM 0)), (3, .ref (cx_ad X 90)), (4, .int i)] (by decide) rfl dL_law_813 ?_
  refine L_aload_n hX 3 rfl rfl dL_law_815 ?_
  refine L_aload_n hX 1 rfl rfl dL_law_816 ?_
  refine L_iload hX 5 rfl dL_law_817 ?_
  refine L_iconst hX (1 : Int32) rfl dL_law_819 ?_
  refine L_iadd hX dL_law_820 ?_
  refine L_sv hX hv 1 (by decide) rfl dL_law_821 ?_
  refine L_cMv hX 11 (fun ad adK => [.int (v 1)]) [] (fun z2 h2 => cX11_drop_ok (cx_l X) N (v 1) ν z2 h2) ok_X11_drop lm_L_178 rfl rfl rfl (fun _ _ => rfl) (Nat.le_of_ble_eq_true rfl) ⟨rfl, rfl, Nat.le_of_ble_eq_true rfl, Nat.le_of_ble_eq_true rfl⟩ ⟨by omega, by omega⟩ dL_law_822 (fun ν4 => ?_)
  refine L_aload_n hX 3 rfl rfl dL_law_825 ?_
  refine L_cMi hX 11 (fun ad adK => []) [] (fun z2 h2 => cX11_thrown_ok (cx_l X) N ν4 z2 h2) ok_X11_thrown lm_L_150 rfl rfl rfl (fun _ _ => rfl) (Nat.le_of_ble_eq_true rfl) ⟨rfl, rfl, Nat.le_of_ble_eq_true rfl, Nat.le_of_ble_eq_true rfl⟩ ⟨by omega, by omega⟩ dL_law_826 (fun r5 ν6 => ?_)
  refine L_iload hX 0 rfl dL_law_829 ?_
  refine L_icmp_eq hX 836 rfl dL_law_831 ?_ ?_
  · skip
    refine L_goto hX 2715 rfl dL_law_836 ?_
    exact L_end hC [1, 2, 3, 4, 5] rfl ⟨by omega, by omega⟩
  · skip
    exact L_none
theorem walkC10 {X : Ctx} {aM : Nat → Nat} {b L : Nat} {xs : Nat → Int32} {z : Mem × Mem} (hX : FL X aM b L xs) {i : Int32} {v : Nat → Int32} (hv : VI L xs i v) (N : Nat) (μ ν : Mem) {k n : Nat} (hk : k + 8 ≤ room_1.cells) (hn : n + 48 ≤ room_1.slots) (hC : CL X aM z [(0, .ref b), (1, .ref (cx_ad X 0)), (2, .ref (aM 0)), (3, .ref (cx_ad X 90)), (4, .int i)] (k + 8) (n + 48)) : GL X aM z 839 [(0, .ref b), (1, .ref (cx_ad X 0)), (2, .ref (aM 0)), (3, .ref (cx_ad X 90)), (4, .int i)] [] μ ν k n (lawC10 N v μ ν) := by
  unfold lawC10
  refine L_aload_n hX 1 rfl rfl dL_law_839 ?_
  refine L_aload_n hX 0 rfl rfl dL_law_840 ?_
  refine L_iload hX 4 rfl dL_law_841 ?_
  refine L_iconst hX (1 : Int32) rfl dL_law_843 ?_
  refine L_iadd hX dL_law_844 ?_
  refine L_sv hX hv 1 (by decide) rfl dL_law_845 ?_
  refine L_aload_n hX 0 rfl rfl dL_law_846 ?_
  refine L_iload hX 4 rfl dL_law_847 ?_
  refine L_iconst hX (2 : Int32) rfl dL_law_849 ?_
  refine L_iadd hX dL_law_850 ?_
  refine L_sv hX hv 2 (by decide) rfl dL_law_851 ?_
  refine L_aload_n hX 3 rfl rfl dL_law_852 ?_
  refine L_h hX (fun ad adK => [.ref (ad 0), .int (v 1), .int (v 2), .ref (ad 90)]) [] (fun z2 h2 => cL_price_ok (cx_l X) hX.2.2.2.2.2.2.2.2.2.2.2.2 N (v 1) (v 2) μ z2 h2) okh_L_price lm_L_179 rfl (fun _ _ => rfl) (Nat.le_of_ble_eq_true rfl) ⟨rfl, rfl, Nat.le_of_ble_eq_true rfl, Nat.le_of_ble_eq_true rfl⟩ ⟨by omega, by omega⟩ dL_law_853 (fun r1 μ2 => ?_)
  refine L_istore hX [(5, .int r1), (0, .ref b), (1, .ref (cx_ad X 0)), (2, .ref (aM 0)), (3, .ref (cx_ad X 90)), (4, .int i)] (by decide) rfl dL_law_856 ?_
  refine L_aload_n hX 3 rfl rfl dL_law_858 ?_
  refine L_aload_n hX 1 rfl rfl dL_law_859 ?_
  refine L_iload hX 5 rfl dL_law_860 ?_
  refine L_iconst hX (1 : Int32) rfl dL_law_862 ?_
  refine L_iadd hX dL_law_863 ?_
  refine L_sv hX hv 1 (by decide) rfl dL_law_864 ?_
  refine L_aload_n hX 1 rfl rfl dL_law_865 ?_
  refine L_iload hX 5 rfl dL_law_866 ?_
  refine L_iconst hX (2 : Int32) rfl dL_law_868 ?_
  refine L_iadd hX dL_law_869 ?_
  refine L_sv hX hv 2 (by decide) rfl dL_law_870 ?_
  refine L_cMi hX 11 (fun ad adK => [.int (v 1), .int (v 2)]) [] (fun z2 h2 => cX11_price_ok (cx_l X) N (v 1) (v 2) ν z2 h2) ok_X11_price lm_L_181 rfl rfl rfl (fun _ _ => rfl) (Nat.le_of_ble_eq_true rfl) ⟨rfl, rfl, Nat.le_of_ble_eq_true rfl, Nat.le_of_ble_eq_true rfl⟩ ⟨by omega, by omega⟩ dL_law_871 (fun r3 ν4 => ?_)
  refine L_istore hX [(6, .int r3), (5, .int r1), (0, .ref b), (1, .ref (cx_ad X 0)), (2, .ref (aM 0)), (3, .ref (cx_ad X 90)), (4, .int i)] (by decide) rfl dL_law_874 ?_
  refine L_aload_n hX 4 rfl rfl dL_law_876 ?_
  refine L_cMi hX 11 (fun ad adK => []) [] (fun z2 h2 => cX11_thrown_ok (cx_l X) N ν4 z2 h2) ok_X11_thrown lm_L_150 rfl rfl rfl (fun _ _ => rfl) (Nat.le_of_ble_eq_true rfl) ⟨rfl, rfl, Nat.le_of_ble_eq_true rfl, Nat.le_of_ble_eq_true rfl⟩ ⟨by omega, by omega⟩ dL_law_877 (fun r5 ν6 => ?_)
  refine L_iload hX 1 rfl dL_law_880 ?_
  refine L_icmp_eq hX 887 rfl dL_law_882 ?_ ?_
  · skip
    refine L_iload hX 1 rfl dL_law_887 ?_
    refine L_if_ne hX 904 rfl dL_law_889 ?_ ?_
    · skip
      refine L_goto hX 2715 rfl dL_law_904 ?_
      exact L_end hC [2, 3, 4, 5, 6] rfl ⟨by omega, by omega⟩
    · skip
      refine L_aload_n hX 5 rfl rfl dL_law_892 ?_
      refine L_iconst hX (0 : Int32) rfl dL_law_893 ?_
      refine L_outn hX dL_law_894 (fun y7 => ?_)
      refine L_iload hX 0 rfl dL_law_895 ?_
      refine L_i2l hX dL_law_897 ?_
      refine L_lcmp hX dL_law_898 ?_
      refine L_if_eq hX 904 rfl dL_law_899 ?_ ?_
      · skip
        refine L_goto hX 2715 rfl dL_law_904 ?_
        exact L_end hC [2, 3, 4, 5, 6] rfl ⟨by omega, by omega⟩
      · skip
        exact L_none
  · skip
    exact L_none
theorem walkC11 {X : Ctx} {aM : Nat → Nat} {b L : Nat} {xs : Nat → Int32} {z : Mem × Mem} (hX : FL X aM b L xs) {i : Int32} {v : Nat → Int32} (hv : VI L xs i v) (N : Nat) (μ ν : Mem) {k n : Nat} (hk : k + 8 ≤ room_1.cells) (hn : n + 48 ≤ room_1.slots) (hC : CL X aM z [(0, .ref b), (1, .ref (cx_ad X 0)), (2, .ref (aM 0)), (3, .ref (cx_ad X 90)), (4, .int i)] (k + 8) (n + 48)) : GL X aM z 907 [(0, .ref b), (1, .ref (cx_ad X 0)), (2, .ref (aM 0)), (3, .ref (cx_ad X 90)), (4, .int i)] [] μ ν k n (lawC11 N v μ ν) := by
  unfold lawC11
  refine L_aload_n hX 1 rfl rfl dL_law_907 ?_
  refine L_aload_n hX 0 rfl rfl dL_law_908 ?_
  refine L_iload hX 4 rfl dL_law_909 ?_
  refine L_iconst hX (1 : Int32) rfl dL_law_911 ?_
  refine L_iadd hX dL_law_912 ?_
  refine L_sv hX hv 1 (by decide) rfl dL_law_913 ?_
  refine L_aload_n hX 0 rfl rfl dL_law_914 ?_
  refine L_iload hX 4 rfl dL_law_915 ?_
  refine L_iconst hX (2 : Int32) rfl dL_law_917 ?_
  refine L_iadd hX dL_law_918 ?_
  refine L_sv hX hv 2 (by decide) rfl dL_law_919 ?_
  refine L_aload_n hX 0 rfl rfl dL_law_920 ?_
  refine L_iload hX 4 rfl dL_law_921 ?_
  refine L_iconst hX (3 : Int32) rfl dL_law_923 ?_
  refine L_iadd hX dL_law_924 ?_
  refine L_sv hX hv 3 (by decide) rfl dL_law_925 ?_
  refine L_aload_n hX 3 rfl rfl dL_law_926 ?_
  refine L_h hX (fun ad adK => [.ref (ad 0), .int (v 1), .int (v 2), .int (v 3), .ref (ad 90)]) [] (fun z2 h2 => cL_costs_ok (cx_l X) hX.2.2.2.2.2.2.2.2.2.2.2.2 N (v 1) (v 2) (v 3) μ z2 h2) okh_L_costs lm_L_182 rfl (fun _ _ => rfl) (Nat.le_of_ble_eq_true rfl) ⟨rfl, rfl, Nat.le_of_ble_eq_true rfl, Nat.le_of_ble_eq_true rfl⟩ ⟨by omega, by omega⟩ dL_law_927 (fun r1 μ2 => ?_)
  refine L_istore hX [(5, .int r1), (0, .ref b), (1, .ref (cx_ad X 0)), (2, .ref (aM 0)), (3, .ref (cx_ad X 90)), (4, .int i)] (by decide) rfl dL_law_930 ?_
  refine L_aload_n hX 3 rfl rfl dL_law_932 ?_
  refine L_aload_n hX 1 rfl rfl dL_law_933 ?_
  refine L_iload hX 5 rfl dL_law_934 ?_
  refine L_iconst hX (1 : Int32) rfl dL_law_936 ?_
  refine L_iadd hX dL_law_937 ?_
  refine L_sv hX hv 1 (by decide) rfl dL_law_938 ?_
  refine L_aload_n hX 1 rfl rfl dL_law_939 ?_
  refine L_iload hX 5 rfl dL_law_940 ?_
  refine L_iconst hX (2 : Int32) rfl dL_law_942 ?_
  refine L_iadd hX dL_law_943 ?_
  refine L_sv hX hv 2 (by decide) rfl dL_law_944 ?_
  refine L_aload_n hX 1 rfl rfl dL_law_945 ?_
  refine L_iload hX 5 rfl dL_law_946 ?_
  refine L_iconst hX (3 : Int32) rfl dL_law_948 ?_
  refine L_iadd hX dL_law_949 ?_
  refine L_sv hX hv 3 (by decide) rfl dL_law_950 ?_
  refine L_cMi hX 11 (fun ad adK => [.int (v 1), .int (v 2), .int (v 3)]) [] (fun z2 h2 => cX11_costs_ok (cx_l X) N (v 1) (v 2) (v 3) ν z2 h2) ok_X11_costs lm_L_185 rfl rfl rfl (fun _ _ => rfl) (Nat.le_of_ble_eq_true rfl) ⟨rfl, rfl, Nat.le_of_ble_eq_true rfl, Nat.le_of_ble_eq_true rfl⟩ ⟨by omega, by omega⟩ dL_law_951 (fun r3 ν4 => ?_)
  refine L_istore hX [(6, .int r3), (5, .int r1), (0, .ref b), (1, .ref (cx_ad X 0)), (2, .ref (aM 0)), (3, .ref (cx_ad X 90)), (4, .int i)] (by decide) rfl dL_law_954 ?_
  refine L_aload_n hX 4 rfl rfl dL_law_956 ?_
  refine L_cMi hX 11 (fun ad adK => []) [] (fun z2 h2 => cX11_thrown_ok (cx_l X) N ν4 z2 h2) ok_X11_thrown lm_L_150 rfl rfl rfl (fun _ _ => rfl) (Nat.le_of_ble_eq_true rfl) ⟨rfl, rfl, Nat.le_of_ble_eq_true rfl, Nat.le_of_ble_eq_true rfl⟩ ⟨by omega, by omega⟩ dL_law_957 (fun r5 ν6 => ?_)
  refine L_iload hX 1 rfl dL_law_960 ?_
  refine L_icmp_eq hX 967 rfl dL_law_962 ?_ ?_
  · skip
    refine L_iload hX 1 rfl dL_law_967 ?_
    refine L_if_ne hX 984 rfl dL_law_969 ?_ ?_
    · skip
      refine L_goto hX 2715 rfl dL_law_984 ?_
      exact L_end hC [2, 3, 4, 5, 6] rfl ⟨by omega, by omega⟩
    · skip
      refine L_aload_n hX 5 rfl rfl dL_law_972 ?_
      refine L_iconst hX (0 : Int32) rfl dL_law_973 ?_
      refine L_outn hX dL_law_974 (fun y7 => ?_)
      refine L_iload hX 0 rfl dL_law_975 ?_
      refine L_i2l hX dL_law_977 ?_
      refine L_lcmp hX dL_law_978 ?_
      refine L_if_eq hX 984 rfl dL_law_979 ?_ ?_
      · skip
        refine L_goto hX 2715 rfl dL_law_984 ?_
        exact L_end hC [2, 3, 4, 5, 6] rfl ⟨by omega, by omega⟩
      · skip
        exact L_none
  · skip
    exact L_none
theorem walkC12 {X : Ctx} {aM : Nat → Nat} {b L : Nat} {xs : Nat → Int32} {z : Mem × Mem} (hX : FL X aM b L xs) {i : Int32} {v : Nat → Int32} (hv : VI L xs i v) (N : Nat) (μ ν : Mem) {k n : Nat} (hk : k + 8 ≤ room_1.cells) (hn : n + 48 ≤ room_1.slots) (hC : CL X aM z [(0, .ref b), (1, .ref (cx_ad X 0)), (2, .ref (aM 0)), (3, .ref (cx_ad X 90)), (4, .int i)] (k + 8) (n + 48)) : GL X aM z 987 [(0, .ref b), (1, .ref (cx_ad X 0)), (2, .ref (aM 0)), (3, .ref (cx_ad X 90)), (4, .int i)] [] μ ν k n (lawC12 N v μ ν) := by
  unfold lawC12
  refine L_aload_n hX 1 rfl rfl dL_law_987 ?_
  refine L_aload_n hX 0 rfl rfl dL_law_988 ?_
  refine L_iload hX 4 rfl dL_law_989 ?_
  refine L_iconst hX (1 : Int32) rfl dL_law_991 ?_
  refine L_iadd hX dL_law_992 ?_
  refine L_sv hX hv 1 (by decide) rfl dL_law_993 ?_
  refine L_aload_n hX 0 rfl rfl dL_law_994 ?_
  refine L_iload hX 4 rfl dL_law_995 ?_
  refine L_iconst hX (2 : Int32) rfl dL_law_997 ?_
  refine L_iadd hX dL_law_998 ?_
  refine L_sv hX hv 2 (by decide) rfl dL_law_999 ?_
  refine L_aload_n hX 3 rfl rfl dL_law_1000 ?_
  refine L_h hX (fun ad adK => [.ref (ad 0), .int (v 1), .int (v 2), .ref (ad 90)]) [] (fun z2 h2 => cL_set_ok (cx_l X) hX.2.2.2.2.2.2.2.2.2.2.2.2 N (v 1) (v 2) μ z2 h2) okh_L_set lm_L_186 rfl (fun _ _ => rfl) (Nat.le_of_ble_eq_true rfl) ⟨rfl, rfl, Nat.le_of_ble_eq_true rfl, Nat.le_of_ble_eq_true rfl⟩ ⟨by omega, by omega⟩ dL_law_1001 (fun r1 μ2 => ?_)
  refine L_istore hX [(5, .int r1), (0, .ref b), (1, .ref (cx_ad X 0)), (2, .ref (aM 0)), (3, .ref (cx_ad X 90)), (4, .int i)] (by decide) rfl dL_law_1004 ?_
  refine L_aload_n hX 3 rfl rfl dL_law_1006 ?_
  refine L_aload_n hX 1 rfl rfl dL_law_1007 ?_
  refine L_iload hX 5 rfl dL_law_1008 ?_
  refine L_iconst hX (1 : Int32) rfl dL_law_1010 ?_
  refine L_iadd hX dL_law_1011 ?_
  refine L_sv hX hv 1 (by decide) rfl dL_law_1012 ?_
  refine L_aload_n hX 1 rfl rfl dL_law_1013 ?_
  refine L_iload hX 5 rfl dL_law_1014 ?_
  refine L_iconst hX (2 : Int32) rfl dL_law_1016 ?_
  refine L_iadd hX dL_law_1017 ?_
  refine L_sv hX hv 2 (by decide) rfl dL_law_1018 ?_
  refine L_cMi hX 11 (fun ad adK => [.int (v 1), .int (v 2)]) [] (fun z2 h2 => cX11_set_ok (cx_l X) N (v 1) (v 2) ν z2 h2) ok_X11_set lm_L_188 rfl rfl rfl (fun _ _ => rfl) (Nat.le_of_ble_eq_true rfl) ⟨rfl, rfl, Nat.le_of_ble_eq_true rfl, Nat.le_of_ble_eq_true rfl⟩ ⟨by omega, by omega⟩ dL_law_1019 (fun r3 ν4 => ?_)
  refine L_istore hX [(6, .int r3), (5, .int r1), (0, .ref b), (1, .ref (cx_ad X 0)), (2, .ref (aM 0)), (3, .ref (cx_ad X 90)), (4, .int i)] (by decide) rfl dL_law_1022 ?_
  refine L_aload_n hX 4 rfl rfl dL_law_1024 ?_
  refine L_cMi hX 11 (fun ad adK => []) [] (fun z2 h2 => cX11_thrown_ok (cx_l X) N ν4 z2 h2) ok_X11_thrown lm_L_150 rfl rfl rfl (fun _ _ => rfl) (Nat.le_of_ble_eq_true rfl) ⟨rfl, rfl, Nat.le_of_ble_eq_true rfl, Nat.le_of_ble_eq_true rfl⟩ ⟨by omega, by omega⟩ dL_law_1025 (fun r5 ν6 => ?_)
  refine L_iload hX 1 rfl dL_law_1028 ?_
  refine L_icmp_eq hX 1035 rfl dL_law_1030 ?_ ?_
  · skip
    refine L_iload hX 1 rfl dL_law_1035 ?_
    refine L_if_ne hX 1052 rfl dL_law_1037 ?_ ?_
    · skip
      refine L_goto hX 2715 rfl dL_law_1052 ?_
      exact L_end hC [2, 3, 4, 5, 6] rfl ⟨by omega, by omega⟩
    · skip
      refine L_aload_n hX 5 rfl rfl dL_law_1040 ?_
      refine L_iconst hX (0 : Int32) rfl dL_law_1041 ?_
      refine L_outn hX dL_law_1042 (fun y7 => ?_)
      refine L_iload hX 0 rfl dL_law_1043 ?_
      refine L_i2l hX dL_law_1045 ?_
      refine L_lcmp hX dL_law_1046 ?_
      refine L_if_eq hX 1052 rfl dL_law_1047 ?_ ?_
      · skip
        refine L_goto hX 2715 rfl dL_law_1052 ?_
        exact L_end hC [2, 3, 4, 5, 6] rfl ⟨by omega, by omega⟩
      · skip
        exact L_none
  · skip
    exact L_none
theorem walkC13 {X : Ctx} {aM : Nat → Nat} {b L : Nat} {xs : Nat → Int32} {z : Mem × Mem} (hX : FL X aM b L xs) {i : Int32} {v : Nat → Int32} (hv : VI L xs i v) (N : Nat) (μ ν : Mem) {k n : Nat} (hk : k + 8 ≤ room_1.cells) (hn : n + 48 ≤ room_1.slots) (hC : CL X aM z [(0, .ref b), (1, .ref (cx_ad X 0)), (2, .ref (aM 0)), (3, .ref (cx_ad X 90)), (4, .int i)] (k + 8) (n + 48)) : GL X aM z 1055 [(0, .ref b), (1, .ref (cx_ad X 0)), (2, .ref (aM 0)), (3, .ref (cx_ad X 90)), (4, .int i)] [] μ ν k n (lawC13 N v μ ν) := by
  unfold lawC13
  refine L_aload_n hX 1 rfl rfl dL_law_1055 ?_
  refine L_aload_n hX 0 rfl rfl dL_law_1056 ?_
  refine L_iload hX 4 rfl dL_law_1057 ?_
  refine L_iconst hX (1 : Int32) rfl dL_law_1059 ?_
  refine L_iadd hX dL_law_1060 ?_
  refine L_sv hX hv 1 (by decide) rfl dL_law_1061 ?_
  refine L_aload_n hX 0 rfl rfl dL_law_1062 ?_
  refine L_iload hX 4 rfl dL_law_1063 ?_
  refine L_iconst hX (2 : Int32) rfl dL_law_1065 ?_
  refine L_iadd hX dL_law_1066 ?_
  refine L_sv hX hv 2 (by decide) rfl dL_law_1067 ?_
  refine L_booln hX dL_law_1068 dL_law_1071 dL_law_1072 dL_law_1075 (fun x1 => ?_)
  refine L_aload_n hX 3 rfl rfl dL_law_1076 ?_
  refine L_h hX (fun ad adK => [.ref (ad 0), .int (v 1), .int x1, .ref (ad 90)]) [] (fun z2 h2 => cL_silent_ok (cx_l X) hX.2.2.2.2.2.2.2.2.2.2.2.2 N (v 1) x1 μ z2 h2) okh_L_silent lm_L_189 rfl (fun _ _ => rfl) (Nat.le_of_ble_eq_true rfl) ⟨rfl, rfl, Nat.le_of_ble_eq_true rfl, Nat.le_of_ble_eq_true rfl⟩ ⟨by omega, by omega⟩ dL_law_1077 (fun r2 μ3 => ?_)
  refine L_istore hX [(5, .int r2), (0, .ref b), (1, .ref (cx_ad X 0)), (2, .ref (aM 0)), (3, .ref (cx_ad X 90)), (4, .int i)] (by decide) rfl dL_law_1080 ?_
  refine L_aload_n hX 3 rfl rfl dL_law_1082 ?_
  refine L_aload_n hX 1 rfl rfl dL_law_1083 ?_
  refine L_iload hX 5 rfl dL_law_1084 ?_
  refine L_iconst hX (1 : Int32) rfl dL_law_1086 ?_
  refine L_iadd hX dL_law_1087 ?_
  refine L_sv hX hv 1 (by decide) rfl dL_law_1088 ?_
  refine L_aload_n hX 1 rfl rfl dL_law_1089 ?_
  refine L_iload hX 5 rfl dL_law_1090 ?_
  refine L_iconst hX (2 : Int32) rfl dL_law_1092 ?_
  refine L_iadd hX dL_law_1093 ?_
  refine L_sv hX hv 2 (by decide) rfl dL_law_1094 ?_
  refine L_booln hX dL_law_1095 dL_law_1098 dL_law_1099 dL_law_1102 (fun x4 => ?_)
  refine L_cMi hX 11 (fun ad adK => [.int (v 1), .int x4]) [] (fun z2 h2 => cX11_silent_ok (cx_l X) N (v 1) x4 ν z2 h2) ok_X11_silent lm_L_192 rfl rfl rfl (fun _ _ => rfl) (Nat.le_of_ble_eq_true rfl) ⟨rfl, rfl, Nat.le_of_ble_eq_true rfl, Nat.le_of_ble_eq_true rfl⟩ ⟨by omega, by omega⟩ dL_law_1103 (fun r5 ν6 => ?_)
  refine L_istore hX [(6, .int r5), (5, .int r2), (0, .ref b), (1, .ref (cx_ad X 0)), (2, .ref (aM 0)), (3, .ref (cx_ad X 90)), (4, .int i)] (by decide) rfl dL_law_1106 ?_
  refine L_aload_n hX 4 rfl rfl dL_law_1108 ?_
  refine L_cMi hX 11 (fun ad adK => []) [] (fun z2 h2 => cX11_thrown_ok (cx_l X) N ν6 z2 h2) ok_X11_thrown lm_L_150 rfl rfl rfl (fun _ _ => rfl) (Nat.le_of_ble_eq_true rfl) ⟨rfl, rfl, Nat.le_of_ble_eq_true rfl, Nat.le_of_ble_eq_true rfl⟩ ⟨by omega, by omega⟩ dL_law_1109 (fun r7 ν8 => ?_)
  refine L_iload hX 1 rfl dL_law_1112 ?_
  refine L_icmp_eq hX 1119 rfl dL_law_1114 ?_ ?_
  · skip
    refine L_iload hX 1 rfl dL_law_1119 ?_
    refine L_if_ne hX 1143 rfl dL_law_1121 ?_ ?_
    · skip
      refine L_goto hX 2715 rfl dL_law_1143 ?_
      exact L_end hC [2, 3, 4, 5, 6] rfl ⟨by omega, by omega⟩
    · skip
      refine L_aload_n hX 5 rfl rfl dL_law_1124 ?_
      refine L_iconst hX (0 : Int32) rfl dL_law_1125 ?_
      refine L_outn hX dL_law_1126 (fun y9 => ?_)
      refine L_iload hX 0 rfl dL_law_1127 ?_
      refine L_if_eq hX 1136 rfl dL_law_1129 ?_ ?_
      · skip
        refine L_lconst hX (0 : Int64) rfl dL_law_1136 ?_
        refine L_lcmp hX dL_law_1137 ?_
        refine L_if_eq hX 1143 rfl dL_law_1138 ?_ ?_
        · skip
          refine L_goto hX 2715 rfl dL_law_1143 ?_
          exact L_end hC [2, 3, 4, 5, 6] rfl ⟨by omega, by omega⟩
        · skip
          exact L_none
      · skip
        refine L_lconst hX (1 : Int64) rfl dL_law_1132 ?_
        refine L_goto hX 1137 rfl dL_law_1133 ?_
        refine L_lcmp hX dL_law_1137 ?_
        refine L_if_eq hX 1143 rfl dL_law_1138 ?_ ?_
        · skip
          refine L_goto hX 2715 rfl dL_law_1143 ?_
          exact L_end hC [2, 3, 4, 5, 6] rfl ⟨by omega, by omega⟩
        · skip
          exact L_none
  · skip
    exact L_none
