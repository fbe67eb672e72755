section LAWCASES
set_option maxHeartbeats 4000000 in
set_option maxRecDepth 100000 in
theorem lc_addUser {Z : Zp} {p : Program} {l : Launch} {e : Env} {s : State} {m : MethodId} {args : Array Value} {below : List Frame} {meth : Method} {c : Code} {Q : State → Prop} {M0 : Wd} {A : AF} {C : CF} {b N n : Nat} {xs : Nat → Int32} (S : CallFix p m c cL_law 9 s args wsL_law RL) (hz : Stat Z s) (hml : c.maxLocals = 9) (hfl : l.stackTraces = false) (hX : Scr b N xs Z s) (hN : N ≤ 3584) (hn : 7 * n + 7 ≤ N) (h0 : LI Z n A C) (kk : ∀ (A2 : AF) (C2 : CF), LI Z (n + 1) A2 C2 → LGS Z p l e s m args below meth c Q (bC (n + 1) C2) (bS (n + 1) C2) M0 A2 C2 3146 (Ll b n A2) []) : LGS Z p l e s m args below meth c Q (bC n C) (bS n C) M0 A C 236 (Ll b n A) [] := by
  have hI := h0.1
  obtain ⟨hcapC, hcapS⟩ := h0.cap (by omega)
  refine s_aload_n (pc := 236) S 2 dL_law_236 rfl rfl ?_
  refine law_arg (pc := 237) (n := n) (j := 1) S hX 1 0 (by omega) hN (by decide) rfl rfl dL_law_237 dL_law_238 dL_law_240 dL_law_241 dL_law_242 ?_
  refine law_arg (pc := 243) (n := n) (j := 2) S hX 1 0 (by omega) hN (by decide) rfl rfl dL_law_243 dL_law_244 dL_law_246 dL_law_247 dL_law_248 ?_
  refine s_aload_n (pc := 249) S 4 dL_law_249 rfl rfl ?_
  refine s_callSX (pc := 250) S hz hml [.ref (A 0 0), .int (xs (7 * n + 1)), .int (xs (7 * n + 2)), .ref (A 70 0)] (k_L_addUser Z l A C hI (xs (7 * n + 1)) (xs (7 * n + 2))  hfl) (vx_cwSW 4 S.2.2.2.2 gL_law_L_addUser rfl rfl rfl (by decide +kernel) ⟨(Nat.le_of_ble_eq_true rfl), (Nat.le_of_ble_eq_true rfl)⟩) rfl rfl (Nat.le_of_ble_eq_true rfl) dL_law_250 ⟨by omega, by omega⟩ (fun v A1 C1 h => ?_)
  obtain ⟨k, rfl, hW⟩ := h
  obtain ⟨w1, w3, hk3⟩ := w_addUser hW
  have e6 : C1 60 = C 60 := w1 60 (by decide) (by decide)
  have e61 : C1 61 = C 61 := w1 61 (by decide) (by decide)
  have hO1 : OkM C1 := hI.2.1.cg e6 e61
  refine s_istore (pc := 253) S ((6, .int (nI k)) :: Ll b n A) dL_law_253 (by decide) rfl ?_
  refine s_loc (L2 := (6, .int (nI k)) :: Ll b n A1) (congrArg (List.cons _) (ll_st w3.1)) ?_
  refine s_aload_n (pc := 255) S 4 dL_law_255 rfl rfl ?_
  refine law_arg (pc := 256) (n := n) (j := 1) S hX 2 1 (by omega) hN (by decide) rfl rfl dL_law_256 dL_law_257 dL_law_259 dL_law_260 dL_law_261 ?_
  refine law_arg (pc := 262) (n := n) (j := 2) S hX 2 1 (by omega) hN (by decide) rfl rfl dL_law_262 dL_law_263 dL_law_265 dL_law_266 dL_law_267 ?_
  refine s_callV (pc := 268) S hz hml [.int (xs (7 * n + 1)), .int (xs (7 * n + 2))] (k_X7_addUser Z l A1 C1 (xs (7 * n + 1)) (xs (7 * n + 2))  hO1.1) (cwV 2 S.2.2.2.2 gL_law_X7_addUser rfl rfl rfl (by decide +kernel) ⟨(Nat.le_of_ble_eq_true rfl), (Nat.le_of_ble_eq_true rfl)⟩) (cc_mod (A := A1) (C := C1)) rfl rfl rfl (Nat.le_of_ble_eq_true rfl) dL_law_268 ⟨by omega, by omega⟩ (fun _ _ _ h => h.elim) (fun v A2 C2 h => ?_)
  have h7 : K7_addUser A1 C1 (xs (7 * n + 1)) (xs (7 * n + 2)) v A2 C2 := h
  obtain ⟨hB, b7, rfl, hv⟩ := ag_addUser  hI hW h7
  refine s_istore (pc := 271) S ((7, .int b7) :: (6, .int (nI k)) :: Ll b n A1) dL_law_271 (by decide) rfl ?_
  refine s_loc (L2 := (7, .int b7) :: (6, .int (nI k)) :: Ll b n A2) (congrArg (fun q => (7, .int b7) :: (6, .int (nI k)) :: q) ((ll_st w3.1).symm.trans (ll_st hB.2.2.1.1))) ?_
  obtain ⟨hL1, hc1, hs1⟩ := h0.next hB
  exact law_tl (pc := 273) S hz hml hB.1 hk3 hv ⟨by omega, by omega⟩ _ dL_law_273 dL_law_274 dL_law_277 dL_law_279 dL_law_284 dL_law_286 dL_law_289 dL_law_290 dL_law_291 dL_law_292 dL_law_294 dL_law_295 dL_law_296 dL_law_301 (by decide) (s_widen (by omega) (by omega) (kk A2 C2 hL1))
set_option maxHeartbeats 4000000 in
set_option maxRecDepth 100000 in
theorem lc_addPrinter {Z : Zp} {p : Program} {l : Launch} {e : Env} {s : State} {m : MethodId} {args : Array Value} {below : List Frame} {meth : Method} {c : Code} {Q : State → Prop} {M0 : Wd} {A : AF} {C : CF} {b N n : Nat} {xs : Nat → Int32} (S : CallFix p m c cL_law 9 s args wsL_law RL) (hz : Stat Z s) (hml : c.maxLocals = 9) (hfl : l.stackTraces = false) (hX : Scr b N xs Z s) (hN : N ≤ 3584) (hn : 7 * n + 7 ≤ N) (h0 : LI Z n A C) (kk : ∀ (A2 : AF) (C2 : CF), LI Z (n + 1) A2 C2 → LGS Z p l e s m args below meth c Q (bC (n + 1) C2) (bS (n + 1) C2) M0 A2 C2 3146 (Ll b n A2) []) : LGS Z p l e s m args below meth c Q (bC n C) (bS n C) M0 A C 304 (Ll b n A) [] := by
  have hI := h0.1
  obtain ⟨hcapC, hcapS⟩ := h0.cap (by omega)
  refine s_aload_n (pc := 304) S 2 dL_law_304 rfl rfl ?_
  refine law_arg (pc := 305) (n := n) (j := 1) S hX 1 0 (by omega) hN (by decide) rfl rfl dL_law_305 dL_law_306 dL_law_308 dL_law_309 dL_law_310 ?_
  refine law_bool (pc := 311) S dL_law_311 dL_law_314 dL_law_315 dL_law_318 ?_
  refine law_arg (pc := 319) (n := n) (j := 2) S hX 1 0 (by omega) hN (by decide) rfl rfl dL_law_319 dL_law_320 dL_law_322 dL_law_323 dL_law_324 ?_
  refine law_arg (pc := 325) (n := n) (j := 3) S hX 1 0 (by omega) hN (by decide) rfl rfl dL_law_325 dL_law_326 dL_law_328 dL_law_329 dL_law_330 ?_
  refine s_aload_n (pc := 331) S 4 dL_law_331 rfl rfl ?_
  refine s_callSX (pc := 332) S hz hml [.ref (A 0 0), .int (nI (bz (xs (7 * n + 1)))), .int (xs (7 * n + 2)), .int (xs (7 * n + 3)), .ref (A 70 0)] (k_L_addPrinter Z l A C hI (bz (xs (7 * n + 1))) (xs (7 * n + 2)) (xs (7 * n + 3)) (bz_lt _) hfl) (vx_cwSW 5 S.2.2.2.2 gL_law_L_addPrinter rfl rfl rfl (by decide +kernel) ⟨(Nat.le_of_ble_eq_true rfl), (Nat.le_of_ble_eq_true rfl)⟩) rfl rfl (Nat.le_of_ble_eq_true rfl) dL_law_332 ⟨by omega, by omega⟩ (fun v A1 C1 h => ?_)
  obtain ⟨k, rfl, hW⟩ := h
  obtain ⟨w1, w3, hk3⟩ := w_addPrinter hW
  have e6 : C1 60 = C 60 := w1 60 (by decide) (by decide)
  have e61 : C1 61 = C 61 := w1 61 (by decide) (by decide)
  have hO1 : OkM C1 := hI.2.1.cg e6 e61
  refine s_istore (pc := 335) S ((6, .int (nI k)) :: Ll b n A) dL_law_335 (by decide) rfl ?_
  refine s_loc (L2 := (6, .int (nI k)) :: Ll b n A1) (congrArg (List.cons _) (ll_st w3.1)) ?_
  refine s_aload_n (pc := 337) S 4 dL_law_337 rfl rfl ?_
  refine law_arg (pc := 338) (n := n) (j := 1) S hX 2 1 (by omega) hN (by decide) rfl rfl dL_law_338 dL_law_339 dL_law_341 dL_law_342 dL_law_343 ?_
  refine law_bool (pc := 344) S dL_law_344 dL_law_347 dL_law_348 dL_law_351 ?_
  refine law_arg (pc := 352) (n := n) (j := 2) S hX 2 1 (by omega) hN (by decide) rfl rfl dL_law_352 dL_law_353 dL_law_355 dL_law_356 dL_law_357 ?_
  refine law_arg (pc := 358) (n := n) (j := 3) S hX 2 1 (by omega) hN (by decide) rfl rfl dL_law_358 dL_law_359 dL_law_361 dL_law_362 dL_law_363 ?_
  refine s_callV (pc := 364) S hz hml [.int (nI (bz (xs (7 * n + 1)))), .int (xs (7 * n + 2)), .int (xs (7 * n + 3))] (k_X7_addPrinter Z l A1 C1 (bz (xs (7 * n + 1))) (xs (7 * n + 2)) (xs (7 * n + 3)) (bz_lt _) hO1.1) (cwV 3 S.2.2.2.2 gL_law_X7_addPrinter rfl rfl rfl (by decide +kernel) ⟨(Nat.le_of_ble_eq_true rfl), (Nat.le_of_ble_eq_true rfl)⟩) (cc_mod (A := A1) (C := C1)) rfl rfl rfl (Nat.le_of_ble_eq_true rfl) dL_law_364 ⟨by omega, by omega⟩ (fun _ _ _ h => h.elim) (fun v A2 C2 h => ?_)
  have h7 : K7_addPrinter A1 C1 (bz (xs (7 * n + 1))) (xs (7 * n + 2)) (xs (7 * n + 3)) v A2 C2 := h
  obtain ⟨hB, b7, rfl, hv⟩ := ag_addPrinter (bz_lt _) hI hW h7
  refine s_istore (pc := 367) S ((7, .int b7) :: (6, .int (nI k)) :: Ll b n A1) dL_law_367 (by decide) rfl ?_
  refine s_loc (L2 := (7, .int b7) :: (6, .int (nI k)) :: Ll b n A2) (congrArg (fun q => (7, .int b7) :: (6, .int (nI k)) :: q) ((ll_st w3.1).symm.trans (ll_st hB.2.2.1.1))) ?_
  obtain ⟨hL1, hc1, hs1⟩ := h0.next hB
  exact law_tl (pc := 369) S hz hml hB.1 hk3 hv ⟨by omega, by omega⟩ _ dL_law_369 dL_law_370 dL_law_373 dL_law_375 dL_law_380 dL_law_382 dL_law_385 dL_law_386 dL_law_387 dL_law_388 dL_law_390 dL_law_391 dL_law_392 dL_law_397 (by decide) (s_widen (by omega) (by omega) (kk A2 C2 hL1))
set_option maxHeartbeats 4000000 in
set_option maxRecDepth 100000 in
theorem lc_addTray {Z : Zp} {p : Program} {l : Launch} {e : Env} {s : State} {m : MethodId} {args : Array Value} {below : List Frame} {meth : Method} {c : Code} {Q : State → Prop} {M0 : Wd} {A : AF} {C : CF} {b N n : Nat} {xs : Nat → Int32} (S : CallFix p m c cL_law 9 s args wsL_law RL) (hz : Stat Z s) (hml : c.maxLocals = 9) (hfl : l.stackTraces = false) (hX : Scr b N xs Z s) (hN : N ≤ 3584) (hn : 7 * n + 7 ≤ N) (h0 : LI Z n A C) (kk : ∀ (A2 : AF) (C2 : CF), LI Z (n + 1) A2 C2 → LGS Z p l e s m args below meth c Q (bC (n + 1) C2) (bS (n + 1) C2) M0 A2 C2 3146 (Ll b n A2) []) : LGS Z p l e s m args below meth c Q (bC n C) (bS n C) M0 A C 400 (Ll b n A) [] := by
  have hI := h0.1
  obtain ⟨hcapC, hcapS⟩ := h0.cap (by omega)
  refine s_aload_n (pc := 400) S 2 dL_law_400 rfl rfl ?_
  refine law_arg (pc := 401) (n := n) (j := 1) S hX 1 0 (by omega) hN (by decide) rfl rfl dL_law_401 dL_law_402 dL_law_404 dL_law_405 dL_law_406 ?_
  refine law_arg (pc := 407) (n := n) (j := 2) S hX 1 0 (by omega) hN (by decide) rfl rfl dL_law_407 dL_law_408 dL_law_410 dL_law_411 dL_law_412 ?_
  refine law_char (pc := 413) S dL_law_413 ?_
  refine law_arg (pc := 414) (n := n) (j := 3) S hX 1 0 (by omega) hN (by decide) rfl rfl dL_law_414 dL_law_415 dL_law_417 dL_law_418 dL_law_419 ?_
  refine s_aload_n (pc := 420) S 4 dL_law_420 rfl rfl ?_
  refine s_callSX (pc := 421) S hz hml [.ref (A 0 0), .int (xs (7 * n + 1)), .int (nI (cz (xs (7 * n + 2)))), .int (xs (7 * n + 3)), .ref (A 70 0)] (k_L_addTray Z l A C hI (xs (7 * n + 1)) (cz (xs (7 * n + 2))) (xs (7 * n + 3)) (cz_lt _) hfl) (vx_cwSW 5 S.2.2.2.2 gL_law_L_addTray rfl rfl rfl (by decide +kernel) ⟨(Nat.le_of_ble_eq_true rfl), (Nat.le_of_ble_eq_true rfl)⟩) rfl rfl (Nat.le_of_ble_eq_true rfl) dL_law_421 ⟨by omega, by omega⟩ (fun v A1 C1 h => ?_)
  obtain ⟨k, rfl, hW⟩ := h
  obtain ⟨w1, w3, hk3⟩ := w_addTray hW
  have e6 : C1 60 = C 60 := w1 60 (by decide) (by decide)
  have e61 : C1 61 = C 61 := w1 61 (by decide) (by decide)
  have hO1 : OkM C1 := hI.2.1.cg e6 e61
  refine s_istore (pc := 424) S ((6, .int (nI k)) :: Ll b n A) dL_law_424 (by decide) rfl ?_
  refine s_loc (L2 := (6, .int (nI k)) :: Ll b n A1) (congrArg (List.cons _) (ll_st w3.1)) ?_
  refine s_aload_n (pc := 426) S 4 dL_law_426 rfl rfl ?_
  refine law_arg (pc := 427) (n := n) (j := 1) S hX 2 1 (by omega) hN (by decide) rfl rfl dL_law_427 dL_law_428 dL_law_430 dL_law_431 dL_law_432 ?_
  refine law_arg (pc := 433) (n := n) (j := 2) S hX 2 1 (by omega) hN (by decide) rfl rfl dL_law_433 dL_law_434 dL_law_436 dL_law_437 dL_law_438 ?_
  refine law_char (pc := 439) S dL_law_439 ?_
  refine law_arg (pc := 440) (n := n) (j := 3) S hX 2 1 (by omega) hN (by decide) rfl rfl dL_law_440 dL_law_441 dL_law_443 dL_law_444 dL_law_445 ?_
  refine s_callV (pc := 446) S hz hml [.int (xs (7 * n + 1)), .int (nI (cz (xs (7 * n + 2)))), .int (xs (7 * n + 3))] (k_X7_addTray Z l A1 C1 (xs (7 * n + 1)) (cz (xs (7 * n + 2))) (xs (7 * n + 3)) (cz_lt _) hO1.1) (cwV 3 S.2.2.2.2 gL_law_X7_addTray rfl rfl rfl (by decide +kernel) ⟨(Nat.le_of_ble_eq_true rfl), (Nat.le_of_ble_eq_true rfl)⟩) (cc_mod (A := A1) (C := C1)) rfl rfl rfl (Nat.le_of_ble_eq_true rfl) dL_law_446 ⟨by omega, by omega⟩ (fun _ _ _ h => h.elim) (fun v A2 C2 h => ?_)
  have h7 : K7_addTray A1 C1 (xs (7 * n + 1)) (cz (xs (7 * n + 2))) (xs (7 * n + 3)) v A2 C2 := h
  obtain ⟨hB, b7, rfl, hv⟩ := ag_addTray (cz_lt _) hI hW h7
  refine s_istore (pc := 449) S ((7, .int b7) :: (6, .int (nI k)) :: Ll b n A1) dL_law_449 (by decide) rfl ?_
  refine s_loc (L2 := (7, .int b7) :: (6, .int (nI k)) :: Ll b n A2) (congrArg (fun q => (7, .int b7) :: (6, .int (nI k)) :: q) ((ll_st w3.1).symm.trans (ll_st hB.2.2.1.1))) ?_
  obtain ⟨hL1, hc1, hs1⟩ := h0.next hB
  exact law_tl (pc := 451) S hz hml hB.1 hk3 hv ⟨by omega, by omega⟩ _ dL_law_451 dL_law_452 dL_law_455 dL_law_457 dL_law_462 dL_law_464 dL_law_467 dL_law_468 dL_law_469 dL_law_470 dL_law_472 dL_law_473 dL_law_474 dL_law_479 (by decide) (s_widen (by omega) (by omega) (kk A2 C2 hL1))
set_option maxHeartbeats 4000000 in
set_option maxRecDepth 100000 in
theorem lc_trayCount {Z : Zp} {p : Program} {l : Launch} {e : Env} {s : State} {m : MethodId} {args : Array Value} {below : List Frame} {meth : Method} {c : Code} {Q : State → Prop} {M0 : Wd} {A : AF} {C : CF} {b N n : Nat} {xs : Nat → Int32} (S : CallFix p m c cL_law 9 s args wsL_law RL) (hz : Stat Z s) (hml : c.maxLocals = 9) (hfl : l.stackTraces = false) (hX : Scr b N xs Z s) (hN : N ≤ 3584) (hn : 7 * n + 7 ≤ N) (h0 : LI Z n A C) (kk : ∀ (A2 : AF) (C2 : CF), LI Z (n + 1) A2 C2 → LGS Z p l e s m args below meth c Q (bC (n + 1) C2) (bS (n + 1) C2) M0 A2 C2 3146 (Ll b n A2) []) : LGS Z p l e s m args below meth c Q (bC n C) (bS n C) M0 A C 482 (Ll b n A) [] := by
  have hI := h0.1
  obtain ⟨hcapC, hcapS⟩ := h0.cap (by omega)
  refine s_aload_n (pc := 482) S 2 dL_law_482 rfl rfl ?_
  refine law_arg (pc := 483) (n := n) (j := 1) S hX 1 0 (by omega) hN (by decide) rfl rfl dL_law_483 dL_law_484 dL_law_486 dL_law_487 dL_law_488 ?_
  refine s_aload_n (pc := 489) S 4 dL_law_489 rfl rfl ?_
  refine s_callSX (pc := 490) S hz hml [.ref (A 0 0), .int (xs (7 * n + 1)), .ref (A 70 0)] (k_L_trayCount Z l A C hI (xs (7 * n + 1))  hfl) (vx_cwSW 3 S.2.2.2.2 gL_law_L_trayCount rfl rfl rfl (by decide +kernel) ⟨(Nat.le_of_ble_eq_true rfl), (Nat.le_of_ble_eq_true rfl)⟩) rfl rfl (Nat.le_of_ble_eq_true rfl) dL_law_490 ⟨by omega, by omega⟩ (fun v A1 C1 h => ?_)
  obtain ⟨k, rfl, hW⟩ := h
  obtain ⟨w1, w3, hk3⟩ := w_trayCount hW
  have e6 : C1 60 = C 60 := w1 60 (by decide) (by decide)
  have e61 : C1 61 = C 61 := w1 61 (by decide) (by decide)
  have hO1 : OkM C1 := hI.2.1.cg e6 e61
  refine s_istore (pc := 493) S ((6, .int (nI k)) :: Ll b n A) dL_law_493 (by decide) rfl ?_
  refine s_loc (L2 := (6, .int (nI k)) :: Ll b n A1) (congrArg (List.cons _) (ll_st w3.1)) ?_
  refine s_aload_n (pc := 495) S 4 dL_law_495 rfl rfl ?_
  refine law_arg (pc := 496) (n := n) (j := 1) S hX 2 1 (by omega) hN (by decide) rfl rfl dL_law_496 dL_law_497 dL_law_499 dL_law_500 dL_law_501 ?_
  refine s_callV (pc := 502) S hz hml [.int (xs (7 * n + 1))] (k_X7_trayCount Z l A1 C1 (xs (7 * n + 1))  hO1.1) (cwV 1 S.2.2.2.2 gL_law_X7_trayCount rfl rfl rfl (by decide +kernel) ⟨(Nat.le_of_ble_eq_true rfl), (Nat.le_of_ble_eq_true rfl)⟩) (cc_mod (A := A1) (C := C1)) rfl rfl rfl (Nat.le_of_ble_eq_true rfl) dL_law_502 ⟨by omega, by omega⟩ (fun _ _ _ h => h.elim) (fun v A2 C2 h => ?_)
  have h7 : K7_trayCount A1 C1 (xs (7 * n + 1)) v A2 C2 := h
  obtain ⟨hB, b7, rfl, hv⟩ := ag_trayCount  hI hW h7
  refine s_istore (pc := 505) S ((7, .int b7) :: (6, .int (nI k)) :: Ll b n A1) dL_law_505 (by decide) rfl ?_
  refine s_loc (L2 := (7, .int b7) :: (6, .int (nI k)) :: Ll b n A2) (congrArg (fun q => (7, .int b7) :: (6, .int (nI k)) :: q) ((ll_st w3.1).symm.trans (ll_st hB.2.2.1.1))) ?_
  obtain ⟨hL1, hc1, hs1⟩ := h0.next hB
  exact law_tl (pc := 507) S hz hml hB.1 hk3 hv ⟨by omega, by omega⟩ _ dL_law_507 dL_law_508 dL_law_511 dL_law_513 dL_law_518 dL_law_520 dL_law_523 dL_law_524 dL_law_525 dL_law_526 dL_law_528 dL_law_529 dL_law_530 dL_law_535 (by decide) (s_widen (by omega) (by omega) (kk A2 C2 hL1))
set_option maxHeartbeats 4000000 in
set_option maxRecDepth 100000 in
theorem lc_load {Z : Zp} {p : Program} {l : Launch} {e : Env} {s : State} {m : MethodId} {args : Array Value} {below : List Frame} {meth : Method} {c : Code} {Q : State → Prop} {M0 : Wd} {A : AF} {C : CF} {b N n : Nat} {xs : Nat → Int32} (S : CallFix p m c cL_law 9 s args wsL_law RL) (hz : Stat Z s) (hml : c.maxLocals = 9) (hfl : l.stackTraces = false) (hX : Scr b N xs Z s) (hN : N ≤ 3584) (hn : 7 * n + 7 ≤ N) (h0 : LI Z n A C) (kk : ∀ (A2 : AF) (C2 : CF), LI Z (n + 1) A2 C2 → LGS Z p l e s m args below meth c Q (bC (n + 1) C2) (bS (n + 1) C2) M0 A2 C2 3146 (Ll b n A2) []) : LGS Z p l e s m args below meth c Q (bC n C) (bS n C) M0 A C 538 (Ll b n A) [] := by
  have hI := h0.1
  obtain ⟨hcapC, hcapS⟩ := h0.cap (by omega)
  refine s_aload_n (pc := 538) S 2 dL_law_538 rfl rfl ?_
  refine law_arg (pc := 539) (n := n) (j := 1) S hX 1 0 (by omega) hN (by decide) rfl rfl dL_law_539 dL_law_540 dL_law_542 dL_law_543 dL_law_544 ?_
  refine law_arg (pc := 545) (n := n) (j := 2) S hX 1 0 (by omega) hN (by decide) rfl rfl dL_law_545 dL_law_546 dL_law_548 dL_law_549 dL_law_550 ?_
  refine law_arg (pc := 551) (n := n) (j := 3) S hX 1 0 (by omega) hN (by decide) rfl rfl dL_law_551 dL_law_552 dL_law_554 dL_law_555 dL_law_556 ?_
  refine s_aload_n (pc := 557) S 4 dL_law_557 rfl rfl ?_
  refine s_callSX (pc := 558) S hz hml [.ref (A 0 0), .int (xs (7 * n + 1)), .int (xs (7 * n + 2)), .int (xs (7 * n + 3)), .ref (A 70 0)] (k_L_load Z l A C hI (xs (7 * n + 1)) (xs (7 * n + 2)) (xs (7 * n + 3))  hfl) (vx_cwSW 5 S.2.2.2.2 gL_law_L_load rfl rfl rfl (by decide +kernel) ⟨(Nat.le_of_ble_eq_true rfl), (Nat.le_of_ble_eq_true rfl)⟩) rfl rfl (Nat.le_of_ble_eq_true rfl) dL_law_558 ⟨by omega, by omega⟩ (fun v A1 C1 h => ?_)
  obtain ⟨k, rfl, hW⟩ := h
  obtain ⟨w1, w3, hk3⟩ := w_load hW
  have e6 : C1 60 = C 60 := w1 60 (by decide) (by decide)
  have e61 : C1 61 = C 61 := w1 61 (by decide) (by decide)
  have hO1 : OkM C1 := hI.2.1.cg e6 e61
  refine s_istore (pc := 561) S ((6, .int (nI k)) :: Ll b n A) dL_law_561 (by decide) rfl ?_
  refine s_loc (L2 := (6, .int (nI k)) :: Ll b n A1) (congrArg (List.cons _) (ll_st w3.1)) ?_
  refine s_aload_n (pc := 563) S 4 dL_law_563 rfl rfl ?_
  refine law_arg (pc := 564) (n := n) (j := 1) S hX 2 1 (by omega) hN (by decide) rfl rfl dL_law_564 dL_law_565 dL_law_567 dL_law_568 dL_law_569 ?_
  refine law_arg (pc := 570) (n := n) (j := 2) S hX 2 1 (by omega) hN (by decide) rfl rfl dL_law_570 dL_law_571 dL_law_573 dL_law_574 dL_law_575 ?_
  refine law_arg (pc := 576) (n := n) (j := 3) S hX 2 1 (by omega) hN (by decide) rfl rfl dL_law_576 dL_law_577 dL_law_579 dL_law_580 dL_law_581 ?_
  refine s_callV (pc := 582) S hz hml [.int (xs (7 * n + 1)), .int (xs (7 * n + 2)), .int (xs (7 * n + 3))] (k_X7_load Z l A1 C1 (xs (7 * n + 1)) (xs (7 * n + 2)) (xs (7 * n + 3))  hO1.1) (cwV 3 S.2.2.2.2 gL_law_X7_load rfl rfl rfl (by decide +kernel) ⟨(Nat.le_of_ble_eq_true rfl), (Nat.le_of_ble_eq_true rfl)⟩) (cc_mod (A := A1) (C := C1)) rfl rfl rfl (Nat.le_of_ble_eq_true rfl) dL_law_582 ⟨by omega, by omega⟩ (fun _ _ _ h => h.elim) (fun v A2 C2 h => ?_)
  have h7 : K7_load A1 C1 (xs (7 * n + 1)) (xs (7 * n + 2)) (xs (7 * n + 3)) v A2 C2 := h
  obtain ⟨hB, b7, rfl, hv⟩ := ag_load  hI hW h7
  refine s_istore (pc := 585) S ((7, .int b7) :: (6, .int (nI k)) :: Ll b n A1) dL_law_585 (by decide) rfl ?_
  refine s_loc (L2 := (7, .int b7) :: (6, .int (nI k)) :: Ll b n A2) (congrArg (fun q => (7, .int b7) :: (6, .int (nI k)) :: q) ((ll_st w3.1).symm.trans (ll_st hB.2.2.1.1))) ?_
  obtain ⟨hL1, hc1, hs1⟩ := h0.next hB
  exact law_tl (pc := 587) S hz hml hB.1 hk3 hv ⟨by omega, by omega⟩ _ dL_law_587 dL_law_588 dL_law_591 dL_law_593 dL_law_598 dL_law_600 dL_law_603 dL_law_604 dL_law_605 dL_law_606 dL_law_608 dL_law_609 dL_law_610 dL_law_615 (by decide) (s_widen (by omega) (by omega) (kk A2 C2 hL1))
set_option maxHeartbeats 4000000 in
set_option maxRecDepth 100000 in
theorem lc_changePaper {Z : Zp} {p : Program} {l : Launch} {e : Env} {s : State} {m : MethodId} {args : Array Value} {below : List Frame} {meth : Method} {c : Code} {Q : State → Prop} {M0 : Wd} {A : AF} {C : CF} {b N n : Nat} {xs : Nat → Int32} (S : CallFix p m c cL_law 9 s args wsL_law RL) (hz : Stat Z s) (hml : c.maxLocals = 9) (hfl : l.stackTraces = false) (hX : Scr b N xs Z s) (hN : N ≤ 3584) (hn : 7 * n + 7 ≤ N) (h0 : LI Z n A C) (kk : ∀ (A2 : AF) (C2 : CF), LI Z (n + 1) A2 C2 → LGS Z p l e s m args below meth c Q (bC (n + 1) C2) (bS (n + 1) C2) M0 A2 C2 3146 (Ll b n A2) []) : LGS Z p l e s m args below meth c Q (bC n C) (bS n C) M0 A C 618 (Ll b n A) [] := by
  have hI := h0.1
  obtain ⟨hcapC, hcapS⟩ := h0.cap (by omega)
  refine s_aload_n (pc := 618) S 2 dL_law_618 rfl rfl ?_
  refine law_arg (pc := 619) (n := n) (j := 1) S hX 1 0 (by omega) hN (by decide) rfl rfl dL_law_619 dL_law_620 dL_law_622 dL_law_623 dL_law_624 ?_
  refine law_arg (pc := 625) (n := n) (j := 2) S hX 1 0 (by omega) hN (by decide) rfl rfl dL_law_625 dL_law_626 dL_law_628 dL_law_629 dL_law_630 ?_
  refine law_arg (pc := 631) (n := n) (j := 3) S hX 1 0 (by omega) hN (by decide) rfl rfl dL_law_631 dL_law_632 dL_law_634 dL_law_635 dL_law_636 ?_
  refine law_char (pc := 637) S dL_law_637 ?_
  refine s_aload_n (pc := 638) S 4 dL_law_638 rfl rfl ?_
  refine s_callSX (pc := 639) S hz hml [.ref (A 0 0), .int (xs (7 * n + 1)), .int (xs (7 * n + 2)), .int (nI (cz (xs (7 * n + 3)))), .ref (A 70 0)] (k_L_changePaper Z l A C hI (xs (7 * n + 1)) (xs (7 * n + 2)) (cz (xs (7 * n + 3))) (cz_lt _) hfl) (vx_cwSW 5 S.2.2.2.2 gL_law_L_changePaper rfl rfl rfl (by decide +kernel) ⟨(Nat.le_of_ble_eq_true rfl), (Nat.le_of_ble_eq_true rfl)⟩) rfl rfl (Nat.le_of_ble_eq_true rfl) dL_law_639 ⟨by omega, by omega⟩ (fun v A1 C1 h => ?_)
  obtain ⟨k, rfl, hW⟩ := h
  obtain ⟨w1, w3, hk3⟩ := w_changePaper hW
  have e6 : C1 60 = C 60 := w1 60 (by decide) (by decide)
  have e61 : C1 61 = C 61 := w1 61 (by decide) (by decide)
  have hO1 : OkM C1 := hI.2.1.cg e6 e61
  refine s_istore (pc := 642) S ((6, .int (nI k)) :: Ll b n A) dL_law_642 (by decide) rfl ?_
  refine s_loc (L2 := (6, .int (nI k)) :: Ll b n A1) (congrArg (List.cons _) (ll_st w3.1)) ?_
  refine s_aload_n (pc := 644) S 4 dL_law_644 rfl rfl ?_
  refine law_arg (pc := 645) (n := n) (j := 1) S hX 2 1 (by omega) hN (by decide) rfl rfl dL_law_645 dL_law_646 dL_law_648 dL_law_649 dL_law_650 ?_
  refine law_arg (pc := 651) (n := n) (j := 2) S hX 2 1 (by omega) hN (by decide) rfl rfl dL_law_651 dL_law_652 dL_law_654 dL_law_655 dL_law_656 ?_
  refine law_arg (pc := 657) (n := n) (j := 3) S hX 2 1 (by omega) hN (by decide) rfl rfl dL_law_657 dL_law_658 dL_law_660 dL_law_661 dL_law_662 ?_
  refine law_char (pc := 663) S dL_law_663 ?_
  refine s_callV (pc := 664) S hz hml [.int (xs (7 * n + 1)), .int (xs (7 * n + 2)), .int (nI (cz (xs (7 * n + 3))))] (k_X7_changePaper Z l A1 C1 (xs (7 * n + 1)) (xs (7 * n + 2)) (cz (xs (7 * n + 3))) (cz_lt _) hO1.1) (cwV 3 S.2.2.2.2 gL_law_X7_changePaper rfl rfl rfl (by decide +kernel) ⟨(Nat.le_of_ble_eq_true rfl), (Nat.le_of_ble_eq_true rfl)⟩) (cc_mod (A := A1) (C := C1)) rfl rfl rfl (Nat.le_of_ble_eq_true rfl) dL_law_664 ⟨by omega, by omega⟩ (fun _ _ _ h => h.elim) (fun v A2 C2 h => ?_)
  have h7 : K7_changePaper A1 C1 (xs (7 * n + 1)) (xs (7 * n + 2)) (cz (xs (7 * n + 3))) v A2 C2 := h
  obtain ⟨hB, b7, rfl, hv⟩ := ag_changePaper (cz_lt _) hI hW h7
  refine s_istore (pc := 667) S ((7, .int b7) :: (6, .int (nI k)) :: Ll b n A1) dL_law_667 (by decide) rfl ?_
  refine s_loc (L2 := (7, .int b7) :: (6, .int (nI k)) :: Ll b n A2) (congrArg (fun q => (7, .int b7) :: (6, .int (nI k)) :: q) ((ll_st w3.1).symm.trans (ll_st hB.2.2.1.1))) ?_
  obtain ⟨hL1, hc1, hs1⟩ := h0.next hB
  exact law_tl (pc := 669) S hz hml hB.1 hk3 hv ⟨by omega, by omega⟩ _ dL_law_669 dL_law_670 dL_law_673 dL_law_675 dL_law_680 dL_law_682 dL_law_685 dL_law_686 dL_law_687 dL_law_688 dL_law_690 dL_law_691 dL_law_692 dL_law_697 (by decide) (s_widen (by omega) (by omega) (kk A2 C2 hL1))
set_option maxHeartbeats 4000000 in
set_option maxRecDepth 100000 in
theorem lc_sheetsIn {Z : Zp} {p : Program} {l : Launch} {e : Env} {s : State} {m : MethodId} {args : Array Value} {below : List Frame} {meth : Method} {c : Code} {Q : State → Prop} {M0 : Wd} {A : AF} {C : CF} {b N n : Nat} {xs : Nat → Int32} (S : CallFix p m c cL_law 9 s args wsL_law RL) (hz : Stat Z s) (hml : c.maxLocals = 9) (hfl : l.stackTraces = false) (hX : Scr b N xs Z s) (hN : N ≤ 3584) (hn : 7 * n + 7 ≤ N) (h0 : LI Z n A C) (kk : ∀ (A2 : AF) (C2 : CF), LI Z (n + 1) A2 C2 → LGS Z p l e s m args below meth c Q (bC (n + 1) C2) (bS (n + 1) C2) M0 A2 C2 3146 (Ll b n A2) []) : LGS Z p l e s m args below meth c Q (bC n C) (bS n C) M0 A C 700 (Ll b n A) [] := by
  have hI := h0.1
  obtain ⟨hcapC, hcapS⟩ := h0.cap (by omega)
  refine s_aload_n (pc := 700) S 2 dL_law_700 rfl rfl ?_
  refine law_arg (pc := 701) (n := n) (j := 1) S hX 1 0 (by omega) hN (by decide) rfl rfl dL_law_701 dL_law_702 dL_law_704 dL_law_705 dL_law_706 ?_
  refine law_arg (pc := 707) (n := n) (j := 2) S hX 1 0 (by omega) hN (by decide) rfl rfl dL_law_707 dL_law_708 dL_law_710 dL_law_711 dL_law_712 ?_
  refine s_aload_n (pc := 713) S 4 dL_law_713 rfl rfl ?_
  refine s_callSX (pc := 714) S hz hml [.ref (A 0 0), .int (xs (7 * n + 1)), .int (xs (7 * n + 2)), .ref (A 70 0)] (k_L_sheetsIn Z l A C hI (xs (7 * n + 1)) (xs (7 * n + 2))  hfl) (vx_cwSW 4 S.2.2.2.2 gL_law_L_sheetsIn rfl rfl rfl (by decide +kernel) ⟨(Nat.le_of_ble_eq_true rfl), (Nat.le_of_ble_eq_true rfl)⟩) rfl rfl (Nat.le_of_ble_eq_true rfl) dL_law_714 ⟨by omega, by omega⟩ (fun v A1 C1 h => ?_)
  obtain ⟨k, rfl, hW⟩ := h
  obtain ⟨w1, w3, hk3⟩ := w_sheetsIn hW
  have e6 : C1 60 = C 60 := w1 60 (by decide) (by decide)
  have e61 : C1 61 = C 61 := w1 61 (by decide) (by decide)
  have hO1 : OkM C1 := hI.2.1.cg e6 e61
  refine s_istore (pc := 717) S ((6, .int (nI k)) :: Ll b n A) dL_law_717 (by decide) rfl ?_
  refine s_loc (L2 := (6, .int (nI k)) :: Ll b n A1) (congrArg (List.cons _) (ll_st w3.1)) ?_
  refine s_aload_n (pc := 719) S 4 dL_law_719 rfl rfl ?_
  refine law_arg (pc := 720) (n := n) (j := 1) S hX 2 1 (by omega) hN (by decide) rfl rfl dL_law_720 dL_law_721 dL_law_723 dL_law_724 dL_law_725 ?_
  refine law_arg (pc := 726) (n := n) (j := 2) S hX 2 1 (by omega) hN (by decide) rfl rfl dL_law_726 dL_law_727 dL_law_729 dL_law_730 dL_law_731 ?_
  refine s_callV (pc := 732) S hz hml [.int (xs (7 * n + 1)), .int (xs (7 * n + 2))] (k_X7_sheetsIn Z l A1 C1 (xs (7 * n + 1)) (xs (7 * n + 2))  hO1.1) (cwV 2 S.2.2.2.2 gL_law_X7_sheetsIn rfl rfl rfl (by decide +kernel) ⟨(Nat.le_of_ble_eq_true rfl), (Nat.le_of_ble_eq_true rfl)⟩) (cc_mod (A := A1) (C := C1)) rfl rfl rfl (Nat.le_of_ble_eq_true rfl) dL_law_732 ⟨by omega, by omega⟩ (fun _ _ _ h => h.elim) (fun v A2 C2 h => ?_)
  have h7 : K7_sheetsIn A1 C1 (xs (7 * n + 1)) (xs (7 * n + 2)) v A2 C2 := h
  obtain ⟨hB, b7, rfl, hv⟩ := ag_sheetsIn  hI hW h7
  refine s_istore (pc := 735) S ((7, .int b7) :: (6, .int (nI k)) :: Ll b n A1) dL_law_735 (by decide) rfl ?_
  refine s_loc (L2 := (7, .int b7) :: (6, .int (nI k)) :: Ll b n A2) (congrArg (fun q => (7, .int b7) :: (6, .int (nI k)) :: q) ((ll_st w3.1).symm.trans (ll_st hB.2.2.1.1))) ?_
  obtain ⟨hL1, hc1, hs1⟩ := h0.next hB
  exact law_tl (pc := 737) S hz hml hB.1 hk3 hv ⟨by omega, by omega⟩ _ dL_law_737 dL_law_738 dL_law_741 dL_law_743 dL_law_748 dL_law_750 dL_law_753 dL_law_754 dL_law_755 dL_law_756 dL_law_758 dL_law_759 dL_law_760 dL_law_765 (by decide) (s_widen (by omega) (by omega) (kk A2 C2 hL1))
set_option maxHeartbeats 4000000 in
set_option maxRecDepth 100000 in
theorem lc_paperOf {Z : Zp} {p : Program} {l : Launch} {e : Env} {s : State} {m : MethodId} {args : Array Value} {below : List Frame} {meth : Method} {c : Code} {Q : State → Prop} {M0 : Wd} {A : AF} {C : CF} {b N n : Nat} {xs : Nat → Int32} (S : CallFix p m c cL_law 9 s args wsL_law RL) (hz : Stat Z s) (hml : c.maxLocals = 9) (hfl : l.stackTraces = false) (hX : Scr b N xs Z s) (hN : N ≤ 3584) (hn : 7 * n + 7 ≤ N) (h0 : LI Z n A C) (kk : ∀ (A2 : AF) (C2 : CF), LI Z (n + 1) A2 C2 → LGS Z p l e s m args below meth c Q (bC (n + 1) C2) (bS (n + 1) C2) M0 A2 C2 3146 (Ll b n A2) []) : LGS Z p l e s m args below meth c Q (bC n C) (bS n C) M0 A C 768 (Ll b n A) [] := by
  have hI := h0.1
  obtain ⟨hcapC, hcapS⟩ := h0.cap (by omega)
  refine s_aload_n (pc := 768) S 2 dL_law_768 rfl rfl ?_
  refine law_arg (pc := 769) (n := n) (j := 1) S hX 1 0 (by omega) hN (by decide) rfl rfl dL_law_769 dL_law_770 dL_law_772 dL_law_773 dL_law_774 ?_
  refine law_arg (pc := 775) (n := n) (j := 2) S hX 1 0 (by omega) hN (by decide) rfl rfl dL_law_775 dL_law_776 dL_law_778 dL_law_779 dL_law_780 ?_
  refine s_aload_n (pc := 781) S 4 dL_law_781 rfl rfl ?_
  refine s_callSX (pc := 782) S hz hml [.ref (A 0 0), .int (xs (7 * n + 1)), .int (xs (7 * n + 2)), .ref (A 70 0)] (k_L_paperOf Z l A C hI (xs (7 * n + 1)) (xs (7 * n + 2))  hfl) (vx_cwSW 4 S.2.2.2.2 gL_law_L_paperOf rfl rfl rfl (by decide +kernel) ⟨(Nat.le_of_ble_eq_true rfl), (Nat.le_of_ble_eq_true rfl)⟩) rfl rfl (Nat.le_of_ble_eq_true rfl) dL_law_782 ⟨by omega, by omega⟩ (fun v A1 C1 h => ?_)
  obtain ⟨k, rfl, hW⟩ := h
  obtain ⟨w1, w3, hk3⟩ := w_paperOf hW
  have e6 : C1 60 = C 60 := w1 60 (by decide) (by decide)
  have e61 : C1 61 = C 61 := w1 61 (by decide) (by decide)
  have hO1 : OkM C1 := hI.2.1.cg e6 e61
  refine s_istore (pc := 785) S ((6, .int (nI k)) :: Ll b n A) dL_law_785 (by decide) rfl ?_
  refine s_loc (L2 := (6, .int (nI k)) :: Ll b n A1) (congrArg (List.cons _) (ll_st w3.1)) ?_
  refine s_aload_n (pc := 787) S 4 dL_law_787 rfl rfl ?_
  refine law_arg (pc := 788) (n := n) (j := 1) S hX 2 1 (by omega) hN (by decide) rfl rfl dL_law_788 dL_law_789 dL_law_791 dL_law_792 dL_law_793 ?_
  refine law_arg (pc := 794) (n := n) (j := 2) S hX 2 1 (by omega) hN (by decide) rfl rfl dL_law_794 dL_law_795 dL_law_797 dL_law_798 dL_law_799 ?_
  refine s_callV (pc := 800) S hz hml [.int (xs (7 * n + 1)), .int (xs (7 * n + 2))] (k_X7_paperOf Z l A1 C1 (xs (7 * n + 1)) (xs (7 * n + 2))  hO1.1) (cwV 2 S.2.2.2.2 gL_law_X7_paperOf rfl rfl rfl (by decide +kernel) ⟨(Nat.le_of_ble_eq_true rfl), (Nat.le_of_ble_eq_true rfl)⟩) (cc_mod (A := A1) (C := C1)) rfl rfl rfl (Nat.le_of_ble_eq_true rfl) dL_law_800 ⟨by omega, by omega⟩ (fun _ _ _ h => h.elim) (fun v A2 C2 h => ?_)
  have h7 : K7_paperOf A1 C1 (xs (7 * n + 1)) (xs (7 * n + 2)) v A2 C2 := h
  obtain ⟨hB, b7, rfl, hv⟩ := ag_paperOf  hI hW h7
  refine s_istore (pc := 803) S ((7, .int b7) :: (6, .int (nI k)) :: Ll b n A1) dL_law_803 (by decide) rfl ?_
  refine s_loc (L2 := (7, .int b7) :: (6, .int (nI k)) :: Ll b n A2) (congrArg (fun q => (7, .int b7) :: (6, .int (nI k)) :: q) ((ll_st w3.1).symm.trans (ll_st hB.2.2.1.1))) ?_
  obtain ⟨hL1, hc1, hs1⟩ := h0.next hB
  exact law_tl (pc := 805) S hz hml hB.1 hk3 hv ⟨by omega, by omega⟩ _ dL_law_805 dL_law_806 dL_law_809 dL_law_811 dL_law_816 dL_law_818 dL_law_821 dL_law_822 dL_law_823 dL_law_824 dL_law_826 dL_law_827 dL_law_828 dL_law_833 (by decide) (s_widen (by omega) (by omega) (kk A2 C2 hL1))
set_option maxHeartbeats 4000000 in
set_option maxRecDepth 100000 in
theorem lc_setToner {Z : Zp} {p : Program} {l : Launch} {e : Env} {s : State} {m : MethodId} {args : Array Value} {below : List Frame} {meth : Method} {c : Code} {Q : State → Prop} {M0 : Wd} {A : AF} {C : CF} {b N n : Nat} {xs : Nat → Int32} (S : CallFix p m c cL_law 9 s args wsL_law RL) (hz : Stat Z s) (hml : c.maxLocals = 9) (hfl : l.stackTraces = false) (hX : Scr b N xs Z s) (hN : N ≤ 3584) (hn : 7 * n + 7 ≤ N) (h0 : LI Z n A C) (kk : ∀ (A2 : AF) (C2 : CF), LI Z (n + 1) A2 C2 → LGS Z p l e s m args below meth c Q (bC (n + 1) C2) (bS (n + 1) C2) M0 A2 C2 3146 (Ll b n A2) []) : LGS Z p l e s m args below meth c Q (bC n C) (bS n C) M0 A C 836 (Ll b n A) [] := by
  have hI := h0.1
  obtain ⟨hcapC, hcapS⟩ := h0.cap (by omega)
  refine s_aload_n (pc := 836) S 2 dL_law_836 rfl rfl ?_
  refine law_arg (pc := 837) (n := n) (j := 1) S hX 1 0 (by omega) hN (by decide) rfl rfl dL_law_837 dL_law_838 dL_law_840 dL_law_841 dL_law_842 ?_
  refine law_arg (pc := 843) (n := n) (j := 2) S hX 1 0 (by omega) hN (by decide) rfl rfl dL_law_843 dL_law_844 dL_law_846 dL_law_847 dL_law_848 ?_
  refine law_bool (pc := 849) S dL_law_849 dL_law_852 dL_law_853 dL_law_856 ?_
  refine law_arg (pc := 857) (n := n) (j := 3) S hX 1 0 (by omega) hN (by decide) rfl rfl dL_law_857 dL_law_858 dL_law_860 dL_law_861 dL_law_862 ?_
  refine s_aload_n (pc := 863) S 4 dL_law_863 rfl rfl ?_
  refine s_callSX (pc := 864) S hz hml [.ref (A 0 0), .int (xs (7 * n + 1)), .int (nI (bz (xs (7 * n + 2)))), .int (xs (7 * n + 3)), .ref (A 70 0)] (k_L_setToner Z l A C hI (xs (7 * n + 1)) (bz (xs (7 * n + 2))) (xs (7 * n + 3)) (bz_lt _) hfl) (vx_cwSW 5 S.2.2.2.2 gL_law_L_setToner rfl rfl rfl (by decide +kernel) ⟨(Nat.le_of_ble_eq_true rfl), (Nat.le_of_ble_eq_true rfl)⟩) rfl rfl (Nat.le_of_ble_eq_true rfl) dL_law_864 ⟨by omega, by omega⟩ (fun v A1 C1 h => ?_)
  obtain ⟨k, rfl, hW⟩ := h
  obtain ⟨w1, w3, hk3⟩ := w_setToner hW
  have e6 : C1 60 = C 60 := w1 60 (by decide) (by decide)
  have e61 : C1 61 = C 61 := w1 61 (by decide) (by decide)
  have hO1 : OkM C1 := hI.2.1.cg e6 e61
  refine s_istore (pc := 867) S ((6, .int (nI k)) :: Ll b n A) dL_law_867 (by decide) rfl ?_
  refine s_loc (L2 := (6, .int (nI k)) :: Ll b n A1) (congrArg (List.cons _) (ll_st w3.1)) ?_
  refine s_aload_n (pc := 869) S 4 dL_law_869 rfl rfl ?_
  refine law_arg (pc := 870) (n := n) (j := 1) S hX 2 1 (by omega) hN (by decide) rfl rfl dL_law_870 dL_law_871 dL_law_873 dL_law_874 dL_law_875 ?_
  refine law_arg (pc := 876) (n := n) (j := 2) S hX 2 1 (by omega) hN (by decide) rfl rfl dL_law_876 dL_law_877 dL_law_879 dL_law_880 dL_law_881 ?_
  refine law_bool (pc := 882) S dL_law_882 dL_law_885 dL_law_886 dL_law_889 ?_
  refine law_arg (pc := 890) (n := n) (j := 3) S hX 2 1 (by omega) hN (by decide) rfl rfl dL_law_890 dL_law_891 dL_law_893 dL_law_894 dL_law_895 ?_
  refine s_callV (pc := 896) S hz hml [.int (xs (7 * n + 1)), .int (nI (bz (xs (7 * n + 2)))), .int (xs (7 * n + 3))] (k_X7_setToner Z l A1 C1 (xs (7 * n + 1)) (bz (xs (7 * n + 2))) (xs (7 * n + 3)) (bz_lt _) hO1.1) (cwV 3 S.2.2.2.2 gL_law_X7_setToner rfl rfl rfl (by decide +kernel) ⟨(Nat.le_of_ble_eq_true rfl), (Nat.le_of_ble_eq_true rfl)⟩) (cc_mod (A := A1) (C := C1)) rfl rfl rfl (Nat.le_of_ble_eq_true rfl) dL_law_896 ⟨by omega, by omega⟩ (fun _ _ _ h => h.elim) (fun v A2 C2 h => ?_)
  have h7 : K7_setToner A1 C1 (xs (7 * n + 1)) (bz (xs (7 * n + 2))) (xs (7 * n + 3)) v A2 C2 := h
  obtain ⟨hB, b7, rfl, hv⟩ := ag_setToner (bz_lt _) hI hW h7
  refine s_istore (pc := 899) S ((7, .int b7) :: (6, .int (nI k)) :: Ll b n A1) dL_law_899 (by decide) rfl ?_
  refine s_loc (L2 := (7, .int b7) :: (6, .int (nI k)) :: Ll b n A2) (congrArg (fun q => (7, .int b7) :: (6, .int (nI k)) :: q) ((ll_st w3.1).symm.trans (ll_st hB.2.2.1.1))) ?_
  obtain ⟨hL1, hc1, hs1⟩ := h0.next hB
  exact law_tl (pc := 901) S hz hml hB.1 hk3 hv ⟨by omega, by omega⟩ _ dL_law_901 dL_law_902 dL_law_905 dL_law_907 dL_law_912 dL_law_914 dL_law_917 dL_law_918 dL_law_919 dL_law_920 dL_law_922 dL_law_923 dL_law_924 dL_law_929 (by decide) (s_widen (by omega) (by omega) (kk A2 C2 hL1))
set_option maxHeartbeats 4000000 in
set_option maxRecDepth 100000 in
theorem lc_tonerOf {Z : Zp} {p : Program} {l : Launch} {e : Env} {s : State} {m : MethodId} {args : Array Value} {below : List Frame} {meth : Method} {c : Code} {Q : State → Prop} {M0 : Wd} {A : AF} {C : CF} {b N n : Nat} {xs : Nat → Int32} (S : CallFix p m c cL_law 9 s args wsL_law RL) (hz : Stat Z s) (hml : c.maxLocals = 9) (hfl : l.stackTraces = false) (hX : Scr b N xs Z s) (hN : N ≤ 3584) (hn : 7 * n + 7 ≤ N) (h0 : LI Z n A C) (kk : ∀ (A2 : AF) (C2 : CF), LI Z (n + 1) A2 C2 → LGS Z p l e s m args below meth c Q (bC (n + 1) C2) (bS (n + 1) C2) M0 A2 C2 3146 (Ll b n A2) []) : LGS Z p l e s m args below meth c Q (bC n C) (bS n C) M0 A C 932 (Ll b n A) [] := by
  have hI := h0.1
  obtain ⟨hcapC, hcapS⟩ := h0.cap (by omega)
  refine s_aload_n (pc := 932) S 2 dL_law_932 rfl rfl ?_
  refine law_arg (pc := 933) (n := n) (j := 1) S hX 1 0 (by omega) hN (by decide) rfl rfl dL_law_933 dL_law_934 dL_law_936 dL_law_937 dL_law_938 ?_
  refine law_arg (pc := 939) (n := n) (j := 2) S hX 1 0 (by omega) hN (by decide) rfl rfl dL_law_939 dL_law_940 dL_law_942 dL_law_943 dL_law_944 ?_
  refine law_bool (pc := 945) S dL_law_945 dL_law_948 dL_law_949 dL_law_952 ?_
  refine s_aload_n (pc := 953) S 4 dL_law_953 rfl rfl ?_
  refine s_callSX (pc := 954) S hz hml [.ref (A 0 0), .int (xs (7 * n + 1)), .int (nI (bz (xs (7 * n + 2)))), .ref (A 70 0)] (k_L_tonerOf Z l A C hI (xs (7 * n + 1)) (bz (xs (7 * n + 2))) (bz_lt _) hfl) (vx_cwSW 4 S.2.2.2.2 gL_law_L_tonerOf rfl rfl rfl (by decide +kernel) ⟨(Nat.le_of_ble_eq_true rfl), (Nat.le_of_ble_eq_true rfl)⟩) rfl rfl (Nat.le_of_ble_eq_true rfl) dL_law_954 ⟨by omega, by omega⟩ (fun v A1 C1 h => ?_)
  obtain ⟨k, rfl, hW⟩ := h
  obtain ⟨w1, w3, hk3⟩ := w_tonerOf hW
  have e6 : C1 60 = C 60 := w1 60 (by decide) (by decide)
  have e61 : C1 61 = C 61 := w1 61 (by decide) (by decide)
  have hO1 : OkM C1 := hI.2.1.cg e6 e61
  refine s_istore (pc := 957) S ((6, .int (nI k)) :: Ll b n A) dL_law_957 (by decide) rfl ?_
  refine s_loc (L2 := (6, .int (nI k)) :: Ll b n A1) (congrArg (List.cons _) (ll_st w3.1)) ?_
  refine s_aload_n (pc := 959) S 4 dL_law_959 rfl rfl ?_
  refine law_arg (pc := 960) (n := n) (j := 1) S hX 2 1 (by omega) hN (by decide) rfl rfl dL_law_960 dL_law_961 dL_law_963 dL_law_964 dL_law_965 ?_
  refine law_arg (pc := 966) (n := n) (j := 2) S hX 2 1 (by omega) hN (by decide) rfl rfl dL_law_966 dL_law_967 dL_law_969 dL_law_970 dL_law_971 ?_
  refine law_bool (pc := 972) S dL_law_972 dL_law_975 dL_law_976 dL_law_979 ?_
  refine s_callV (pc := 980) S hz hml [.int (xs (7 * n + 1)), .int (nI (bz (xs (7 * n + 2))))] (k_X7_tonerOf Z l A1 C1 (xs (7 * n + 1)) (bz (xs (7 * n + 2))) (bz_lt _) hO1.1) (cwV 2 S.2.2.2.2 gL_law_X7_tonerOf rfl rfl rfl (by decide +kernel) ⟨(Nat.le_of_ble_eq_true rfl), (Nat.le_of_ble_eq_true rfl)⟩) (cc_mod (A := A1) (C := C1)) rfl rfl rfl (Nat.le_of_ble_eq_true rfl) dL_law_980 ⟨by omega, by omega⟩ (fun _ _ _ h => h.elim) (fun v A2 C2 h => ?_)
  have h7 : K7_tonerOf A1 C1 (xs (7 * n + 1)) (bz (xs (7 * n + 2))) v A2 C2 := h
  obtain ⟨hB, b7, rfl, hv⟩ := ag_tonerOf (bz_lt _) hI hW h7
  refine s_istore (pc := 983) S ((7, .int b7) :: (6, .int (nI k)) :: Ll b n A1) dL_law_983 (by decide) rfl ?_
  refine s_loc (L2 := (7, .int b7) :: (6, .int (nI k)) :: Ll b n A2) (congrArg (fun q => (7, .int b7) :: (6, .int (nI k)) :: q) ((ll_st w3.1).symm.trans (ll_st hB.2.2.1.1))) ?_
  obtain ⟨hL1, hc1, hs1⟩ := h0.next hB
  exact law_tl (pc := 985) S hz hml hB.1 hk3 hv ⟨by omega, by omega⟩ _ dL_law_985 dL_law_986 dL_law_989 dL_law_991 dL_law_996 dL_law_998 dL_law_1001 dL_law_1002 dL_law_1003 dL_law_1004 dL_law_1006 dL_law_1007 dL_law_1008 dL_law_1013 (by decide) (s_widen (by omega) (by omega) (kk A2 C2 hL1))
set_option maxHeartbeats 4000000 in
set_option maxRecDepth 100000 in
theorem lc_setStaples {Z : Zp} {p : Program} {l : Launch} {e : Env} {s : State} {m : MethodId} {args : Array Value} {below : List Frame} {meth : Method} {c : Code} {Q : State → Prop} {M0 : Wd} {A : AF} {C : CF} {b N n : Nat} {xs : Nat → Int32} (S : CallFix p m c cL_law 9 s args wsL_law RL) (hz : Stat Z s) (hml : c.maxLocals = 9) (hfl : l.stackTraces = false) (hX : Scr b N xs Z s) (hN : N ≤ 3584) (hn : 7 * n + 7 ≤ N) (h0 : LI Z n A C) (kk : ∀ (A2 : AF) (C2 : CF), LI Z (n + 1) A2 C2 → LGS Z p l e s m args below meth c Q (bC (n + 1) C2) (bS (n + 1) C2) M0 A2 C2 3146 (Ll b n A2) []) : LGS Z p l e s m args below meth c Q (bC n C) (bS n C) M0 A C 1016 (Ll b n A) [] := by
  have hI := h0.1
  obtain ⟨hcapC, hcapS⟩ := h0.cap (by omega)
  refine s_aload_n (pc := 1016) S 2 dL_law_1016 rfl rfl ?_
  refine law_arg (pc := 1017) (n := n) (j := 1) S hX 1 0 (by omega) hN (by decide) rfl rfl dL_law_1017 dL_law_1018 dL_law_1020 dL_law_1021 dL_law_1022 ?_
  refine law_arg (pc := 1023) (n := n) (j := 2) S hX 1 0 (by omega) hN (by decide) rfl rfl dL_law_1023 dL_law_1024 dL_law_1026 dL_law_1027 dL_law_1028 ?_
  refine s_aload_n (pc := 1029) S 4 dL_law_1029 rfl rfl ?_
  refine s_callSX (pc := 1030) S hz hml [.ref (A 0 0), .int (xs (7 * n + 1)), .int (xs (7 * n + 2)), .ref (A 70 0)] (k_L_setStaples Z l A C hI (xs (7 * n + 1)) (xs (7 * n + 2))  hfl) (vx_cwSW 4 S.2.2.2.2 gL_law_L_setStaples rfl rfl rfl (by decide +kernel) ⟨(Nat.le_of_ble_eq_true rfl), (Nat.le_of_ble_eq_true rfl)⟩) rfl rfl (Nat.le_of_ble_eq_true rfl) dL_law_1030 ⟨by omega, by omega⟩ (fun v A1 C1 h => ?_)
  obtain ⟨k, rfl, hW⟩ := h
  obtain ⟨w1, w3, hk3⟩ := w_setStaples hW
  have e6 : C1 60 = C 60 := w1 60 (by decide) (by decide)
  have e61 : C1 61 = C 61 := w1 61 (by decide) (by decide)
  have hO1 : OkM C1 := hI.2.1.cg e6 e61
  refine s_istore (pc := 1033) S ((6, .int (nI k)) :: Ll b n A) dL_law_1033 (by decide) rfl ?_
  refine s_loc (L2 := (6, .int (nI k)) :: Ll b n A1) (congrArg (List.cons _) (ll_st w3.1)) ?_
  refine s_aload_n (pc := 1035) S 4 dL_law_1035 rfl rfl ?_
  refine law_arg (pc := 1036) (n := n) (j := 1) S hX 2 1 (by omega) hN (by decide) rfl rfl dL_law_1036 dL_law_1037 dL_law_1039 dL_law_1040 dL_law_1041 ?_
  refine law_arg (pc := 1042) (n := n) (j := 2) S hX 2 1 (by omega) hN (by decide) rfl rfl dL_law_1042 dL_law_1043 dL_law_1045 dL_law_1046 dL_law_1047 ?_
  refine s_callV (pc := 1048) S hz hml [.int (xs (7 * n + 1)), .int (xs (7 * n + 2))] (k_X7_setStaples Z l A1 C1 (xs (7 * n + 1)) (xs (7 * n + 2))  hO1.1) (cwV 2 S.2.2.2.2 gL_law_X7_setStaples rfl rfl rfl (by decide +kernel) ⟨(Nat.le_of_ble_eq_true rfl), (Nat.le_of_ble_eq_true rfl)⟩) (cc_mod (A := A1) (C := C1)) rfl rfl rfl (Nat.le_of_ble_eq_true rfl) dL_law_1048 ⟨by omega, by omega⟩ (fun _ _ _ h => h.elim) (fun v A2 C2 h => ?_)
  have h7 : K7_setStaples A1 C1 (xs (7 * n + 1)) (xs (7 * n + 2)) v A2 C2 := h
  obtain ⟨hB, b7, rfl, hv⟩ := ag_setStaples  hI hW h7
  refine s_istore (pc := 1051) S ((7, .int b7) :: (6, .int (nI k)) :: Ll b n A1) dL_law_1051 (by decide) rfl ?_
  refine s_loc (L2 := (7, .int b7) :: (6, .int (nI k)) :: Ll b n A2) (congrArg (fun q => (7, .int b7) :: (6, .int (nI k)) :: q) ((ll_st w3.1).symm.trans (ll_st hB.2.2.1.1))) ?_
  obtain ⟨hL1, hc1, hs1⟩ := h0.next hB
  exact law_tl (pc := 1053) S hz hml hB.1 hk3 hv ⟨by omega, by omega⟩ _ dL_law_1053 dL_law_1054 dL_law_1057 dL_law_1059 dL_law_1064 dL_law_1066 dL_law_1069 dL_law_1070 dL_law_1071 dL_law_1072 dL_law_1074 dL_law_1075 dL_law_1076 dL_law_1081 (by decide) (s_widen (by omega) (by omega) (kk A2 C2 hL1))
set_option maxHeartbeats 4000000 in
set_option maxRecDepth 100000 in
theorem lc_staplesIn {Z : Zp} {p : Program} {l : Launch} {e : Env} {s : State} {m : MethodId} {args : Array Value} {below : List Frame} {meth : Method} {c : Code} {Q : State → Prop} {M0 : Wd} {A : AF} {C : CF} {b N n : Nat} {xs : Nat → Int32} (S : CallFix p m c cL_law 9 s args wsL_law RL) (hz : Stat Z s) (hml : c.maxLocals = 9) (hfl : l.stackTraces = false) (hX : Scr b N xs Z s) (hN : N ≤ 3584) (hn : 7 * n + 7 ≤ N) (h0 : LI Z n A C) (kk : ∀ (A2 : AF) (C2 : CF), LI Z (n + 1) A2 C2 → LGS Z p l e s m args below meth c Q (bC (n + 1) C2) (bS (n + 1) C2) M0 A2 C2 3146 (Ll b n A2) []) : LGS Z p l e s m args below meth c Q (bC n C) (bS n C) M0 A C 1084 (Ll b n A) [] := by
  have hI := h0.1
  obtain ⟨hcapC, hcapS⟩ := h0.cap (by omega)
  refine s_aload_n (pc := 1084) S 2 dL_law_1084 rfl rfl ?_
  refine law_arg (pc := 1085) (n := n) (j := 1) S hX 1 0 (by omega) hN (by decide) rfl rfl dL_law_1085 dL_law_1086 dL_law_1088 dL_law_1089 dL_law_1090 ?_
  refine s_aload_n (pc := 1091) S 4 dL_law_1091 rfl rfl ?_
  refine s_callSX (pc := 1092) S hz hml [.ref (A 0 0), .int (xs (7 * n + 1)), .ref (A 70 0)] (k_L_staplesIn Z l A C hI (xs (7 * n + 1))  hfl) (vx_cwSW 3 S.2.2.2.2 gL_law_L_staplesIn rfl rfl rfl (by decide +kernel) ⟨(Nat.le_of_ble_eq_true rfl), (Nat.le_of_ble_eq_true rfl)⟩) rfl rfl (Nat.le_of_ble_eq_true rfl) dL_law_1092 ⟨by omega, by omega⟩ (fun v A1 C1 h => ?_)
  obtain ⟨k, rfl, hW⟩ := h
  obtain ⟨w1, w3, hk3⟩ := w_staplesIn hW
  have e6 : C1 60 = C 60 := w1 60 (by decide) (by decide)
  have e61 : C1 61 = C 61 := w1 61 (by decide) (by decide)
  have hO1 : OkM C1 := hI.2.1.cg e6 e61
  refine s_istore (pc := 1095) S ((6, .int (nI k)) :: Ll b n A) dL_law_1095 (by decide) rfl ?_
  refine s_loc (L2 := (6, .int (nI k)) :: Ll b n A1) (congrArg (List.cons _) (ll_st w3.1)) ?_
  refine s_aload_n (pc := 1097) S 4 dL_law_1097 rfl rfl ?_
  refine law_arg (pc := 1098) (n := n) (j := 1) S hX 2 1 (by omega) hN (by decide) rfl rfl dL_law_1098 dL_law_1099 dL_law_1101 dL_law_1102 dL_law_1103 ?_
  refine s_callV (pc := 1104) S hz hml [.int (xs (7 * n + 1))] (k_X7_staplesIn Z l A1 C1 (xs (7 * n + 1))  hO1.1) (cwV 1 S.2.2.2.2 gL_law_X7_staplesIn rfl rfl rfl (by decide +kernel) ⟨(Nat.le_of_ble_eq_true rfl), (Nat.le_of_ble_eq_true rfl)⟩) (cc_mod (A := A1) (C := C1)) rfl rfl rfl (Nat.le_of_ble_eq_true rfl) dL_law_1104 ⟨by omega, by omega⟩ (fun _ _ _ h => h.elim) (fun v A2 C2 h => ?_)
  have h7 : K7_staplesIn A1 C1 (xs (7 * n + 1)) v A2 C2 := h
  obtain ⟨hB, b7, rfl, hv⟩ := ag_staplesIn  hI hW h7
  refine s_istore (pc := 1107) S ((7, .int b7) :: (6, .int (nI k)) :: Ll b n A1) dL_law_1107 (by decide) rfl ?_
  refine s_loc (L2 := (7, .int b7) :: (6, .int (nI k)) :: Ll b n A2) (congrArg (fun q => (7, .int b7) :: (6, .int (nI k)) :: q) ((ll_st w3.1).symm.trans (ll_st hB.2.2.1.1))) ?_
  obtain ⟨hL1, hc1, hs1⟩ := h0.next hB
  exact law_tl (pc := 1109) S hz hml hB.1 hk3 hv ⟨by omega, by omega⟩ _ dL_law_1109 dL_law_1110 dL_law_1113 dL_law_1115 dL_law_1120 dL_law_1122 dL_law_1125 dL_law_1126 dL_law_1127 dL_law_1128 dL_law_1130 dL_law_1131 dL_law_1132 dL_law_1137 (by decide) (s_widen (by omega) (by omega) (kk A2 C2 hL1))
set_option maxHeartbeats 4000000 in
set_option maxRecDepth 100000 in
theorem lc_grant {Z : Zp} {p : Program} {l : Launch} {e : Env} {s : State} {m : MethodId} {args : Array Value} {below : List Frame} {meth : Method} {c : Code} {Q : State → Prop} {M0 : Wd} {A : AF} {C : CF} {b N n : Nat} {xs : Nat → Int32} (S : CallFix p m c cL_law 9 s args wsL_law RL) (hz : Stat Z s) (hml : c.maxLocals = 9) (hfl : l.stackTraces = false) (hX : Scr b N xs Z s) (hN : N ≤ 3584) (hn : 7 * n + 7 ≤ N) (h0 : LI Z n A C) (kk : ∀ (A2 : AF) (C2 : CF), LI Z (n + 1) A2 C2 → LGS Z p l e s m args below meth c Q (bC (n + 1) C2) (bS (n + 1) C2) M0 A2 C2 3146 (Ll b n A2) []) : LGS Z p l e s m args below meth c Q (bC n C) (bS n C) M0 A C 1140 (Ll b n A) [] := by
  have hI := h0.1
  obtain ⟨hcapC, hcapS⟩ := h0.cap (by omega)
  refine s_aload_n (pc := 1140) S 2 dL_law_1140 rfl rfl ?_
  refine law_arg (pc := 1141) (n := n) (j := 1) S hX 1 0 (by omega) hN (by decide) rfl rfl dL_law_1141 dL_law_1142 dL_law_1144 dL_law_1145 dL_law_1146 ?_
  refine law_arg (pc := 1147) (n := n) (j := 2) S hX 1 0 (by omega) hN (by decide) rfl rfl dL_law_1147 dL_law_1148 dL_law_1150 dL_law_1151 dL_law_1152 ?_
  refine law_bool (pc := 1153) S dL_law_1153 dL_law_1156 dL_law_1157 dL_law_1160 ?_
  refine law_arg (pc := 1161) (n := n) (j := 3) S hX 1 0 (by omega) hN (by decide) rfl rfl dL_law_1161 dL_law_1162 dL_law_1164 dL_law_1165 dL_law_1166 ?_
  refine s_aload_n (pc := 1167) S 4 dL_law_1167 rfl rfl ?_
  refine s_callSX (pc := 1168) S hz hml [.ref (A 0 0), .int (xs (7 * n + 1)), .int (nI (bz (xs (7 * n + 2)))), .int (xs (7 * n + 3)), .ref (A 70 0)] (k_L_grant Z l A C hI (xs (7 * n + 1)) (bz (xs (7 * n + 2))) (xs (7 * n + 3)) (bz_lt _) hfl) (vx_cwSW 5 S.2.2.2.2 gL_law_L_grant rfl rfl rfl (by decide +kernel) ⟨(Nat.le_of_ble_eq_true rfl), (Nat.le_of_ble_eq_true rfl)⟩) rfl rfl (Nat.le_of_ble_eq_true rfl) dL_law_1168 ⟨by omega, by omega⟩ (fun v A1 C1 h => ?_)
  obtain ⟨k, rfl, hW⟩ := h
  obtain ⟨w1, w3, hk3⟩ := w_grant hW
  have e6 : C1 60 = C 60 := w1 60 (by decide) (by decide)
  have e61 : C1 61 = C 61 := w1 61 (by decide) (by decide)
  have hO1 : OkM C1 := hI.2.1.cg e6 e61
  refine s_istore (pc := 1171) S ((6, .int (nI k)) :: Ll b n A) dL_law_1171 (by decide) rfl ?_
  refine s_loc (L2 := (6, .int (nI k)) :: Ll b n A1) (congrArg (List.cons _) (ll_st w3.1)) ?_
  refine s_aload_n (pc := 1173) S 4 dL_law_1173 rfl rfl ?_
  refine law_arg (pc := 1174) (n := n) (j := 1) S hX 2 1 (by omega) hN (by decide) rfl rfl dL_law_1174 dL_law_1175 dL_law_1177 dL_law_1178 dL_law_1179 ?_
  refine law_arg (pc := 1180) (n := n) (j := 2) S hX 2 1 (by omega) hN (by decide) rfl rfl dL_law_1180 dL_law_1181 dL_law_1183 dL_law_1184 dL_law_1185 ?_
  refine law_bool (pc := 1186) S dL_law_1186 dL_law_1189 dL_law_1190 dL_law_1193 ?_
  refine law_arg (pc := 1194) (n := n) (j := 3) S hX 2 1 (by omega) hN (by decide) rfl rfl dL_law_1194 dL_law_1195 dL_law_1197 dL_law_1198 dL_law_1199 ?_
  refine s_callV (pc := 1200) S hz hml [.int (xs (7 * n + 1)), .int (nI (bz (xs (7 * n + 2)))), .int (xs (7 * n + 3))] (k_X7_grant Z l A1 C1 (xs (7 * n + 1)) (bz (xs (7 * n + 2))) (xs (7 * n + 3)) (bz_lt _) hO1.1) (cwV 3 S.2.2.2.2 gL_law_X7_grant rfl rfl rfl (by decide +kernel) ⟨(Nat.le_of_ble_eq_true rfl), (Nat.le_of_ble_eq_true rfl)⟩) (cc_mod (A := A1) (C := C1)) rfl rfl rfl (Nat.le_of_ble_eq_true rfl) dL_law_1200 ⟨by omega, by omega⟩ (fun _ _ _ h => h.elim) (fun v A2 C2 h => ?_)
  have h7 : K7_grant A1 C1 (xs (7 * n + 1)) (bz (xs (7 * n + 2))) (xs (7 * n + 3)) v A2 C2 := h
  obtain ⟨hB, b7, rfl, hv⟩ := ag_grant (bz_lt _) hI hW h7
  refine s_istore (pc := 1203) S ((7, .int b7) :: (6, .int (nI k)) :: Ll b n A1) dL_law_1203 (by decide) rfl ?_
  refine s_loc (L2 := (7, .int b7) :: (6, .int (nI k)) :: Ll b n A2) (congrArg (fun q => (7, .int b7) :: (6, .int (nI k)) :: q) ((ll_st w3.1).symm.trans (ll_st hB.2.2.1.1))) ?_
  obtain ⟨hL1, hc1, hs1⟩ := h0.next hB
  exact law_tl (pc := 1205) S hz hml hB.1 hk3 hv ⟨by omega, by omega⟩ _ dL_law_1205 dL_law_1206 dL_law_1209 dL_law_1211 dL_law_1216 dL_law_1218 dL_law_1221 dL_law_1222 dL_law_1223 dL_law_1224 dL_law_1226 dL_law_1227 dL_law_1228 dL_law_1233 (by decide) (s_widen (by omega) (by omega) (kk A2 C2 hL1))
set_option maxHeartbeats 4000000 in
set_option maxRecDepth 100000 in
theorem lc_quotaOf {Z : Zp} {p : Program} {l : Launch} {e : Env} {s : State} {m : MethodId} {args : Array Value} {below : List Frame} {meth : Method} {c : Code} {Q : State → Prop} {M0 : Wd} {A : AF} {C : CF} {b N n : Nat} {xs : Nat → Int32} (S : CallFix p m c cL_law 9 s args wsL_law RL) (hz : Stat Z s) (hml : c.maxLocals = 9) (hfl : l.stackTraces = false) (hX : Scr b N xs Z s) (hN : N ≤ 3584) (hn : 7 * n + 7 ≤ N) (h0 : LI Z n A C) (kk : ∀ (A2 : AF) (C2 : CF), LI Z (n + 1) A2 C2 → LGS Z p l e s m args below meth c Q (bC (n + 1) C2) (bS (n + 1) C2) M0 A2 C2 3146 (Ll b n A2) []) : LGS Z p l e s m args below meth c Q (bC n C) (bS n C) M0 A C 1236 (Ll b n A) [] := by
  have hI := h0.1
  obtain ⟨hcapC, hcapS⟩ := h0.cap (by omega)
  refine s_aload_n (pc := 1236) S 2 dL_law_1236 rfl rfl ?_
  refine law_arg (pc := 1237) (n := n) (j := 1) S hX 1 0 (by omega) hN (by decide) rfl rfl dL_law_1237 dL_law_1238 dL_law_1240 dL_law_1241 dL_law_1242 ?_
  refine law_arg (pc := 1243) (n := n) (j := 2) S hX 1 0 (by omega) hN (by decide) rfl rfl dL_law_1243 dL_law_1244 dL_law_1246 dL_law_1247 dL_law_1248 ?_
  refine law_bool (pc := 1249) S dL_law_1249 dL_law_1252 dL_law_1253 dL_law_1256 ?_
  refine s_aload_n (pc := 1257) S 4 dL_law_1257 rfl rfl ?_
  refine s_callSX (pc := 1258) S hz hml [.ref (A 0 0), .int (xs (7 * n + 1)), .int (nI (bz (xs (7 * n + 2)))), .ref (A 70 0)] (k_L_quotaOf Z l A C hI (xs (7 * n + 1)) (bz (xs (7 * n + 2))) (bz_lt _) hfl) (vx_cwSW 4 S.2.2.2.2 gL_law_L_quotaOf rfl rfl rfl (by decide +kernel) ⟨(Nat.le_of_ble_eq_true rfl), (Nat.le_of_ble_eq_true rfl)⟩) rfl rfl (Nat.le_of_ble_eq_true rfl) dL_law_1258 ⟨by omega, by omega⟩ (fun v A1 C1 h => ?_)
  obtain ⟨k, rfl, hW⟩ := h
  obtain ⟨w1, w3, hk3⟩ := w_quotaOf hW
  have e6 : C1 60 = C 60 := w1 60 (by decide) (by decide)
  have e61 : C1 61 = C 61 := w1 61 (by decide) (by decide)
  have hO1 : OkM C1 := hI.2.1.cg e6 e61
  refine s_istore (pc := 1261) S ((6, .int (nI k)) :: Ll b n A) dL_law_1261 (by decide) rfl ?_
  refine s_loc (L2 := (6, .int (nI k)) :: Ll b n A1) (congrArg (List.cons _) (ll_st w3.1)) ?_
  refine s_aload_n (pc := 1263) S 4 dL_law_1263 rfl rfl ?_
  refine law_arg (pc := 1264) (n := n) (j := 1) S hX 2 1 (by omega) hN (by decide) rfl rfl dL_law_1264 dL_law_1265 dL_law_1267 dL_law_1268 dL_law_1269 ?_
  refine law_arg (pc := 1270) (n := n) (j := 2) S hX 2 1 (by omega) hN (by decide) rfl rfl dL_law_1270 dL_law_1271 dL_law_1273 dL_law_1274 dL_law_1275 ?_
  refine law_bool (pc := 1276) S dL_law_1276 dL_law_1279 dL_law_1280 dL_law_1283 ?_
  refine s_callV (pc := 1284) S hz hml [.int (xs (7 * n + 1)), .int (nI (bz (xs (7 * n + 2))))] (k_X7_quotaOf Z l A1 C1 (xs (7 * n + 1)) (bz (xs (7 * n + 2))) (bz_lt _) hO1.1) (cwV 2 S.2.2.2.2 gL_law_X7_quotaOf rfl rfl rfl (by decide +kernel) ⟨(Nat.le_of_ble_eq_true rfl), (Nat.le_of_ble_eq_true rfl)⟩) (cc_mod (A := A1) (C := C1)) rfl rfl rfl (Nat.le_of_ble_eq_true rfl) dL_law_1284 ⟨by omega, by omega⟩ (fun _ _ _ h => h.elim) (fun v A2 C2 h => ?_)
  have h7 : K7_quotaOf A1 C1 (xs (7 * n + 1)) (bz (xs (7 * n + 2))) v A2 C2 := h
  obtain ⟨hB, b7, rfl, hv⟩ := ag_quotaOf (bz_lt _) hI hW h7
  refine s_istore (pc := 1287) S ((7, .int b7) :: (6, .int (nI k)) :: Ll b n A1) dL_law_1287 (by decide) rfl ?_
  refine s_loc (L2 := (7, .int b7) :: (6, .int (nI k)) :: Ll b n A2) (congrArg (fun q => (7, .int b7) :: (6, .int (nI k)) :: q) ((ll_st w3.1).symm.trans (ll_st hB.2.2.1.1))) ?_
  obtain ⟨hL1, hc1, hs1⟩ := h0.next hB
  exact law_tl (pc := 1289) S hz hml hB.1 hk3 hv ⟨by omega, by omega⟩ _ dL_law_1289 dL_law_1290 dL_law_1293 dL_law_1295 dL_law_1300 dL_law_1302 dL_law_1305 dL_law_1306 dL_law_1307 dL_law_1308 dL_law_1310 dL_law_1311 dL_law_1312 dL_law_1317 (by decide) (s_widen (by omega) (by omega) (kk A2 C2 hL1))
set_option maxHeartbeats 4000000 in
set_option maxRecDepth 100000 in
theorem lc_setPrices {Z : Zp} {p : Program} {l : Launch} {e : Env} {s : State} {m : MethodId} {args : Array Value} {below : List Frame} {meth : Method} {c : Code} {Q : State → Prop} {M0 : Wd} {A : AF} {C : CF} {b N n : Nat} {xs : Nat → Int32} (S : CallFix p m c cL_law 9 s args wsL_law RL) (hz : Stat Z s) (hml : c.maxLocals = 9) (hfl : l.stackTraces = false) (hX : Scr b N xs Z s) (hN : N ≤ 3584) (hn : 7 * n + 7 ≤ N) (h0 : LI Z n A C) (kk : ∀ (A2 : AF) (C2 : CF), LI Z (n + 1) A2 C2 → LGS Z p l e s m args below meth c Q (bC (n + 1) C2) (bS (n + 1) C2) M0 A2 C2 3146 (Ll b n A2) []) : LGS Z p l e s m args below meth c Q (bC n C) (bS n C) M0 A C 1320 (Ll b n A) [] := by
  have hI := h0.1
  obtain ⟨hcapC, hcapS⟩ := h0.cap (by omega)
  refine s_aload_n (pc := 1320) S 2 dL_law_1320 rfl rfl ?_
  refine law_arg (pc := 1321) (n := n) (j := 1) S hX 1 0 (by omega) hN (by decide) rfl rfl dL_law_1321 dL_law_1322 dL_law_1324 dL_law_1325 dL_law_1326 ?_
  refine law_arg (pc := 1327) (n := n) (j := 2) S hX 1 0 (by omega) hN (by decide) rfl rfl dL_law_1327 dL_law_1328 dL_law_1330 dL_law_1331 dL_law_1332 ?_
  refine law_arg (pc := 1333) (n := n) (j := 3) S hX 1 0 (by omega) hN (by decide) rfl rfl dL_law_1333 dL_law_1334 dL_law_1336 dL_law_1337 dL_law_1338 ?_
  refine s_aload_n (pc := 1339) S 4 dL_law_1339 rfl rfl ?_
  refine s_callSX (pc := 1340) S hz hml [.ref (A 0 0), .int (xs (7 * n + 1)), .int (xs (7 * n + 2)), .int (xs (7 * n + 3)), .ref (A 70 0)] (k_L_setPrices Z l A C hI (xs (7 * n + 1)) (xs (7 * n + 2)) (xs (7 * n + 3))  hfl) (vx_cwSW 5 S.2.2.2.2 gL_law_L_setPrices rfl rfl rfl (by decide +kernel) ⟨(Nat.le_of_ble_eq_true rfl), (Nat.le_of_ble_eq_true rfl)⟩) rfl rfl (Nat.le_of_ble_eq_true rfl) dL_law_1340 ⟨by omega, by omega⟩ (fun v A1 C1 h => ?_)
  obtain ⟨k, rfl, hW⟩ := h
  obtain ⟨w1, w3, hk3⟩ := w_setPrices hW
  have e6 : C1 60 = C 60 := w1 60 (by decide) (by decide)
  have e61 : C1 61 = C 61 := w1 61 (by decide) (by decide)
  have hO1 : OkM C1 := hI.2.1.cg e6 e61
  refine s_istore (pc := 1343) S ((6, .int (nI k)) :: Ll b n A) dL_law_1343 (by decide) rfl ?_
  refine s_loc (L2 := (6, .int (nI k)) :: Ll b n A1) (congrArg (List.cons _) (ll_st w3.1)) ?_
  refine s_aload_n (pc := 1345) S 4 dL_law_1345 rfl rfl ?_
  refine law_arg (pc := 1346) (n := n) (j := 1) S hX 2 1 (by omega) hN (by decide) rfl rfl dL_law_1346 dL_law_1347 dL_law_1349 dL_law_1350 dL_law_1351 ?_
  refine law_arg (pc := 1352) (n := n) (j := 2) S hX 2 1 (by omega) hN (by decide) rfl rfl dL_law_1352 dL_law_1353 dL_law_1355 dL_law_1356 dL_law_1357 ?_
  refine law_arg (pc := 1358) (n := n) (j := 3) S hX 2 1 (by omega) hN (by decide) rfl rfl dL_law_1358 dL_law_1359 dL_law_1361 dL_law_1362 dL_law_1363 ?_
  refine s_callV (pc := 1364) S hz hml [.int (xs (7 * n + 1)), .int (xs (7 * n + 2)), .int (xs (7 * n + 3))] (k_X7_setPrices Z l A1 C1 (xs (7 * n + 1)) (xs (7 * n + 2)) (xs (7 * n + 3))  hO1.1) (cwV 3 S.2.2.2.2 gL_law_X7_setPrices rfl rfl rfl (by decide +kernel) ⟨(Nat.le_of_ble_eq_true rfl), (Nat.le_of_ble_eq_true rfl)⟩) (cc_mod (A := A1) (C := C1)) rfl rfl rfl (Nat.le_of_ble_eq_true rfl) dL_law_1364 ⟨by omega, by omega⟩ (fun _ _ _ h => h.elim) (fun v A2 C2 h => ?_)
  have h7 : K7_setPrices A1 C1 (xs (7 * n + 1)) (xs (7 * n + 2)) (xs (7 * n + 3)) v A2 C2 := h
  obtain ⟨hB, b7, rfl, hv⟩ := ag_setPrices  hI hW h7
  refine s_istore (pc := 1367) S ((7, .int b7) :: (6, .int (nI k)) :: Ll b n A1) dL_law_1367 (by decide) rfl ?_
  refine s_loc (L2 := (7, .int b7) :: (6, .int (nI k)) :: Ll b n A2) (congrArg (fun q => (7, .int b7) :: (6, .int (nI k)) :: q) ((ll_st w3.1).symm.trans (ll_st hB.2.2.1.1))) ?_
  obtain ⟨hL1, hc1, hs1⟩ := h0.next hB
  exact law_tl (pc := 1369) S hz hml hB.1 hk3 hv ⟨by omega, by omega⟩ _ dL_law_1369 dL_law_1370 dL_law_1373 dL_law_1375 dL_law_1380 dL_law_1382 dL_law_1385 dL_law_1386 dL_law_1387 dL_law_1388 dL_law_1390 dL_law_1391 dL_law_1392 dL_law_1397 (by decide) (s_widen (by omega) (by omega) (kk A2 C2 hL1))
set_option maxHeartbeats 4000000 in
set_option maxRecDepth 100000 in
theorem lc_submit {Z : Zp} {p : Program} {l : Launch} {e : Env} {s : State} {m : MethodId} {args : Array Value} {below : List Frame} {meth : Method} {c : Code} {Q : State → Prop} {M0 : Wd} {A : AF} {C : CF} {b N n : Nat} {xs : Nat → Int32} (S : CallFix p m c cL_law 9 s args wsL_law RL) (hz : Stat Z s) (hml : c.maxLocals = 9) (hfl : l.stackTraces = false) (hX : Scr b N xs Z s) (hN : N ≤ 3584) (hn : 7 * n + 7 ≤ N) (h0 : LI Z n A C) (kk : ∀ (A2 : AF) (C2 : CF), LI Z (n + 1) A2 C2 → LGS Z p l e s m args below meth c Q (bC (n + 1) C2) (bS (n + 1) C2) M0 A2 C2 3146 (Ll b n A2) []) : LGS Z p l e s m args below meth c Q (bC n C) (bS n C) M0 A C 1400 (Ll b n A) [] := by
  have hI := h0.1
  obtain ⟨hcapC, hcapS⟩ := h0.cap (by omega)
  refine s_aload_n (pc := 1400) S 2 dL_law_1400 rfl rfl ?_
  refine law_arg (pc := 1401) (n := n) (j := 1) S hX 1 0 (by omega) hN (by decide) rfl rfl dL_law_1401 dL_law_1402 dL_law_1404 dL_law_1405 dL_law_1406 ?_
  refine law_arg (pc := 1407) (n := n) (j := 2) S hX 1 0 (by omega) hN (by decide) rfl rfl dL_law_1407 dL_law_1408 dL_law_1410 dL_law_1411 dL_law_1412 ?_
  refine law_arg (pc := 1413) (n := n) (j := 3) S hX 1 0 (by omega) hN (by decide) rfl rfl dL_law_1413 dL_law_1414 dL_law_1416 dL_law_1417 dL_law_1418 ?_
  refine law_arg (pc := 1419) (n := n) (j := 4) S hX 1 0 (by omega) hN (by decide) rfl rfl dL_law_1419 dL_law_1420 dL_law_1422 dL_law_1423 dL_law_1424 ?_
  refine law_char (pc := 1425) S dL_law_1425 ?_
  refine law_arg (pc := 1426) (n := n) (j := 5) S hX 1 0 (by omega) hN (by decide) rfl rfl dL_law_1426 dL_law_1427 dL_law_1429 dL_law_1430 dL_law_1431 ?_
  refine law_bool (pc := 1432) S dL_law_1432 dL_law_1435 dL_law_1436 dL_law_1439 ?_
  refine law_argB (pc := 1440) (n := n) (j := 6) S hX 1 0 (by omega) hN (by decide) rfl rfl dL_law_1440 dL_law_1441 dL_law_1443 dL_law_1445 dL_law_1446 ?_
  refine law_bool (pc := 1447) S dL_law_1447 dL_law_1450 dL_law_1451 dL_law_1454 ?_
  refine s_aload_n (pc := 1455) S 4 dL_law_1455 rfl rfl ?_
  refine s_callSX (pc := 1456) S hz hml [.ref (A 0 0), .int (xs (7 * n + 1)), .int (xs (7 * n + 2)), .int (xs (7 * n + 3)), .int (nI (cz (xs (7 * n + 4)))), .int (nI (bz (xs (7 * n + 5)))), .int (nI (bz (xs (7 * n + 6)))), .ref (A 70 0)] (k_L_submit Z l A C hI (xs (7 * n + 1)) (xs (7 * n + 2)) (xs (7 * n + 3)) (cz (xs (7 * n + 4))) (bz (xs (7 * n + 5))) (bz (xs (7 * n + 6))) (cz_lt _) (bz_lt _) (bz_lt _) hfl) (vx_cwSW 8 S.2.2.2.2 gL_law_L_submit rfl rfl rfl (by decide +kernel) ⟨(Nat.le_of_ble_eq_true rfl), (Nat.le_of_ble_eq_true rfl)⟩) rfl rfl (Nat.le_of_ble_eq_true rfl) dL_law_1456 ⟨by omega, by omega⟩ (fun v A1 C1 h => ?_)
  obtain ⟨k, rfl, hW⟩ := h
  obtain ⟨w1, w3, hk3⟩ := w_submit hW
  have e6 : C1 60 = C 60 := w1 60 (by decide) (by decide)
  have e61 : C1 61 = C 61 := w1 61 (by decide) (by decide)
  have hO1 : OkM C1 := hI.2.1.cg e6 e61
  refine s_istore (pc := 1459) S ((6, .int (nI k)) :: Ll b n A) dL_law_1459 (by decide) rfl ?_
  refine s_loc (L2 := (6, .int (nI k)) :: Ll b n A1) (congrArg (List.cons _) (ll_st w3.1)) ?_
  refine s_aload_n (pc := 1461) S 4 dL_law_1461 rfl rfl ?_
  refine law_arg (pc := 1462) (n := n) (j := 1) S hX 2 1 (by omega) hN (by decide) rfl rfl dL_law_1462 dL_law_1463 dL_law_1465 dL_law_1466 dL_law_1467 ?_
  refine law_arg (pc := 1468) (n := n) (j := 2) S hX 2 1 (by omega) hN (by decide) rfl rfl dL_law_1468 dL_law_1469 dL_law_1471 dL_law_1472 dL_law_1473 ?_
  refine law_arg (pc := 1474) (n := n) (j := 3) S hX 2 1 (by omega) hN (by decide) rfl rfl dL_law_1474 dL_law_1475 dL_law_1477 dL_law_1478 dL_law_1479 ?_
  refine law_arg (pc := 1480) (n := n) (j := 4) S hX 2 1 (by omega) hN (by decide) rfl rfl dL_law_1480 dL_law_1481 dL_law_1483 dL_law_1484 dL_law_1485 ?_
  refine law_char (pc := 1486) S dL_law_1486 ?_
  refine law_arg (pc := 1487) (n := n) (j := 5) S hX 2 1 (by omega) hN (by decide) rfl rfl dL_law_1487 dL_law_1488 dL_law_1490 dL_law_1491 dL_law_1492 ?_
  refine law_bool (pc := 1493) S dL_law_1493 dL_law_1496 dL_law_1497 dL_law_1500 ?_
  refine law_argB (pc := 1501) (n := n) (j := 6) S hX 2 1 (by omega) hN (by decide) rfl rfl dL_law_1501 dL_law_1502 dL_law_1504 dL_law_1506 dL_law_1507 ?_
  refine law_bool (pc := 1508) S dL_law_1508 dL_law_1511 dL_law_1512 dL_law_1515 ?_
  refine s_callV (pc := 1516) S hz hml [.int (xs (7 * n + 1)), .int (xs (7 * n + 2)), .int (xs (7 * n + 3)), .int (nI (cz (xs (7 * n + 4)))), .int (nI (bz (xs (7 * n + 5)))), .int (nI (bz (xs (7 * n + 6))))] (k_X7_submit Z l A1 C1 (xs (7 * n + 1)) (xs (7 * n + 2)) (xs (7 * n + 3)) (cz (xs (7 * n + 4))) (bz (xs (7 * n + 5))) (bz (xs (7 * n + 6))) (cz_lt _) (bz_lt _) (bz_lt _) hO1.1) (cwV 6 S.2.2.2.2 gL_law_X7_submit rfl rfl rfl (by decide +kernel) ⟨(Nat.le_of_ble_eq_true rfl), (Nat.le_of_ble_eq_true rfl)⟩) (cc_mod (A := A1) (C := C1)) rfl rfl rfl (Nat.le_of_ble_eq_true rfl) dL_law_1516 ⟨by omega, by omega⟩ (fun _ _ _ h => h.elim) (fun v A2 C2 h => ?_)
  have h7 : K7_submit A1 C1 (xs (7 * n + 1)) (xs (7 * n + 2)) (xs (7 * n + 3)) (cz (xs (7 * n + 4))) (bz (xs (7 * n + 5))) (bz (xs (7 * n + 6))) v A2 C2 := h
  obtain ⟨hB, b7, rfl, hv⟩ := ag_submit (cz_lt _) (bz_lt _) (bz_lt _) hI hW h7
  refine s_istore (pc := 1519) S ((7, .int b7) :: (6, .int (nI k)) :: Ll b n A1) dL_law_1519 (by decide) rfl ?_
  refine s_loc (L2 := (7, .int b7) :: (6, .int (nI k)) :: Ll b n A2) (congrArg (fun q => (7, .int b7) :: (6, .int (nI k)) :: q) ((ll_st w3.1).symm.trans (ll_st hB.2.2.1.1))) ?_
  obtain ⟨hL1, hc1, hs1⟩ := h0.next hB
  exact law_tl (pc := 1521) S hz hml hB.1 hk3 hv ⟨by omega, by omega⟩ _ dL_law_1521 dL_law_1522 dL_law_1525 dL_law_1527 dL_law_1532 dL_law_1534 dL_law_1537 dL_law_1538 dL_law_1539 dL_law_1540 dL_law_1542 dL_law_1543 dL_law_1544 dL_law_1549 (by decide) (s_widen (by omega) (by omega) (kk A2 C2 hL1))
set_option maxHeartbeats 4000000 in
set_option maxRecDepth 100000 in
theorem lc_setStapled {Z : Zp} {p : Program} {l : Launch} {e : Env} {s : State} {m : MethodId} {args : Array Value} {below : List Frame} {meth : Method} {c : Code} {Q : State → Prop} {M0 : Wd} {A : AF} {C : CF} {b N n : Nat} {xs : Nat → Int32} (S : CallFix p m c cL_law 9 s args wsL_law RL) (hz : Stat Z s) (hml : c.maxLocals = 9) (hfl : l.stackTraces = false) (hX : Scr b N xs Z s) (hN : N ≤ 3584) (hn : 7 * n + 7 ≤ N) (h0 : LI Z n A C) (kk : ∀ (A2 : AF) (C2 : CF), LI Z (n + 1) A2 C2 → LGS Z p l e s m args below meth c Q (bC (n + 1) C2) (bS (n + 1) C2) M0 A2 C2 3146 (Ll b n A2) []) : LGS Z p l e s m args below meth c Q (bC n C) (bS n C) M0 A C 1552 (Ll b n A) [] := by
  have hI := h0.1
  obtain ⟨hcapC, hcapS⟩ := h0.cap (by omega)
  refine s_aload_n (pc := 1552) S 2 dL_law_1552 rfl rfl ?_
  refine law_arg (pc := 1553) (n := n) (j := 1) S hX 1 0 (by omega) hN (by decide) rfl rfl dL_law_1553 dL_law_1554 dL_law_1556 dL_law_1557 dL_law_1558 ?_
  refine law_arg (pc := 1559) (n := n) (j := 2) S hX 1 0 (by omega) hN (by decide) rfl rfl dL_law_1559 dL_law_1560 dL_law_1562 dL_law_1563 dL_law_1564 ?_
  refine law_bool (pc := 1565) S dL_law_1565 dL_law_1568 dL_law_1569 dL_law_1572 ?_
  refine s_aload_n (pc := 1573) S 4 dL_law_1573 rfl rfl ?_
  refine s_callSX (pc := 1574) S hz hml [.ref (A 0 0), .int (xs (7 * n + 1)), .int (nI (bz (xs (7 * n + 2)))), .ref (A 70 0)] (k_L_setStapled Z l A C hI (xs (7 * n + 1)) (bz (xs (7 * n + 2))) (bz_lt _) hfl) (vx_cwSW 4 S.2.2.2.2 gL_law_L_setStapled rfl rfl rfl (by decide +kernel) ⟨(Nat.le_of_ble_eq_true rfl), (Nat.le_of_ble_eq_true rfl)⟩) rfl rfl (Nat.le_of_ble_eq_true rfl) dL_law_1574 ⟨by omega, by omega⟩ (fun v A1 C1 h => ?_)
  obtain ⟨k, rfl, hW⟩ := h
  obtain ⟨w1, w3, hk3⟩ := w_setStapled hW
  have e6 : C1 60 = C 60 := w1 60 (by decide) (by decide)
  have e61 : C1 61 = C 61 := w1 61 (by decide) (by decide)
  have hO1 : OkM C1 := hI.2.1.cg e6 e61
  refine s_istore (pc := 1577) S ((6, .int (nI k)) :: Ll b n A) dL_law_1577 (by decide) rfl ?_
  refine s_loc (L2 := (6, .int (nI k)) :: Ll b n A1) (congrArg (List.cons _) (ll_st w3.1)) ?_
  refine s_aload_n (pc := 1579) S 4 dL_law_1579 rfl rfl ?_
  refine law_arg (pc := 1580) (n := n) (j := 1) S hX 2 1 (by omega) hN (by decide) rfl rfl dL_law_1580 dL_law_1581 dL_law_1583 dL_law_1584 dL_law_1585 ?_
  refine law_arg (pc := 1586) (n := n) (j := 2) S hX 2 1 (by omega) hN (by decide) rfl rfl dL_law_1586 dL_law_1587 dL_law_1589 dL_law_1590 dL_law_1591 ?_
  refine law_bool (pc := 1592) S dL_law_1592 dL_law_1595 dL_law_1596 dL_law_1599 ?_
  refine s_callV (pc := 1600) S hz hml [.int (xs (7 * n + 1)), .int (nI (bz (xs (7 * n + 2))))] (k_X7_setStapled Z l A1 C1 (xs (7 * n + 1)) (bz (xs (7 * n + 2))) (bz_lt _) hO1.1) (cwV 2 S.2.2.2.2 gL_law_X7_setStapled rfl rfl rfl (by decide +kernel) ⟨(Nat.le_of_ble_eq_true rfl), (Nat.le_of_ble_eq_true rfl)⟩) (cc_mod (A := A1) (C := C1)) rfl rfl rfl (Nat.le_of_ble_eq_true rfl) dL_law_1600 ⟨by omega, by omega⟩ (fun _ _ _ h => h.elim) (fun v A2 C2 h => ?_)
  have h7 : K7_setStapled A1 C1 (xs (7 * n + 1)) (bz (xs (7 * n + 2))) v A2 C2 := h
  obtain ⟨hB, b7, rfl, hv⟩ := ag_setStapled (bz_lt _) hI hW h7
  refine s_istore (pc := 1603) S ((7, .int b7) :: (6, .int (nI k)) :: Ll b n A1) dL_law_1603 (by decide) rfl ?_
  refine s_loc (L2 := (7, .int b7) :: (6, .int (nI k)) :: Ll b n A2) (congrArg (fun q => (7, .int b7) :: (6, .int (nI k)) :: q) ((ll_st w3.1).symm.trans (ll_st hB.2.2.1.1))) ?_
  obtain ⟨hL1, hc1, hs1⟩ := h0.next hB
  exact law_tlZ (pc := 1605) S hz hml hB.1 hk3 hv ⟨by omega, by omega⟩ _ dL_law_1605 dL_law_1606 dL_law_1609 dL_law_1611 dL_law_1616 dL_law_1618 dL_law_1621 dL_law_1622 dL_law_1623 dL_law_1624 dL_law_1626 dL_law_1629 dL_law_1630 dL_law_1633 dL_law_1634 dL_law_1635 dL_law_1640 (by decide) (s_widen (by omega) (by omega) (kk A2 C2 hL1))
set_option maxHeartbeats 4000000 in
set_option maxRecDepth 100000 in
theorem lc_cancel {Z : Zp} {p : Program} {l : Launch} {e : Env} {s : State} {m : MethodId} {args : Array Value} {below : List Frame} {meth : Method} {c : Code} {Q : State → Prop} {M0 : Wd} {A : AF} {C : CF} {b N n : Nat} {xs : Nat → Int32} (S : CallFix p m c cL_law 9 s args wsL_law RL) (hz : Stat Z s) (hml : c.maxLocals = 9) (hfl : l.stackTraces = false) (hX : Scr b N xs Z s) (hN : N ≤ 3584) (hn : 7 * n + 7 ≤ N) (h0 : LI Z n A C) (kk : ∀ (A2 : AF) (C2 : CF), LI Z (n + 1) A2 C2 → LGS Z p l e s m args below meth c Q (bC (n + 1) C2) (bS (n + 1) C2) M0 A2 C2 3146 (Ll b n A2) []) : LGS Z p l e s m args below meth c Q (bC n C) (bS n C) M0 A C 1643 (Ll b n A) [] := by
  have hI := h0.1
  obtain ⟨hcapC, hcapS⟩ := h0.cap (by omega)
  refine s_aload_n (pc := 1643) S 2 dL_law_1643 rfl rfl ?_
  refine law_arg (pc := 1644) (n := n) (j := 1) S hX 1 0 (by omega) hN (by decide) rfl rfl dL_law_1644 dL_law_1645 dL_law_1647 dL_law_1648 dL_law_1649 ?_
  refine s_aload_n (pc := 1650) S 4 dL_law_1650 rfl rfl ?_
  refine s_callSX (pc := 1651) S hz hml [.ref (A 0 0), .int (xs (7 * n + 1)), .ref (A 70 0)] (k_L_cancel Z l A C hI (xs (7 * n + 1))  hfl) (vx_cwSW 3 S.2.2.2.2 gL_law_L_cancel rfl rfl rfl (by decide +kernel) ⟨(Nat.le_of_ble_eq_true rfl), (Nat.le_of_ble_eq_true rfl)⟩) rfl rfl (Nat.le_of_ble_eq_true rfl) dL_law_1651 ⟨by omega, by omega⟩ (fun v A1 C1 h => ?_)
  obtain ⟨k, rfl, hW⟩ := h
  obtain ⟨w1, w3, hk3⟩ := w_cancel hW
  have e6 : C1 60 = C 60 := w1 60 (by decide) (by decide)
  have e61 : C1 61 = C 61 := w1 61 (by decide) (by decide)
  have hO1 : OkM C1 := hI.2.1.cg e6 e61
  refine s_istore (pc := 1654) S ((6, .int (nI k)) :: Ll b n A) dL_law_1654 (by decide) rfl ?_
  refine s_loc (L2 := (6, .int (nI k)) :: Ll b n A1) (congrArg (List.cons _) (ll_st w3.1)) ?_
  refine s_aload_n (pc := 1656) S 4 dL_law_1656 rfl rfl ?_
  refine law_arg (pc := 1657) (n := n) (j := 1) S hX 2 1 (by omega) hN (by decide) rfl rfl dL_law_1657 dL_law_1658 dL_law_1660 dL_law_1661 dL_law_1662 ?_
  refine s_callV (pc := 1663) S hz hml [.int (xs (7 * n + 1))] (k_X7_cancel Z l A1 C1 (xs (7 * n + 1))  hO1.1) (cwV 1 S.2.2.2.2 gL_law_X7_cancel rfl rfl rfl (by decide +kernel) ⟨(Nat.le_of_ble_eq_true rfl), (Nat.le_of_ble_eq_true rfl)⟩) (cc_mod (A := A1) (C := C1)) rfl rfl rfl (Nat.le_of_ble_eq_true rfl) dL_law_1663 ⟨by omega, by omega⟩ (fun _ _ _ h => h.elim) (fun v A2 C2 h => ?_)
  have h7 : K7_cancel A1 C1 (xs (7 * n + 1)) v A2 C2 := h
  obtain ⟨hB, b7, rfl, hv⟩ := ag_cancel  hI hW h7
  refine s_istore (pc := 1666) S ((7, .int b7) :: (6, .int (nI k)) :: Ll b n A1) dL_law_1666 (by decide) rfl ?_
  refine s_loc (L2 := (7, .int b7) :: (6, .int (nI k)) :: Ll b n A2) (congrArg (fun q => (7, .int b7) :: (6, .int (nI k)) :: q) ((ll_st w3.1).symm.trans (ll_st hB.2.2.1.1))) ?_
  obtain ⟨hL1, hc1, hs1⟩ := h0.next hB
  exact law_tl (pc := 1668) S hz hml hB.1 hk3 hv ⟨by omega, by omega⟩ _ dL_law_1668 dL_law_1669 dL_law_1672 dL_law_1674 dL_law_1679 dL_law_1681 dL_law_1684 dL_law_1685 dL_law_1686 dL_law_1687 dL_law_1689 dL_law_1690 dL_law_1691 dL_law_1696 (by decide) (s_widen (by omega) (by omega) (kk A2 C2 hL1))
set_option maxHeartbeats 4000000 in
set_option maxRecDepth 100000 in
theorem lc_stateOf {Z : Zp} {p : Program} {l : Launch} {e : Env} {s : State} {m : MethodId} {args : Array Value} {below : List Frame} {meth : Method} {c : Code} {Q : State → Prop} {M0 : Wd} {A : AF} {C : CF} {b N n : Nat} {xs : Nat → Int32} (S : CallFix p m c cL_law 9 s args wsL_law RL) (hz : Stat Z s) (hml : c.maxLocals = 9) (hfl : l.stackTraces = false) (hX : Scr b N xs Z s) (hN : N ≤ 3584) (hn : 7 * n + 7 ≤ N) (h0 : LI Z n A C) (kk : ∀ (A2 : AF) (C2 : CF), LI Z (n + 1) A2 C2 → LGS Z p l e s m args below meth c Q (bC (n + 1) C2) (bS (n + 1) C2) M0 A2 C2 3146 (Ll b n A2) []) : LGS Z p l e s m args below meth c Q (bC n C) (bS n C) M0 A C 1699 (Ll b n A) [] := by
  have hI := h0.1
  obtain ⟨hcapC, hcapS⟩ := h0.cap (by omega)
  refine s_aload_n (pc := 1699) S 2 dL_law_1699 rfl rfl ?_
  refine law_arg (pc := 1700) (n := n) (j := 1) S hX 1 0 (by omega) hN (by decide) rfl rfl dL_law_1700 dL_law_1701 dL_law_1703 dL_law_1704 dL_law_1705 ?_
  refine s_aload_n (pc := 1706) S 4 dL_law_1706 rfl rfl ?_
  refine s_callSX (pc := 1707) S hz hml [.ref (A 0 0), .int (xs (7 * n + 1)), .ref (A 70 0)] (k_L_stateOf Z l A C hI (xs (7 * n + 1))  hfl) (vx_cwSW 3 S.2.2.2.2 gL_law_L_stateOf rfl rfl rfl (by decide +kernel) ⟨(Nat.le_of_ble_eq_true rfl), (Nat.le_of_ble_eq_true rfl)⟩) rfl rfl (Nat.le_of_ble_eq_true rfl) dL_law_1707 ⟨by omega, by omega⟩ (fun v A1 C1 h => ?_)
  obtain ⟨k, rfl, hW⟩ := h
  obtain ⟨w1, w3, hk3⟩ := w_stateOf hW
  have e6 : C1 60 = C 60 := w1 60 (by decide) (by decide)
  have e61 : C1 61 = C 61 := w1 61 (by decide) (by decide)
  have hO1 : OkM C1 := hI.2.1.cg e6 e61
  refine s_istore (pc := 1710) S ((6, .int (nI k)) :: Ll b n A) dL_law_1710 (by decide) rfl ?_
  refine s_loc (L2 := (6, .int (nI k)) :: Ll b n A1) (congrArg (List.cons _) (ll_st w3.1)) ?_
  refine s_aload_n (pc := 1712) S 4 dL_law_1712 rfl rfl ?_
  refine law_arg (pc := 1713) (n := n) (j := 1) S hX 2 1 (by omega) hN (by decide) rfl rfl dL_law_1713 dL_law_1714 dL_law_1716 dL_law_1717 dL_law_1718 ?_
  refine s_callV (pc := 1719) S hz hml [.int (xs (7 * n + 1))] (k_X7_stateOf Z l A1 C1 (xs (7 * n + 1))  hO1.1) (cwV 1 S.2.2.2.2 gL_law_X7_stateOf rfl rfl rfl (by decide +kernel) ⟨(Nat.le_of_ble_eq_true rfl), (Nat.le_of_ble_eq_true rfl)⟩) (cc_mod (A := A1) (C := C1)) rfl rfl rfl (Nat.le_of_ble_eq_true rfl) dL_law_1719 ⟨by omega, by omega⟩ (fun _ _ _ h => h.elim) (fun v A2 C2 h => ?_)
  have h7 : K7_stateOf A1 C1 (xs (7 * n + 1)) v A2 C2 := h
  obtain ⟨hB, b7, rfl, hv⟩ := ag_stateOf  hI hW h7
  refine s_istore (pc := 1722) S ((7, .int b7) :: (6, .int (nI k)) :: Ll b n A1) dL_law_1722 (by decide) rfl ?_
  refine s_loc (L2 := (7, .int b7) :: (6, .int (nI k)) :: Ll b n A2) (congrArg (fun q => (7, .int b7) :: (6, .int (nI k)) :: q) ((ll_st w3.1).symm.trans (ll_st hB.2.2.1.1))) ?_
  obtain ⟨hL1, hc1, hs1⟩ := h0.next hB
  exact law_tl (pc := 1724) S hz hml hB.1 hk3 hv ⟨by omega, by omega⟩ _ dL_law_1724 dL_law_1725 dL_law_1728 dL_law_1730 dL_law_1735 dL_law_1737 dL_law_1740 dL_law_1741 dL_law_1742 dL_law_1743 dL_law_1745 dL_law_1746 dL_law_1747 dL_law_1752 (by decide) (s_widen (by omega) (by omega) (kk A2 C2 hL1))
set_option maxHeartbeats 4000000 in
set_option maxRecDepth 100000 in
theorem lc_pagesLeft {Z : Zp} {p : Program} {l : Launch} {e : Env} {s : State} {m : MethodId} {args : Array Value} {below : List Frame} {meth : Method} {c : Code} {Q : State → Prop} {M0 : Wd} {A : AF} {C : CF} {b N n : Nat} {xs : Nat → Int32} (S : CallFix p m c cL_law 9 s args wsL_law RL) (hz : Stat Z s) (hml : c.maxLocals = 9) (hfl : l.stackTraces = false) (hX : Scr b N xs Z s) (hN : N ≤ 3584) (hn : 7 * n + 7 ≤ N) (h0 : LI Z n A C) (kk : ∀ (A2 : AF) (C2 : CF), LI Z (n + 1) A2 C2 → LGS Z p l e s m args below meth c Q (bC (n + 1) C2) (bS (n + 1) C2) M0 A2 C2 3146 (Ll b n A2) []) : LGS Z p l e s m args below meth c Q (bC n C) (bS n C) M0 A C 1755 (Ll b n A) [] := by
  have hI := h0.1
  obtain ⟨hcapC, hcapS⟩ := h0.cap (by omega)
  refine s_aload_n (pc := 1755) S 2 dL_law_1755 rfl rfl ?_
  refine law_arg (pc := 1756) (n := n) (j := 1) S hX 1 0 (by omega) hN (by decide) rfl rfl dL_law_1756 dL_law_1757 dL_law_1759 dL_law_1760 dL_law_1761 ?_
  refine s_aload_n (pc := 1762) S 4 dL_law_1762 rfl rfl ?_
  refine s_callSX (pc := 1763) S hz hml [.ref (A 0 0), .int (xs (7 * n + 1)), .ref (A 70 0)] (k_L_pagesLeft Z l A C hI (xs (7 * n + 1))  hfl) (vx_cwSW 3 S.2.2.2.2 gL_law_L_pagesLeft rfl rfl rfl (by decide +kernel) ⟨(Nat.le_of_ble_eq_true rfl), (Nat.le_of_ble_eq_true rfl)⟩) rfl rfl (Nat.le_of_ble_eq_true rfl) dL_law_1763 ⟨by omega, by omega⟩ (fun v A1 C1 h => ?_)
  obtain ⟨k, rfl, hW⟩ := h
  obtain ⟨w1, w3, hk3⟩ := w_pagesLeft hW
  have e6 : C1 60 = C 60 := w1 60 (by decide) (by decide)
  have e61 : C1 61 = C 61 := w1 61 (by decide) (by decide)
  have hO1 : OkM C1 := hI.2.1.cg e6 e61
  refine s_istore (pc := 1766) S ((6, .int (nI k)) :: Ll b n A) dL_law_1766 (by decide) rfl ?_
  refine s_loc (L2 := (6, .int (nI k)) :: Ll b n A1) (congrArg (List.cons _) (ll_st w3.1)) ?_
  refine s_aload_n (pc := 1768) S 4 dL_law_1768 rfl rfl ?_
  refine law_arg (pc := 1769) (n := n) (j := 1) S hX 2 1 (by omega) hN (by decide) rfl rfl dL_law_1769 dL_law_1770 dL_law_1772 dL_law_1773 dL_law_1774 ?_
  refine s_callV (pc := 1775) S hz hml [.int (xs (7 * n + 1))] (k_X7_pagesLeft Z l A1 C1 (xs (7 * n + 1))  hO1.1) (cwV 1 S.2.2.2.2 gL_law_X7_pagesLeft rfl rfl rfl (by decide +kernel) ⟨(Nat.le_of_ble_eq_true rfl), (Nat.le_of_ble_eq_true rfl)⟩) (cc_mod (A := A1) (C := C1)) rfl rfl rfl (Nat.le_of_ble_eq_true rfl) dL_law_1775 ⟨by omega, by omega⟩ (fun _ _ _ h => h.elim) (fun v A2 C2 h => ?_)
  have h7 : K7_pagesLeft A1 C1 (xs (7 * n + 1)) v A2 C2 := h
  obtain ⟨hB, b7, rfl, hv⟩ := ag_pagesLeft  hI hW h7
  refine s_istore (pc := 1778) S ((7, .int b7) :: (6, .int (nI k)) :: Ll b n A1) dL_law_1778 (by decide) rfl ?_
  refine s_loc (L2 := (7, .int b7) :: (6, .int (nI k)) :: Ll b n A2) (congrArg (fun q => (7, .int b7) :: (6, .int (nI k)) :: q) ((ll_st w3.1).symm.trans (ll_st hB.2.2.1.1))) ?_
  obtain ⟨hL1, hc1, hs1⟩ := h0.next hB
  exact law_tl (pc := 1780) S hz hml hB.1 hk3 hv ⟨by omega, by omega⟩ _ dL_law_1780 dL_law_1781 dL_law_1784 dL_law_1786 dL_law_1791 dL_law_1793 dL_law_1796 dL_law_1797 dL_law_1798 dL_law_1799 dL_law_1801 dL_law_1802 dL_law_1803 dL_law_1808 (by decide) (s_widen (by omega) (by omega) (kk A2 C2 hL1))
set_option maxHeartbeats 4000000 in
set_option maxRecDepth 100000 in
theorem lc_sheetsOut {Z : Zp} {p : Program} {l : Launch} {e : Env} {s : State} {m : MethodId} {args : Array Value} {below : List Frame} {meth : Method} {c : Code} {Q : State → Prop} {M0 : Wd} {A : AF} {C : CF} {b N n : Nat} {xs : Nat → Int32} (S : CallFix p m c cL_law 9 s args wsL_law RL) (hz : Stat Z s) (hml : c.maxLocals = 9) (hfl : l.stackTraces = false) (hX : Scr b N xs Z s) (hN : N ≤ 3584) (hn : 7 * n + 7 ≤ N) (h0 : LI Z n A C) (kk : ∀ (A2 : AF) (C2 : CF), LI Z (n + 1) A2 C2 → LGS Z p l e s m args below meth c Q (bC (n + 1) C2) (bS (n + 1) C2) M0 A2 C2 3146 (Ll b n A2) []) : LGS Z p l e s m args below meth c Q (bC n C) (bS n C) M0 A C 1811 (Ll b n A) [] := by
  have hI := h0.1
  obtain ⟨hcapC, hcapS⟩ := h0.cap (by omega)
  refine s_aload_n (pc := 1811) S 2 dL_law_1811 rfl rfl ?_
  refine law_arg (pc := 1812) (n := n) (j := 1) S hX 1 0 (by omega) hN (by decide) rfl rfl dL_law_1812 dL_law_1813 dL_law_1815 dL_law_1816 dL_law_1817 ?_
  refine s_aload_n (pc := 1818) S 4 dL_law_1818 rfl rfl ?_
  refine s_callSX (pc := 1819) S hz hml [.ref (A 0 0), .int (xs (7 * n + 1)), .ref (A 70 0)] (k_L_sheetsOut Z l A C hI (xs (7 * n + 1))  hfl) (vx_cwSW 3 S.2.2.2.2 gL_law_L_sheetsOut rfl rfl rfl (by decide +kernel) ⟨(Nat.le_of_ble_eq_true rfl), (Nat.le_of_ble_eq_true rfl)⟩) rfl rfl (Nat.le_of_ble_eq_true rfl) dL_law_1819 ⟨by omega, by omega⟩ (fun v A1 C1 h => ?_)
  obtain ⟨k, rfl, hW⟩ := h
  obtain ⟨w1, w3, hk3⟩ := w_sheetsOut hW
  have e6 : C1 60 = C 60 := w1 60 (by decide) (by decide)
  have e61 : C1 61 = C 61 := w1 61 (by decide) (by decide)
  have hO1 : OkM C1 := hI.2.1.cg e6 e61
  refine s_istore (pc := 1822) S ((6, .int (nI k)) :: Ll b n A) dL_law_1822 (by decide) rfl ?_
  refine s_loc (L2 := (6, .int (nI k)) :: Ll b n A1) (congrArg (List.cons _) (ll_st w3.1)) ?_
  refine s_aload_n (pc := 1824) S 4 dL_law_1824 rfl rfl ?_
  refine law_arg (pc := 1825) (n := n) (j := 1) S hX 2 1 (by omega) hN (by decide) rfl rfl dL_law_1825 dL_law_1826 dL_law_1828 dL_law_1829 dL_law_1830 ?_
  refine s_callV (pc := 1831) S hz hml [.int (xs (7 * n + 1))] (k_X7_sheetsOut Z l A1 C1 (xs (7 * n + 1))  hO1.1) (cwV 1 S.2.2.2.2 gL_law_X7_sheetsOut rfl rfl rfl (by decide +kernel) ⟨(Nat.le_of_ble_eq_true rfl), (Nat.le_of_ble_eq_true rfl)⟩) (cc_mod (A := A1) (C := C1)) rfl rfl rfl (Nat.le_of_ble_eq_true rfl) dL_law_1831 ⟨by omega, by omega⟩ (fun _ _ _ h => h.elim) (fun v A2 C2 h => ?_)
  have h7 : K7_sheetsOut A1 C1 (xs (7 * n + 1)) v A2 C2 := h
  obtain ⟨hB, b7, rfl, hv⟩ := ag_sheetsOut  hI hW h7
  refine s_istore (pc := 1834) S ((7, .int b7) :: (6, .int (nI k)) :: Ll b n A1) dL_law_1834 (by decide) rfl ?_
  refine s_loc (L2 := (7, .int b7) :: (6, .int (nI k)) :: Ll b n A2) (congrArg (fun q => (7, .int b7) :: (6, .int (nI k)) :: q) ((ll_st w3.1).symm.trans (ll_st hB.2.2.1.1))) ?_
  obtain ⟨hL1, hc1, hs1⟩ := h0.next hB
  exact law_tl (pc := 1836) S hz hml hB.1 hk3 hv ⟨by omega, by omega⟩ _ dL_law_1836 dL_law_1837 dL_law_1840 dL_law_1842 dL_law_1847 dL_law_1849 dL_law_1852 dL_law_1853 dL_law_1854 dL_law_1855 dL_law_1857 dL_law_1858 dL_law_1859 dL_law_1864 (by decide) (s_widen (by omega) (by omega) (kk A2 C2 hL1))
set_option maxHeartbeats 4000000 in
set_option maxRecDepth 100000 in
theorem lc_stapledCopies {Z : Zp} {p : Program} {l : Launch} {e : Env} {s : State} {m : MethodId} {args : Array Value} {below : List Frame} {meth : Method} {c : Code} {Q : State → Prop} {M0 : Wd} {A : AF} {C : CF} {b N n : Nat} {xs : Nat → Int32} (S : CallFix p m c cL_law 9 s args wsL_law RL) (hz : Stat Z s) (hml : c.maxLocals = 9) (hfl : l.stackTraces = false) (hX : Scr b N xs Z s) (hN : N ≤ 3584) (hn : 7 * n + 7 ≤ N) (h0 : LI Z n A C) (kk : ∀ (A2 : AF) (C2 : CF), LI Z (n + 1) A2 C2 → LGS Z p l e s m args below meth c Q (bC (n + 1) C2) (bS (n + 1) C2) M0 A2 C2 3146 (Ll b n A2) []) : LGS Z p l e s m args below meth c Q (bC n C) (bS n C) M0 A C 1867 (Ll b n A) [] := by
  have hI := h0.1
  obtain ⟨hcapC, hcapS⟩ := h0.cap (by omega)
  refine s_aload_n (pc := 1867) S 2 dL_law_1867 rfl rfl ?_
  refine law_arg (pc := 1868) (n := n) (j := 1) S hX 1 0 (by omega) hN (by decide) rfl rfl dL_law_1868 dL_law_1869 dL_law_1871 dL_law_1872 dL_law_1873 ?_
  refine s_aload_n (pc := 1874) S 4 dL_law_1874 rfl rfl ?_
  refine s_callSX (pc := 1875) S hz hml [.ref (A 0 0), .int (xs (7 * n + 1)), .ref (A 70 0)] (k_L_stapledCopies Z l A C hI (xs (7 * n + 1))  hfl) (vx_cwSW 3 S.2.2.2.2 gL_law_L_stapledCopies rfl rfl rfl (by decide +kernel) ⟨(Nat.le_of_ble_eq_true rfl), (Nat.le_of_ble_eq_true rfl)⟩) rfl rfl (Nat.le_of_ble_eq_true rfl) dL_law_1875 ⟨by omega, by omega⟩ (fun v A1 C1 h => ?_)
  obtain ⟨k, rfl, hW⟩ := h
  obtain ⟨w1, w3, hk3⟩ := w_stapledCopies hW
  have e6 : C1 60 = C 60 := w1 60 (by decide) (by decide)
  have e61 : C1 61 = C 61 := w1 61 (by decide) (by decide)
  have hO1 : OkM C1 := hI.2.1.cg e6 e61
  refine s_istore (pc := 1878) S ((6, .int (nI k)) :: Ll b n A) dL_law_1878 (by decide) rfl ?_
  refine s_loc (L2 := (6, .int (nI k)) :: Ll b n A1) (congrArg (List.cons _) (ll_st w3.1)) ?_
  refine s_aload_n (pc := 1880) S 4 dL_law_1880 rfl rfl ?_
  refine law_arg (pc := 1881) (n := n) (j := 1) S hX 2 1 (by omega) hN (by decide) rfl rfl dL_law_1881 dL_law_1882 dL_law_1884 dL_law_1885 dL_law_1886 ?_
  refine s_callV (pc := 1887) S hz hml [.int (xs (7 * n + 1))] (k_X7_stapledCopies Z l A1 C1 (xs (7 * n + 1))  hO1.1) (cwV 1 S.2.2.2.2 gL_law_X7_stapledCopies rfl rfl rfl (by decide +kernel) ⟨(Nat.le_of_ble_eq_true rfl), (Nat.le_of_ble_eq_true rfl)⟩) (cc_mod (A := A1) (C := C1)) rfl rfl rfl (Nat.le_of_ble_eq_true rfl) dL_law_1887 ⟨by omega, by omega⟩ (fun _ _ _ h => h.elim) (fun v A2 C2 h => ?_)
  have h7 : K7_stapledCopies A1 C1 (xs (7 * n + 1)) v A2 C2 := h
  obtain ⟨hB, b7, rfl, hv⟩ := ag_stapledCopies  hI hW h7
  refine s_istore (pc := 1890) S ((7, .int b7) :: (6, .int (nI k)) :: Ll b n A1) dL_law_1890 (by decide) rfl ?_
  refine s_loc (L2 := (7, .int b7) :: (6, .int (nI k)) :: Ll b n A2) (congrArg (fun q => (7, .int b7) :: (6, .int (nI k)) :: q) ((ll_st w3.1).symm.trans (ll_st hB.2.2.1.1))) ?_
  obtain ⟨hL1, hc1, hs1⟩ := h0.next hB
  exact law_tl (pc := 1892) S hz hml hB.1 hk3 hv ⟨by omega, by omega⟩ _ dL_law_1892 dL_law_1893 dL_law_1896 dL_law_1898 dL_law_1903 dL_law_1905 dL_law_1908 dL_law_1909 dL_law_1910 dL_law_1911 dL_law_1913 dL_law_1914 dL_law_1915 dL_law_1920 (by decide) (s_widen (by omega) (by omega) (kk A2 C2 hL1))
set_option maxHeartbeats 4000000 in
set_option maxRecDepth 100000 in
theorem lc_reasonFor {Z : Zp} {p : Program} {l : Launch} {e : Env} {s : State} {m : MethodId} {args : Array Value} {below : List Frame} {meth : Method} {c : Code} {Q : State → Prop} {M0 : Wd} {A : AF} {C : CF} {b N n : Nat} {xs : Nat → Int32} (S : CallFix p m c cL_law 9 s args wsL_law RL) (hz : Stat Z s) (hml : c.maxLocals = 9) (hfl : l.stackTraces = false) (hX : Scr b N xs Z s) (hN : N ≤ 3584) (hn : 7 * n + 7 ≤ N) (h0 : LI Z n A C) (kk : ∀ (A2 : AF) (C2 : CF), LI Z (n + 1) A2 C2 → LGS Z p l e s m args below meth c Q (bC (n + 1) C2) (bS (n + 1) C2) M0 A2 C2 3146 (Ll b n A2) []) : LGS Z p l e s m args below meth c Q (bC n C) (bS n C) M0 A C 1923 (Ll b n A) [] := by
  have hI := h0.1
  obtain ⟨hcapC, hcapS⟩ := h0.cap (by omega)
  refine s_aload_n (pc := 1923) S 2 dL_law_1923 rfl rfl ?_
  refine law_arg (pc := 1924) (n := n) (j := 1) S hX 1 0 (by omega) hN (by decide) rfl rfl dL_law_1924 dL_law_1925 dL_law_1927 dL_law_1928 dL_law_1929 ?_
  refine law_arg (pc := 1930) (n := n) (j := 2) S hX 1 0 (by omega) hN (by decide) rfl rfl dL_law_1930 dL_law_1931 dL_law_1933 dL_law_1934 dL_law_1935 ?_
  refine s_aload_n (pc := 1936) S 4 dL_law_1936 rfl rfl ?_
  refine s_callSX (pc := 1937) S hz hml [.ref (A 0 0), .int (xs (7 * n + 1)), .int (xs (7 * n + 2)), .ref (A 70 0)] (k_L_reasonFor Z l A C hI (xs (7 * n + 1)) (xs (7 * n + 2))  hfl) (vx_cwSW 4 S.2.2.2.2 gL_law_L_reasonFor rfl rfl rfl (by decide +kernel) ⟨(Nat.le_of_ble_eq_true rfl), (Nat.le_of_ble_eq_true rfl)⟩) rfl rfl (Nat.le_of_ble_eq_true rfl) dL_law_1937 ⟨by omega, by omega⟩ (fun v A1 C1 h => ?_)
  obtain ⟨k, rfl, hW⟩ := h
  obtain ⟨w1, w3, hk3⟩ := w_reasonFor hW
  have e6 : C1 60 = C 60 := w1 60 (by decide) (by decide)
  have e61 : C1 61 = C 61 := w1 61 (by decide) (by decide)
  have hO1 : OkM C1 := hI.2.1.cg e6 e61
  refine s_istore (pc := 1940) S ((6, .int (nI k)) :: Ll b n A) dL_law_1940 (by decide) rfl ?_
  refine s_loc (L2 := (6, .int (nI k)) :: Ll b n A1) (congrArg (List.cons _) (ll_st w3.1)) ?_
  refine s_aload_n (pc := 1942) S 4 dL_law_1942 rfl rfl ?_
  refine law_arg (pc := 1943) (n := n) (j := 1) S hX 2 1 (by omega) hN (by decide) rfl rfl dL_law_1943 dL_law_1944 dL_law_1946 dL_law_1947 dL_law_1948 ?_
  refine law_arg (pc := 1949) (n := n) (j := 2) S hX 2 1 (by omega) hN (by decide) rfl rfl dL_law_1949 dL_law_1950 dL_law_1952 dL_law_1953 dL_law_1954 ?_
  refine s_callV (pc := 1955) S hz hml [.int (xs (7 * n + 1)), .int (xs (7 * n + 2))] (k_X7_reasonFor Z l A1 C1 (xs (7 * n + 1)) (xs (7 * n + 2))  hO1.1) (cwV 2 S.2.2.2.2 gL_law_X7_reasonFor rfl rfl rfl (by decide +kernel) ⟨(Nat.le_of_ble_eq_true rfl), (Nat.le_of_ble_eq_true rfl)⟩) (cc_mod (A := A1) (C := C1)) rfl rfl rfl (Nat.le_of_ble_eq_true rfl) dL_law_1955 ⟨by omega, by omega⟩ (fun _ _ _ h => h.elim) (fun v A2 C2 h => ?_)
  have h7 : K7_reasonFor A1 C1 (xs (7 * n + 1)) (xs (7 * n + 2)) v A2 C2 := h
  obtain ⟨hB, b7, rfl, hv⟩ := ag_reasonFor  hI hW h7
  refine s_istore (pc := 1958) S ((7, .int b7) :: (6, .int (nI k)) :: Ll b n A1) dL_law_1958 (by decide) rfl ?_
  refine s_loc (L2 := (7, .int b7) :: (6, .int (nI k)) :: Ll b n A2) (congrArg (fun q => (7, .int b7) :: (6, .int (nI k)) :: q) ((ll_st w3.1).symm.trans (ll_st hB.2.2.1.1))) ?_
  obtain ⟨hL1, hc1, hs1⟩ := h0.next hB
  exact law_tl (pc := 1960) S hz hml hB.1 hk3 hv ⟨by omega, by omega⟩ _ dL_law_1960 dL_law_1961 dL_law_1964 dL_law_1966 dL_law_1971 dL_law_1973 dL_law_1976 dL_law_1977 dL_law_1978 dL_law_1979 dL_law_1981 dL_law_1982 dL_law_1983 dL_law_1988 (by decide) (s_widen (by omega) (by omega) (kk A2 C2 hL1))
set_option maxHeartbeats 4000000 in
set_option maxRecDepth 100000 in
theorem lc_wouldPrint {Z : Zp} {p : Program} {l : Launch} {e : Env} {s : State} {m : MethodId} {args : Array Value} {below : List Frame} {meth : Method} {c : Code} {Q : State → Prop} {M0 : Wd} {A : AF} {C : CF} {b N n : Nat} {xs : Nat → Int32} (S : CallFix p m c cL_law 9 s args wsL_law RL) (hz : Stat Z s) (hml : c.maxLocals = 9) (hfl : l.stackTraces = false) (hX : Scr b N xs Z s) (hN : N ≤ 3584) (hn : 7 * n + 7 ≤ N) (h0 : LI Z n A C) (kk : ∀ (A2 : AF) (C2 : CF), LI Z (n + 1) A2 C2 → LGS Z p l e s m args below meth c Q (bC (n + 1) C2) (bS (n + 1) C2) M0 A2 C2 3146 (Ll b n A2) []) : LGS Z p l e s m args below meth c Q (bC n C) (bS n C) M0 A C 1991 (Ll b n A) [] := by
  have hI := h0.1
  obtain ⟨hcapC, hcapS⟩ := h0.cap (by omega)
  refine s_aload_n (pc := 1991) S 2 dL_law_1991 rfl rfl ?_
  refine law_arg (pc := 1992) (n := n) (j := 1) S hX 1 0 (by omega) hN (by decide) rfl rfl dL_law_1992 dL_law_1993 dL_law_1995 dL_law_1996 dL_law_1997 ?_
  refine law_arg (pc := 1998) (n := n) (j := 2) S hX 1 0 (by omega) hN (by decide) rfl rfl dL_law_1998 dL_law_1999 dL_law_2001 dL_law_2002 dL_law_2003 ?_
  refine s_aload_n (pc := 2004) S 4 dL_law_2004 rfl rfl ?_
  refine s_callSX (pc := 2005) S hz hml [.ref (A 0 0), .int (xs (7 * n + 1)), .int (xs (7 * n + 2)), .ref (A 70 0)] (k_L_wouldPrint Z l A C hI (xs (7 * n + 1)) (xs (7 * n + 2))  hfl) (vx_cwSW 4 S.2.2.2.2 gL_law_L_wouldPrint rfl rfl rfl (by decide +kernel) ⟨(Nat.le_of_ble_eq_true rfl), (Nat.le_of_ble_eq_true rfl)⟩) rfl rfl (Nat.le_of_ble_eq_true rfl) dL_law_2005 ⟨by omega, by omega⟩ (fun v A1 C1 h => ?_)
  obtain ⟨k, rfl, hW⟩ := h
  obtain ⟨w1, w3, hk3⟩ := w_wouldPrint hW
  have e6 : C1 60 = C 60 := w1 60 (by decide) (by decide)
  have e61 : C1 61 = C 61 := w1 61 (by decide) (by decide)
  have hO1 : OkM C1 := hI.2.1.cg e6 e61
  refine s_istore (pc := 2008) S ((6, .int (nI k)) :: Ll b n A) dL_law_2008 (by decide) rfl ?_
  refine s_loc (L2 := (6, .int (nI k)) :: Ll b n A1) (congrArg (List.cons _) (ll_st w3.1)) ?_
  refine s_aload_n (pc := 2010) S 4 dL_law_2010 rfl rfl ?_
  refine law_arg (pc := 2011) (n := n) (j := 1) S hX 2 1 (by omega) hN (by decide) rfl rfl dL_law_2011 dL_law_2012 dL_law_2014 dL_law_2015 dL_law_2016 ?_
  refine law_arg (pc := 2017) (n := n) (j := 2) S hX 2 1 (by omega) hN (by decide) rfl rfl dL_law_2017 dL_law_2018 dL_law_2020 dL_law_2021 dL_law_2022 ?_
  refine s_callV (pc := 2023) S hz hml [.int (xs (7 * n + 1)), .int (xs (7 * n + 2))] (k_X7_wouldPrint Z l A1 C1 (xs (7 * n + 1)) (xs (7 * n + 2))  hO1.1) (cwV 2 S.2.2.2.2 gL_law_X7_wouldPrint rfl rfl rfl (by decide +kernel) ⟨(Nat.le_of_ble_eq_true rfl), (Nat.le_of_ble_eq_true rfl)⟩) (cc_mod (A := A1) (C := C1)) rfl rfl rfl (Nat.le_of_ble_eq_true rfl) dL_law_2023 ⟨by omega, by omega⟩ (fun _ _ _ h => h.elim) (fun v A2 C2 h => ?_)
  have h7 : K7_wouldPrint A1 C1 (xs (7 * n + 1)) (xs (7 * n + 2)) v A2 C2 := h
  obtain ⟨hB, b7, rfl, hv⟩ := ag_wouldPrint  hI hW h7
  refine s_istore (pc := 2026) S ((7, .int b7) :: (6, .int (nI k)) :: Ll b n A1) dL_law_2026 (by decide) rfl ?_
  refine s_loc (L2 := (7, .int b7) :: (6, .int (nI k)) :: Ll b n A2) (congrArg (fun q => (7, .int b7) :: (6, .int (nI k)) :: q) ((ll_st w3.1).symm.trans (ll_st hB.2.2.1.1))) ?_
  obtain ⟨hL1, hc1, hs1⟩ := h0.next hB
  exact law_tl (pc := 2028) S hz hml hB.1 hk3 hv ⟨by omega, by omega⟩ _ dL_law_2028 dL_law_2029 dL_law_2032 dL_law_2034 dL_law_2039 dL_law_2041 dL_law_2044 dL_law_2045 dL_law_2046 dL_law_2047 dL_law_2049 dL_law_2050 dL_law_2051 dL_law_2056 (by decide) (s_widen (by omega) (by omega) (kk A2 C2 hL1))
set_option maxHeartbeats 4000000 in
set_option maxRecDepth 100000 in
theorem lc_release {Z : Zp} {p : Program} {l : Launch} {e : Env} {s : State} {m : MethodId} {args : Array Value} {below : List Frame} {meth : Method} {c : Code} {Q : State → Prop} {M0 : Wd} {A : AF} {C : CF} {b N n : Nat} {xs : Nat → Int32} (S : CallFix p m c cL_law 9 s args wsL_law RL) (hz : Stat Z s) (hml : c.maxLocals = 9) (hfl : l.stackTraces = false) (hX : Scr b N xs Z s) (hN : N ≤ 3584) (hn : 7 * n + 7 ≤ N) (h0 : LI Z n A C) (kk : ∀ (A2 : AF) (C2 : CF), LI Z (n + 1) A2 C2 → LGS Z p l e s m args below meth c Q (bC (n + 1) C2) (bS (n + 1) C2) M0 A2 C2 3146 (Ll b n A2) []) : LGS Z p l e s m args below meth c Q (bC n C) (bS n C) M0 A C 2059 (Ll b n A) [] := by
  have hI := h0.1
  obtain ⟨hcapC, hcapS⟩ := h0.cap (by omega)
  have h31 := h0.2.2
  have hsl : C 4 0 2 = C 60 100 31 := hI.1.2.2.2.2.2.1.1
  have hcf := lS_pot (C 60 100 31)
  have hcg := (capF_ok (C 60 100 31 + 1)).2.1
  have h61 := hI.2.1.2.1.2.1
  obtain ⟨mc, ms, mc7, ms7, r1, r2, r3, r4⟩ := rl_room hI (xs (7 * n + 1)) (xs (7 * n + 2))
  have hb4 : mc ≤ 4 ∧ ms ≤ 200000 ∧ mc7 ≤ 4 ∧ ms7 ≤ 800000 := rl_room_b h31 (by omega) h61 hcf hcg r4
  refine s_aload_n (pc := 2059) S 2 dL_law_2059 rfl rfl ?_
  refine law_arg (pc := 2060) (n := n) (j := 1) S hX 1 0 (by omega) hN (by decide) rfl rfl dL_law_2060 dL_law_2061 dL_law_2063 dL_law_2064 dL_law_2065 ?_
  refine law_arg (pc := 2066) (n := n) (j := 2) S hX 1 0 (by omega) hN (by decide) rfl rfl dL_law_2066 dL_law_2067 dL_law_2069 dL_law_2070 dL_law_2071 ?_
  refine s_aload_n (pc := 2072) S 4 dL_law_2072 rfl rfl ?_
  refine s_callSX (pc := 2073) S hz hml [.ref (A 0 0), .int (xs (7 * n + 1)), .int (xs (7 * n + 2)), .ref (A 70 0)] (k_L_release Z l A C hI (xs (7 * n + 1)) (xs (7 * n + 2))  h0.2.1 (by omega) mc ms r1 r2 hfl) (vx_cwSW 4 S.2.2.2.2 gL_law_L_release rfl rfl rfl (by decide +kernel) ⟨(Nat.le_of_ble_eq_true rfl), (Nat.le_of_ble_eq_true rfl)⟩) rfl rfl (Nat.le_of_ble_eq_true rfl) dL_law_2073 ⟨by omega, by omega⟩ (fun v A1 C1 h => ?_)
  obtain ⟨k, rfl, hW⟩ := h
  obtain ⟨w1, w3, hk3⟩ := w_release hW
  have e6 : C1 60 = C 60 := w1 60 (by decide) (by decide)
  have e61 : C1 61 = C 61 := w1 61 (by decide) (by decide)
  have hO1 : OkM C1 := hI.2.1.cg e6 e61
  refine s_istore (pc := 2076) S ((6, .int (nI k)) :: Ll b n A) dL_law_2076 (by decide) rfl ?_
  refine s_loc (L2 := (6, .int (nI k)) :: Ll b n A1) (congrArg (List.cons _) (ll_st w3)) ?_
  refine s_aload_n (pc := 2078) S 4 dL_law_2078 rfl rfl ?_
  refine law_arg (pc := 2079) (n := n) (j := 1) S hX 2 1 (by omega) hN (by decide) rfl rfl dL_law_2079 dL_law_2080 dL_law_2082 dL_law_2083 dL_law_2084 ?_
  refine law_arg (pc := 2085) (n := n) (j := 2) S hX 2 1 (by omega) hN (by decide) rfl rfl dL_law_2085 dL_law_2086 dL_law_2088 dL_law_2089 dL_law_2090 ?_
  refine s_callV (pc := 2091) S hz hml [.int (xs (7 * n + 1)), .int (xs (7 * n + 2))] (k_X7_release Z l A1 C1 (xs (7 * n + 1)) (xs (7 * n + 2))  hO1.1 mc7 ms7 hO1.2.1 (fun k p a b c d => by rw [rC_q e6 e61, rS_q e6 e61]; rw [e6] at c d; exact r3 k p a b c d)) (cwV 2 S.2.2.2.2 gL_law_X7_release rfl rfl rfl (by decide +kernel) ⟨(Nat.le_of_ble_eq_true rfl), (Nat.le_of_ble_eq_true rfl)⟩) (cc_mod (A := A1) (C := C1)) rfl rfl rfl (Nat.le_of_ble_eq_true rfl) dL_law_2091 ⟨by omega, by omega⟩ (fun _ _ _ h => h.elim) (fun v A2 C2 h => ?_)
  have h7 : K7_release A1 C1 (xs (7 * n + 1)) (xs (7 * n + 2)) v A2 C2 := h
  obtain ⟨hB, b7, rfl, hv⟩ := ag_release (Z := Z) hI h0.2.1 (by omega) hW h7
  refine s_istore (pc := 2094) S ((7, .int b7) :: (6, .int (nI k)) :: Ll b n A1) dL_law_2094 (by decide) rfl ?_
  refine s_loc (L2 := (7, .int b7) :: (6, .int (nI k)) :: Ll b n A2) (congrArg (fun q => (7, .int b7) :: (6, .int (nI k)) :: q) ((ll_st w3).symm.trans (ll_st hB.2.2.1))) ?_
  obtain ⟨hL1, hc1, hs1⟩ := rl_next h0 hcf r4 hB
  exact law_tl (pc := 2096) S hz hml hB.1 hk3 hv ⟨by omega, by omega⟩ _ dL_law_2096 dL_law_2097 dL_law_2100 dL_law_2102 dL_law_2107 dL_law_2109 dL_law_2112 dL_law_2113 dL_law_2114 dL_law_2115 dL_law_2117 dL_law_2118 dL_law_2119 dL_law_2124 (by decide) (s_widen (by omega) (by omega) (kk A2 C2 hL1))
set_option maxHeartbeats 4000000 in
set_option maxRecDepth 100000 in
theorem lc_releaseAll {Z : Zp} {p : Program} {l : Launch} {e : Env} {s : State} {m : MethodId} {args : Array Value} {below : List Frame} {meth : Method} {c : Code} {Q : State → Prop} {M0 : Wd} {A : AF} {C : CF} {b N n : Nat} {xs : Nat → Int32} (S : CallFix p m c cL_law 9 s args wsL_law RL) (hz : Stat Z s) (hml : c.maxLocals = 9) (hfl : l.stackTraces = false) (hX : Scr b N xs Z s) (hN : N ≤ 3584) (hn : 7 * n + 7 ≤ N) (h0 : LI Z n A C) (kk : ∀ (A2 : AF) (C2 : CF), LI Z (n + 1) A2 C2 → LGS Z p l e s m args below meth c Q (bC (n + 1) C2) (bS (n + 1) C2) M0 A2 C2 3146 (Ll b n A2) []) : LGS Z p l e s m args below meth c Q (bC n C) (bS n C) M0 A C 2127 (Ll b n A) [] := by
  have hI := h0.1
  obtain ⟨hcapC, hcapS⟩ := h0.cap (by omega)
  have h31 := h0.2.2
  have h61 := hI.2.1.2.1.2.1
  obtain ⟨mc, ms, r1, r2, r4⟩ := ra_room hI (by omega) (xs (7 * n + 1)) (xs (7 * n + 2))
  have hb0 : mc ≤ 100 ∧ ms ≤ 400000 := ra_room_b0 hI h31 (by omega) r4
  refine s_aload_n (pc := 2127) S 2 dL_law_2127 rfl rfl ?_
  refine law_arg (pc := 2128) (n := n) (j := 1) S hX 1 0 (by omega) hN (by decide) rfl rfl dL_law_2128 dL_law_2129 dL_law_2131 dL_law_2132 dL_law_2133 ?_
  refine law_arg (pc := 2134) (n := n) (j := 2) S hX 1 0 (by omega) hN (by decide) rfl rfl dL_law_2134 dL_law_2135 dL_law_2137 dL_law_2138 dL_law_2139 ?_
  refine s_aload_n (pc := 2140) S 4 dL_law_2140 rfl rfl ?_
  refine s_callSX (pc := 2141) S hz hml [.ref (A 0 0), .int (xs (7 * n + 1)), .int (xs (7 * n + 2)), .ref (A 70 0)] (k_L_releaseAll Z l A C hI (xs (7 * n + 1)) (xs (7 * n + 2))  h0.2.1 (by show C 60 100 31 + 40 ≤ 40000; omega) mc ms r1 r2 hfl) (vx_cwSW 4 S.2.2.2.2 gL_law_L_releaseAll rfl rfl rfl (by decide +kernel) ⟨(Nat.le_of_ble_eq_true rfl), (Nat.le_of_ble_eq_true rfl)⟩) rfl rfl (Nat.le_of_ble_eq_true rfl) dL_law_2141 ⟨by omega, by omega⟩ (fun v A1 C1 h => ?_)
  obtain ⟨k, rfl, hW⟩ := h
  obtain ⟨w1, w3, hk3⟩ := w_releaseAll hW
  have e6 : C1 60 = C 60 := w1 60 (by decide) (by decide)
  have e61 : C1 61 = C 61 := w1 61 (by decide) (by decide)
  have hO1 : OkM C1 := hI.2.1.cg e6 e61
  refine s_istore (pc := 2144) S ((6, .int (nI k)) :: Ll b n A) dL_law_2144 (by decide) rfl ?_
  refine s_loc (L2 := (6, .int (nI k)) :: Ll b n A1) (congrArg (List.cons _) (ll_st w3)) ?_
  refine s_aload_n (pc := 2146) S 4 dL_law_2146 rfl rfl ?_
  refine law_arg (pc := 2147) (n := n) (j := 1) S hX 2 1 (by omega) hN (by decide) rfl rfl dL_law_2147 dL_law_2148 dL_law_2150 dL_law_2151 dL_law_2152 ?_
  refine law_arg (pc := 2153) (n := n) (j := 2) S hX 2 1 (by omega) hN (by decide) rfl rfl dL_law_2153 dL_law_2154 dL_law_2156 dL_law_2157 dL_law_2158 ?_
  obtain ⟨mc7, ms7, r5, r6⟩ := ra_room7 (C1 := C1) hI e6 e61 (by omega) (xs (7 * n + 1)) (xs (7 * n + 2))
  have hb4 : mc ≤ 100 ∧ ms ≤ 400000 ∧ mc7 ≤ 200 ∧ ms7 ≤ 800000 := ra_room_b hI h31 (by omega) r4 r6
  refine s_callV (pc := 2159) S hz hml [.int (xs (7 * n + 1)), .int (xs (7 * n + 2))] (k_X7_releaseAll Z l A1 C1 (xs (7 * n + 1)) (xs (7 * n + 2))  hO1.1 mc7 ms7 hO1.2.1 hO1.2.2 (by rw [e6]; omega) r5) (cwV 2 S.2.2.2.2 gL_law_X7_releaseAll rfl rfl rfl (by decide +kernel) ⟨(Nat.le_of_ble_eq_true rfl), (Nat.le_of_ble_eq_true rfl)⟩) (cc_mod (A := A1) (C := C1)) rfl rfl rfl (Nat.le_of_ble_eq_true rfl) dL_law_2159 ⟨by omega, by omega⟩ (fun _ _ _ h => h.elim) (fun v A2 C2 h => ?_)
  have h7 : K7_releaseAll A1 C1 Z (xs (7 * n + 1)) (xs (7 * n + 2)) v A2 C2 := h
  obtain ⟨hB, b7, rfl, hv⟩ := ag_releaseAll (Z := Z) hI h0.2.1 (by omega) hW h7
  refine s_istore (pc := 2162) S ((7, .int b7) :: (6, .int (nI k)) :: Ll b n A1) dL_law_2162 (by decide) rfl ?_
  refine s_loc (L2 := (7, .int b7) :: (6, .int (nI k)) :: Ll b n A2) (congrArg (fun q => (7, .int b7) :: (6, .int (nI k)) :: q) ((ll_st w3).symm.trans (ll_st hB.2.2.1))) ?_
  obtain ⟨hL1, hc1, hs1⟩ := ra_next h0 (by omega) r4 r6 hB
  exact law_tl (pc := 2164) S hz hml hB.1 hk3 hv ⟨by omega, by omega⟩ _ dL_law_2164 dL_law_2165 dL_law_2168 dL_law_2170 dL_law_2175 dL_law_2177 dL_law_2180 dL_law_2181 dL_law_2182 dL_law_2183 dL_law_2185 dL_law_2186 dL_law_2187 dL_law_2192 (by decide) (s_widen (by omega) (by omega) (kk A2 C2 hL1))
set_option maxHeartbeats 4000000 in
set_option maxRecDepth 100000 in
theorem lc_stopOf {Z : Zp} {p : Program} {l : Launch} {e : Env} {s : State} {m : MethodId} {args : Array Value} {below : List Frame} {meth : Method} {c : Code} {Q : State → Prop} {M0 : Wd} {A : AF} {C : CF} {b N n : Nat} {xs : Nat → Int32} (S : CallFix p m c cL_law 9 s args wsL_law RL) (hz : Stat Z s) (hml : c.maxLocals = 9) (hfl : l.stackTraces = false) (hX : Scr b N xs Z s) (hN : N ≤ 3584) (hn : 7 * n + 7 ≤ N) (h0 : LI Z n A C) (kk : ∀ (A2 : AF) (C2 : CF), LI Z (n + 1) A2 C2 → LGS Z p l e s m args below meth c Q (bC (n + 1) C2) (bS (n + 1) C2) M0 A2 C2 3146 (Ll b n A2) []) : LGS Z p l e s m args below meth c Q (bC n C) (bS n C) M0 A C 2195 (Ll b n A) [] := by
  have hI := h0.1
  obtain ⟨hcapC, hcapS⟩ := h0.cap (by omega)
  refine s_aload_n (pc := 2195) S 2 dL_law_2195 rfl rfl ?_
  refine law_arg (pc := 2196) (n := n) (j := 1) S hX 1 0 (by omega) hN (by decide) rfl rfl dL_law_2196 dL_law_2197 dL_law_2199 dL_law_2200 dL_law_2201 ?_
  refine s_aload_n (pc := 2202) S 4 dL_law_2202 rfl rfl ?_
  refine s_callSX (pc := 2203) S hz hml [.ref (A 0 0), .int (xs (7 * n + 1)), .ref (A 70 0)] (k_L_stopOf Z l A C hI (xs (7 * n + 1))  hfl) (vx_cwSW 3 S.2.2.2.2 gL_law_L_stopOf rfl rfl rfl (by decide +kernel) ⟨(Nat.le_of_ble_eq_true rfl), (Nat.le_of_ble_eq_true rfl)⟩) rfl rfl (Nat.le_of_ble_eq_true rfl) dL_law_2203 ⟨by omega, by omega⟩ (fun v A1 C1 h => ?_)
  obtain ⟨k, rfl, hW⟩ := h
  obtain ⟨w1, w3, hk3⟩ := w_stopOf hW
  have e6 : C1 60 = C 60 := w1 60 (by decide) (by decide)
  have e61 : C1 61 = C 61 := w1 61 (by decide) (by decide)
  have hO1 : OkM C1 := hI.2.1.cg e6 e61
  refine s_istore (pc := 2206) S ((6, .int (nI k)) :: Ll b n A) dL_law_2206 (by decide) rfl ?_
  refine s_loc (L2 := (6, .int (nI k)) :: Ll b n A1) (congrArg (List.cons _) (ll_st w3.1)) ?_
  refine s_aload_n (pc := 2208) S 4 dL_law_2208 rfl rfl ?_
  refine law_arg (pc := 2209) (n := n) (j := 1) S hX 2 1 (by omega) hN (by decide) rfl rfl dL_law_2209 dL_law_2210 dL_law_2212 dL_law_2213 dL_law_2214 ?_
  refine s_callV (pc := 2215) S hz hml [.int (xs (7 * n + 1))] (k_X7_stopOf Z l A1 C1 (xs (7 * n + 1))  hO1.1) (cwV 1 S.2.2.2.2 gL_law_X7_stopOf rfl rfl rfl (by decide +kernel) ⟨(Nat.le_of_ble_eq_true rfl), (Nat.le_of_ble_eq_true rfl)⟩) (cc_mod (A := A1) (C := C1)) rfl rfl rfl (Nat.le_of_ble_eq_true rfl) dL_law_2215 ⟨by omega, by omega⟩ (fun _ _ _ h => h.elim) (fun v A2 C2 h => ?_)
  have h7 : K7_stopOf A1 C1 (xs (7 * n + 1)) v A2 C2 := h
  obtain ⟨hB, b7, rfl, hv⟩ := ag_stopOf  hI hW h7
  refine s_istore (pc := 2218) S ((7, .int b7) :: (6, .int (nI k)) :: Ll b n A1) dL_law_2218 (by decide) rfl ?_
  refine s_loc (L2 := (7, .int b7) :: (6, .int (nI k)) :: Ll b n A2) (congrArg (fun q => (7, .int b7) :: (6, .int (nI k)) :: q) ((ll_st w3.1).symm.trans (ll_st hB.2.2.1.1))) ?_
  obtain ⟨hL1, hc1, hs1⟩ := h0.next hB
  exact law_tl (pc := 2220) S hz hml hB.1 hk3 hv ⟨by omega, by omega⟩ _ dL_law_2220 dL_law_2221 dL_law_2224 dL_law_2226 dL_law_2231 dL_law_2233 dL_law_2236 dL_law_2237 dL_law_2238 dL_law_2239 dL_law_2241 dL_law_2242 dL_law_2243 dL_law_2248 (by decide) (s_widen (by omega) (by omega) (kk A2 C2 hL1))
set_option maxHeartbeats 4000000 in
set_option maxRecDepth 100000 in
theorem lc_bestPrinter {Z : Zp} {p : Program} {l : Launch} {e : Env} {s : State} {m : MethodId} {args : Array Value} {below : List Frame} {meth : Method} {c : Code} {Q : State → Prop} {M0 : Wd} {A : AF} {C : CF} {b N n : Nat} {xs : Nat → Int32} (S : CallFix p m c cL_law 9 s args wsL_law RL) (hz : Stat Z s) (hml : c.maxLocals = 9) (hfl : l.stackTraces = false) (hX : Scr b N xs Z s) (hN : N ≤ 3584) (hn : 7 * n + 7 ≤ N) (h0 : LI Z n A C) (kk : ∀ (A2 : AF) (C2 : CF), LI Z (n + 1) A2 C2 → LGS Z p l e s m args below meth c Q (bC (n + 1) C2) (bS (n + 1) C2) M0 A2 C2 3146 (Ll b n A2) []) : LGS Z p l e s m args below meth c Q (bC n C) (bS n C) M0 A C 2251 (Ll b n A) [] := by
  have hI := h0.1
  obtain ⟨hcapC, hcapS⟩ := h0.cap (by omega)
  refine s_aload_n (pc := 2251) S 2 dL_law_2251 rfl rfl ?_
  refine law_arg (pc := 2252) (n := n) (j := 1) S hX 1 0 (by omega) hN (by decide) rfl rfl dL_law_2252 dL_law_2253 dL_law_2255 dL_law_2256 dL_law_2257 ?_
  refine s_aload_n (pc := 2258) S 4 dL_law_2258 rfl rfl ?_
  refine s_callSX (pc := 2259) S hz hml [.ref (A 0 0), .int (xs (7 * n + 1)), .ref (A 70 0)] (k_L_bestPrinter Z l A C hI (xs (7 * n + 1))  hfl) (vx_cwSW 3 S.2.2.2.2 gL_law_L_bestPrinter rfl rfl rfl (by decide +kernel) ⟨(Nat.le_of_ble_eq_true rfl), (Nat.le_of_ble_eq_true rfl)⟩) rfl rfl (Nat.le_of_ble_eq_true rfl) dL_law_2259 ⟨by omega, by omega⟩ (fun v A1 C1 h => ?_)
  obtain ⟨k, rfl, hW⟩ := h
  obtain ⟨w1, w3, hk3⟩ := w_bestPrinter hW
  have e6 : C1 60 = C 60 := w1 60 (by decide) (by decide)
  have e61 : C1 61 = C 61 := w1 61 (by decide) (by decide)
  have hO1 : OkM C1 := hI.2.1.cg e6 e61
  refine s_istore (pc := 2262) S ((6, .int (nI k)) :: Ll b n A) dL_law_2262 (by decide) rfl ?_
  refine s_loc (L2 := (6, .int (nI k)) :: Ll b n A1) (congrArg (List.cons _) (ll_st w3.1)) ?_
  refine s_aload_n (pc := 2264) S 4 dL_law_2264 rfl rfl ?_
  refine law_arg (pc := 2265) (n := n) (j := 1) S hX 2 1 (by omega) hN (by decide) rfl rfl dL_law_2265 dL_law_2266 dL_law_2268 dL_law_2269 dL_law_2270 ?_
  refine s_callV (pc := 2271) S hz hml [.int (xs (7 * n + 1))] (k_X7_bestPrinter Z l A1 C1 (xs (7 * n + 1))  hO1.1) (cwV 1 S.2.2.2.2 gL_law_X7_bestPrinter rfl rfl rfl (by decide +kernel) ⟨(Nat.le_of_ble_eq_true rfl), (Nat.le_of_ble_eq_true rfl)⟩) (cc_mod (A := A1) (C := C1)) rfl rfl rfl (Nat.le_of_ble_eq_true rfl) dL_law_2271 ⟨by omega, by omega⟩ (fun _ _ _ h => h.elim) (fun v A2 C2 h => ?_)
  have h7 : K7_bestPrinter A1 C1 (xs (7 * n + 1)) v A2 C2 := h
  obtain ⟨hB, b7, rfl, hv⟩ := ag_bestPrinter  hI hW h7
  refine s_istore (pc := 2274) S ((7, .int b7) :: (6, .int (nI k)) :: Ll b n A1) dL_law_2274 (by decide) rfl ?_
  refine s_loc (L2 := (7, .int b7) :: (6, .int (nI k)) :: Ll b n A2) (congrArg (fun q => (7, .int b7) :: (6, .int (nI k)) :: q) ((ll_st w3.1).symm.trans (ll_st hB.2.2.1.1))) ?_
  obtain ⟨hL1, hc1, hs1⟩ := h0.next hB
  exact law_tl (pc := 2276) S hz hml hB.1 hk3 hv ⟨by omega, by omega⟩ _ dL_law_2276 dL_law_2277 dL_law_2280 dL_law_2282 dL_law_2287 dL_law_2289 dL_law_2292 dL_law_2293 dL_law_2294 dL_law_2295 dL_law_2297 dL_law_2298 dL_law_2299 dL_law_2304 (by decide) (s_widen (by omega) (by omega) (kk A2 C2 hL1))
set_option maxHeartbeats 4000000 in
set_option maxRecDepth 100000 in
theorem lc_queueLength {Z : Zp} {p : Program} {l : Launch} {e : Env} {s : State} {m : MethodId} {args : Array Value} {below : List Frame} {meth : Method} {c : Code} {Q : State → Prop} {M0 : Wd} {A : AF} {C : CF} {b N n : Nat} {xs : Nat → Int32} (S : CallFix p m c cL_law 9 s args wsL_law RL) (hz : Stat Z s) (hml : c.maxLocals = 9) (hfl : l.stackTraces = false) (hX : Scr b N xs Z s) (hN : N ≤ 3584) (hn : 7 * n + 7 ≤ N) (h0 : LI Z n A C) (kk : ∀ (A2 : AF) (C2 : CF), LI Z (n + 1) A2 C2 → LGS Z p l e s m args below meth c Q (bC (n + 1) C2) (bS (n + 1) C2) M0 A2 C2 3146 (Ll b n A2) []) : LGS Z p l e s m args below meth c Q (bC n C) (bS n C) M0 A C 2307 (Ll b n A) [] := by
  have hI := h0.1
  obtain ⟨hcapC, hcapS⟩ := h0.cap (by omega)
  refine s_aload_n (pc := 2307) S 2 dL_law_2307 rfl rfl ?_
  refine law_arg (pc := 2308) (n := n) (j := 1) S hX 1 0 (by omega) hN (by decide) rfl rfl dL_law_2308 dL_law_2309 dL_law_2311 dL_law_2312 dL_law_2313 ?_
  refine s_aload_n (pc := 2314) S 4 dL_law_2314 rfl rfl ?_
  refine s_callSX (pc := 2315) S hz hml [.ref (A 0 0), .int (xs (7 * n + 1)), .ref (A 70 0)] (k_L_queueLength Z l A C hI (xs (7 * n + 1))  hfl) (vx_cwSW 3 S.2.2.2.2 gL_law_L_queueLength rfl rfl rfl (by decide +kernel) ⟨(Nat.le_of_ble_eq_true rfl), (Nat.le_of_ble_eq_true rfl)⟩) rfl rfl (Nat.le_of_ble_eq_true rfl) dL_law_2315 ⟨by omega, by omega⟩ (fun v A1 C1 h => ?_)
  obtain ⟨k, rfl, hW⟩ := h
  obtain ⟨w1, w3, hk3⟩ := w_queueLength hW
  have e6 : C1 60 = C 60 := w1 60 (by decide) (by decide)
  have e61 : C1 61 = C 61 := w1 61 (by decide) (by decide)
  have hO1 : OkM C1 := hI.2.1.cg e6 e61
  refine s_istore (pc := 2318) S ((6, .int (nI k)) :: Ll b n A) dL_law_2318 (by decide) rfl ?_
  refine s_loc (L2 := (6, .int (nI k)) :: Ll b n A1) (congrArg (List.cons _) (ll_st w3.1)) ?_
  refine s_aload_n (pc := 2320) S 4 dL_law_2320 rfl rfl ?_
  refine law_arg (pc := 2321) (n := n) (j := 1) S hX 2 1 (by omega) hN (by decide) rfl rfl dL_law_2321 dL_law_2322 dL_law_2324 dL_law_2325 dL_law_2326 ?_
  refine s_callV (pc := 2327) S hz hml [.int (xs (7 * n + 1))] (k_X7_queueLength Z l A1 C1 (xs (7 * n + 1))  hO1.1) (cwV 1 S.2.2.2.2 gL_law_X7_queueLength rfl rfl rfl (by decide +kernel) ⟨(Nat.le_of_ble_eq_true rfl), (Nat.le_of_ble_eq_true rfl)⟩) (cc_mod (A := A1) (C := C1)) rfl rfl rfl (Nat.le_of_ble_eq_true rfl) dL_law_2327 ⟨by omega, by omega⟩ (fun _ _ _ h => h.elim) (fun v A2 C2 h => ?_)
  have h7 : K7_queueLength A1 C1 (xs (7 * n + 1)) v A2 C2 := h
  obtain ⟨hB, b7, rfl, hv⟩ := ag_queueLength  hI hW h7
  refine s_istore (pc := 2330) S ((7, .int b7) :: (6, .int (nI k)) :: Ll b n A1) dL_law_2330 (by decide) rfl ?_
  refine s_loc (L2 := (7, .int b7) :: (6, .int (nI k)) :: Ll b n A2) (congrArg (fun q => (7, .int b7) :: (6, .int (nI k)) :: q) ((ll_st w3.1).symm.trans (ll_st hB.2.2.1.1))) ?_
  obtain ⟨hL1, hc1, hs1⟩ := h0.next hB
  exact law_tl (pc := 2332) S hz hml hB.1 hk3 hv ⟨by omega, by omega⟩ _ dL_law_2332 dL_law_2333 dL_law_2336 dL_law_2338 dL_law_2343 dL_law_2345 dL_law_2348 dL_law_2349 dL_law_2350 dL_law_2351 dL_law_2353 dL_law_2354 dL_law_2355 dL_law_2360 (by decide) (s_widen (by omega) (by omega) (kk A2 C2 hL1))
set_option maxHeartbeats 4000000 in
set_option maxRecDepth 100000 in
theorem lc_queueAt {Z : Zp} {p : Program} {l : Launch} {e : Env} {s : State} {m : MethodId} {args : Array Value} {below : List Frame} {meth : Method} {c : Code} {Q : State → Prop} {M0 : Wd} {A : AF} {C : CF} {b N n : Nat} {xs : Nat → Int32} (S : CallFix p m c cL_law 9 s args wsL_law RL) (hz : Stat Z s) (hml : c.maxLocals = 9) (hfl : l.stackTraces = false) (hX : Scr b N xs Z s) (hN : N ≤ 3584) (hn : 7 * n + 7 ≤ N) (h0 : LI Z n A C) (kk : ∀ (A2 : AF) (C2 : CF), LI Z (n + 1) A2 C2 → LGS Z p l e s m args below meth c Q (bC (n + 1) C2) (bS (n + 1) C2) M0 A2 C2 3146 (Ll b n A2) []) : LGS Z p l e s m args below meth c Q (bC n C) (bS n C) M0 A C 2363 (Ll b n A) [] := by
  have hI := h0.1
  obtain ⟨hcapC, hcapS⟩ := h0.cap (by omega)
  refine s_aload_n (pc := 2363) S 2 dL_law_2363 rfl rfl ?_
  refine law_arg (pc := 2364) (n := n) (j := 1) S hX 1 0 (by omega) hN (by decide) rfl rfl dL_law_2364 dL_law_2365 dL_law_2367 dL_law_2368 dL_law_2369 ?_
  refine law_arg (pc := 2370) (n := n) (j := 2) S hX 1 0 (by omega) hN (by decide) rfl rfl dL_law_2370 dL_law_2371 dL_law_2373 dL_law_2374 dL_law_2375 ?_
  refine s_aload_n (pc := 2376) S 4 dL_law_2376 rfl rfl ?_
  refine s_callSX (pc := 2377) S hz hml [.ref (A 0 0), .int (xs (7 * n + 1)), .int (xs (7 * n + 2)), .ref (A 70 0)] (k_L_queueAt Z l A C hI (xs (7 * n + 1)) (xs (7 * n + 2))  hfl) (vx_cwSW 4 S.2.2.2.2 gL_law_L_queueAt rfl rfl rfl (by decide +kernel) ⟨(Nat.le_of_ble_eq_true rfl), (Nat.le_of_ble_eq_true rfl)⟩) rfl rfl (Nat.le_of_ble_eq_true rfl) dL_law_2377 ⟨by omega, by omega⟩ (fun v A1 C1 h => ?_)
  obtain ⟨k, rfl, hW⟩ := h
  obtain ⟨w1, w3, hk3⟩ := w_queueAt hW
  have e6 : C1 60 = C 60 := w1 60 (by decide) (by decide)
  have e61 : C1 61 = C 61 := w1 61 (by decide) (by decide)
  have hO1 : OkM C1 := hI.2.1.cg e6 e61
  refine s_istore (pc := 2380) S ((6, .int (nI k)) :: Ll b n A) dL_law_2380 (by decide) rfl ?_
  refine s_loc (L2 := (6, .int (nI k)) :: Ll b n A1) (congrArg (List.cons _) (ll_st w3.1)) ?_
  refine s_aload_n (pc := 2382) S 4 dL_law_2382 rfl rfl ?_
  refine law_arg (pc := 2383) (n := n) (j := 1) S hX 2 1 (by omega) hN (by decide) rfl rfl dL_law_2383 dL_law_2384 dL_law_2386 dL_law_2387 dL_law_2388 ?_
  refine law_arg (pc := 2389) (n := n) (j := 2) S hX 2 1 (by omega) hN (by decide) rfl rfl dL_law_2389 dL_law_2390 dL_law_2392 dL_law_2393 dL_law_2394 ?_
  refine s_callV (pc := 2395) S hz hml [.int (xs (7 * n + 1)), .int (xs (7 * n + 2))] (k_X7_queueAt Z l A1 C1 (xs (7 * n + 1)) (xs (7 * n + 2))  hO1.1) (cwV 2 S.2.2.2.2 gL_law_X7_queueAt rfl rfl rfl (by decide +kernel) ⟨(Nat.le_of_ble_eq_true rfl), (Nat.le_of_ble_eq_true rfl)⟩) (cc_mod (A := A1) (C := C1)) rfl rfl rfl (Nat.le_of_ble_eq_true rfl) dL_law_2395 ⟨by omega, by omega⟩ (fun _ _ _ h => h.elim) (fun v A2 C2 h => ?_)
  have h7 : K7_queueAt A1 C1 (xs (7 * n + 1)) (xs (7 * n + 2)) v A2 C2 := h
  obtain ⟨hB, b7, rfl, hv⟩ := ag_queueAt  hI hW h7
  refine s_istore (pc := 2398) S ((7, .int b7) :: (6, .int (nI k)) :: Ll b n A1) dL_law_2398 (by decide) rfl ?_
  refine s_loc (L2 := (7, .int b7) :: (6, .int (nI k)) :: Ll b n A2) (congrArg (fun q => (7, .int b7) :: (6, .int (nI k)) :: q) ((ll_st w3.1).symm.trans (ll_st hB.2.2.1.1))) ?_
  obtain ⟨hL1, hc1, hs1⟩ := h0.next hB
  exact law_tl (pc := 2400) S hz hml hB.1 hk3 hv ⟨by omega, by omega⟩ _ dL_law_2400 dL_law_2401 dL_law_2404 dL_law_2406 dL_law_2411 dL_law_2413 dL_law_2416 dL_law_2417 dL_law_2418 dL_law_2419 dL_law_2421 dL_law_2422 dL_law_2423 dL_law_2428 (by decide) (s_widen (by omega) (by omega) (kk A2 C2 hL1))
set_option maxHeartbeats 4000000 in
set_option maxRecDepth 100000 in
theorem lc_logSize {Z : Zp} {p : Program} {l : Launch} {e : Env} {s : State} {m : MethodId} {args : Array Value} {below : List Frame} {meth : Method} {c : Code} {Q : State → Prop} {M0 : Wd} {A : AF} {C : CF} {b N n : Nat} {xs : Nat → Int32} (S : CallFix p m c cL_law 9 s args wsL_law RL) (hz : Stat Z s) (hml : c.maxLocals = 9) (hfl : l.stackTraces = false) (hX : Scr b N xs Z s) (hN : N ≤ 3584) (hn : 7 * n + 7 ≤ N) (h0 : LI Z n A C) (kk : ∀ (A2 : AF) (C2 : CF), LI Z (n + 1) A2 C2 → LGS Z p l e s m args below meth c Q (bC (n + 1) C2) (bS (n + 1) C2) M0 A2 C2 3146 (Ll b n A2) []) : LGS Z p l e s m args below meth c Q (bC n C) (bS n C) M0 A C 2431 (Ll b n A) [] := by
  have hI := h0.1
  obtain ⟨hcapC, hcapS⟩ := h0.cap (by omega)
  refine s_aload_n (pc := 2431) S 2 dL_law_2431 rfl rfl ?_
  refine s_callV (pc := 2432) S hz hml [] (k_X6_logSize Z l A C (hI.1.okk hI.2.1 hI.2.2)) (cwV 0 S.2.2.2.2 gL_law_X6_logSize rfl rfl rfl (by decide +kernel) ⟨(Nat.le_of_ble_eq_true rfl), (Nat.le_of_ble_eq_true rfl)⟩) (cc_farm (A := A) (C := C)) rfl rfl rfl (Nat.le_of_ble_eq_true rfl) dL_law_2432 ⟨by omega, by omega⟩ (fun _ _ _ h => h.elim) (fun v A2 C2 h => ?_)
  obtain ⟨rfl, rfl, rfl⟩ := h
  refine s_aload_n (pc := 2435) S 3 dL_law_2435 rfl rfl ?_
  refine s_callV (pc := 2436) S hz hml [] (k_X7_logSize Z l A C hI.2.1.1) (cwV 0 S.2.2.2.2 gL_law_X7_logSize rfl rfl rfl (by decide +kernel) ⟨(Nat.le_of_ble_eq_true rfl), (Nat.le_of_ble_eq_true rfl)⟩) (cc_mod (A := A) (C := C)) rfl rfl rfl (Nat.le_of_ble_eq_true rfl) dL_law_2436 ⟨by omega, by omega⟩ (fun _ _ _ h => h.elim) (fun v A2 C2 h => ?_)
  obtain ⟨rfl, rfl, rfl⟩ := h
  obtain ⟨h1, h2, h3⟩ := h0.next (agb_th hI (fun _ _ => rfl) rfl rfl 0 (St5.rf (A := A)))
  have hsl : C 4 0 2 = C 60 100 31 := hI.1.2.2.2.2.2.1.1
  have hlg := hI.2.1.2.1.2.2.2.2.2.2
  refine s_icmp_eqN (pc := 2439) S 3146 dL_law_2439 (by decide) (by omega) (by omega) (fun _ => ?_) (fun h => absurd hsl h)
  exact s_widen (by omega) (by omega) (kk A (up3 C 60 100 27 0) h1)
set_option maxHeartbeats 4000000 in
set_option maxRecDepth 100000 in
theorem lc_logJob {Z : Zp} {p : Program} {l : Launch} {e : Env} {s : State} {m : MethodId} {args : Array Value} {below : List Frame} {meth : Method} {c : Code} {Q : State → Prop} {M0 : Wd} {A : AF} {C : CF} {b N n : Nat} {xs : Nat → Int32} (S : CallFix p m c cL_law 9 s args wsL_law RL) (hz : Stat Z s) (hml : c.maxLocals = 9) (hfl : l.stackTraces = false) (hX : Scr b N xs Z s) (hN : N ≤ 3584) (hn : 7 * n + 7 ≤ N) (h0 : LI Z n A C) (kk : ∀ (A2 : AF) (C2 : CF), LI Z (n + 1) A2 C2 → LGS Z p l e s m args below meth c Q (bC (n + 1) C2) (bS (n + 1) C2) M0 A2 C2 3146 (Ll b n A2) []) : LGS Z p l e s m args below meth c Q (bC n C) (bS n C) M0 A C 2444 (Ll b n A) [] := by
  have hI := h0.1
  obtain ⟨hcapC, hcapS⟩ := h0.cap (by omega)
  refine s_aload_n (pc := 2444) S 2 dL_law_2444 rfl rfl ?_
  refine law_arg (pc := 2445) (n := n) (j := 1) S hX 1 0 (by omega) hN (by decide) rfl rfl dL_law_2445 dL_law_2446 dL_law_2448 dL_law_2449 dL_law_2450 ?_
  refine s_aload_n (pc := 2451) S 4 dL_law_2451 rfl rfl ?_
  refine s_callSX (pc := 2452) S hz hml [.ref (A 0 0), .int (xs (7 * n + 1)), .ref (A 70 0)] (k_L_logJob Z l A C hI (xs (7 * n + 1))  hfl) (vx_cwSW 3 S.2.2.2.2 gL_law_L_logJob rfl rfl rfl (by decide +kernel) ⟨(Nat.le_of_ble_eq_true rfl), (Nat.le_of_ble_eq_true rfl)⟩) rfl rfl (Nat.le_of_ble_eq_true rfl) dL_law_2452 ⟨by omega, by omega⟩ (fun v A1 C1 h => ?_)
  obtain ⟨k, rfl, hW⟩ := h
  obtain ⟨w1, w3, hk3⟩ := w_logJob hW
  have e6 : C1 60 = C 60 := w1 60 (by decide) (by decide)
  have e61 : C1 61 = C 61 := w1 61 (by decide) (by decide)
  have hO1 : OkM C1 := hI.2.1.cg e6 e61
  refine s_istore (pc := 2455) S ((6, .int (nI k)) :: Ll b n A) dL_law_2455 (by decide) rfl ?_
  refine s_loc (L2 := (6, .int (nI k)) :: Ll b n A1) (congrArg (List.cons _) (ll_st w3.1)) ?_
  refine s_aload_n (pc := 2457) S 4 dL_law_2457 rfl rfl ?_
  refine law_arg (pc := 2458) (n := n) (j := 1) S hX 2 1 (by omega) hN (by decide) rfl rfl dL_law_2458 dL_law_2459 dL_law_2461 dL_law_2462 dL_law_2463 ?_
  refine s_callV (pc := 2464) S hz hml [.int (xs (7 * n + 1))] (k_X7_logJob Z l A1 C1 (xs (7 * n + 1))  hO1.1) (cwV 1 S.2.2.2.2 gL_law_X7_logJob rfl rfl rfl (by decide +kernel) ⟨(Nat.le_of_ble_eq_true rfl), (Nat.le_of_ble_eq_true rfl)⟩) (cc_mod (A := A1) (C := C1)) rfl rfl rfl (Nat.le_of_ble_eq_true rfl) dL_law_2464 ⟨by omega, by omega⟩ (fun _ _ _ h => h.elim) (fun v A2 C2 h => ?_)
  have h7 : K7_logJob A1 C1 (xs (7 * n + 1)) v A2 C2 := h
  obtain ⟨hB, b7, rfl, hv⟩ := ag_logJob  hI hW h7
  refine s_istore (pc := 2467) S ((7, .int b7) :: (6, .int (nI k)) :: Ll b n A1) dL_law_2467 (by decide) rfl ?_
  refine s_loc (L2 := (7, .int b7) :: (6, .int (nI k)) :: Ll b n A2) (congrArg (fun q => (7, .int b7) :: (6, .int (nI k)) :: q) ((ll_st w3.1).symm.trans (ll_st hB.2.2.1.1))) ?_
  obtain ⟨hL1, hc1, hs1⟩ := h0.next hB
  exact law_tl (pc := 2469) S hz hml hB.1 hk3 hv ⟨by omega, by omega⟩ _ dL_law_2469 dL_law_2470 dL_law_2473 dL_law_2475 dL_law_2480 dL_law_2482 dL_law_2485 dL_law_2486 dL_law_2487 dL_law_2488 dL_law_2490 dL_law_2491 dL_law_2492 dL_law_2497 (by decide) (s_widen (by omega) (by omega) (kk A2 C2 hL1))
set_option maxHeartbeats 4000000 in
set_option maxRecDepth 100000 in
theorem lc_logPrinter {Z : Zp} {p : Program} {l : Launch} {e : Env} {s : State} {m : MethodId} {args : Array Value} {below : List Frame} {meth : Method} {c : Code} {Q : State → Prop} {M0 : Wd} {A : AF} {C : CF} {b N n : Nat} {xs : Nat → Int32} (S : CallFix p m c cL_law 9 s args wsL_law RL) (hz : Stat Z s) (hml : c.maxLocals = 9) (hfl : l.stackTraces = false) (hX : Scr b N xs Z s) (hN : N ≤ 3584) (hn : 7 * n + 7 ≤ N) (h0 : LI Z n A C) (kk : ∀ (A2 : AF) (C2 : CF), LI Z (n + 1) A2 C2 → LGS Z p l e s m args below meth c Q (bC (n + 1) C2) (bS (n + 1) C2) M0 A2 C2 3146 (Ll b n A2) []) : LGS Z p l e s m args below meth c Q (bC n C) (bS n C) M0 A C 2500 (Ll b n A) [] := by
  have hI := h0.1
  obtain ⟨hcapC, hcapS⟩ := h0.cap (by omega)
  refine s_aload_n (pc := 2500) S 2 dL_law_2500 rfl rfl ?_
  refine law_arg (pc := 2501) (n := n) (j := 1) S hX 1 0 (by omega) hN (by decide) rfl rfl dL_law_2501 dL_law_2502 dL_law_2504 dL_law_2505 dL_law_2506 ?_
  refine s_aload_n (pc := 2507) S 4 dL_law_2507 rfl rfl ?_
  refine s_callSX (pc := 2508) S hz hml [.ref (A 0 0), .int (xs (7 * n + 1)), .ref (A 70 0)] (k_L_logPrinter Z l A C hI (xs (7 * n + 1))  hfl) (vx_cwSW 3 S.2.2.2.2 gL_law_L_logPrinter rfl rfl rfl (by decide +kernel) ⟨(Nat.le_of_ble_eq_true rfl), (Nat.le_of_ble_eq_true rfl)⟩) rfl rfl (Nat.le_of_ble_eq_true rfl) dL_law_2508 ⟨by omega, by omega⟩ (fun v A1 C1 h => ?_)
  obtain ⟨k, rfl, hW⟩ := h
  obtain ⟨w1, w3, hk3⟩ := w_logPrinter hW
  have e6 : C1 60 = C 60 := w1 60 (by decide) (by decide)
  have e61 : C1 61 = C 61 := w1 61 (by decide) (by decide)
  have hO1 : OkM C1 := hI.2.1.cg e6 e61
  refine s_istore (pc := 2511) S ((6, .int (nI k)) :: Ll b n A) dL_law_2511 (by decide) rfl ?_
  refine s_loc (L2 := (6, .int (nI k)) :: Ll b n A1) (congrArg (List.cons _) (ll_st w3.1)) ?_
  refine s_aload_n (pc := 2513) S 4 dL_law_2513 rfl rfl ?_
  refine law_arg (pc := 2514) (n := n) (j := 1) S hX 2 1 (by omega) hN (by decide) rfl rfl dL_law_2514 dL_law_2515 dL_law_2517 dL_law_2518 dL_law_2519 ?_
  refine s_callV (pc := 2520) S hz hml [.int (xs (7 * n + 1))] (k_X7_logPrinter Z l A1 C1 (xs (7 * n + 1))  hO1.1) (cwV 1 S.2.2.2.2 gL_law_X7_logPrinter rfl rfl rfl (by decide +kernel) ⟨(Nat.le_of_ble_eq_true rfl), (Nat.le_of_ble_eq_true rfl)⟩) (cc_mod (A := A1) (C := C1)) rfl rfl rfl (Nat.le_of_ble_eq_true rfl) dL_law_2520 ⟨by omega, by omega⟩ (fun _ _ _ h => h.elim) (fun v A2 C2 h => ?_)
  have h7 : K7_logPrinter A1 C1 (xs (7 * n + 1)) v A2 C2 := h
  obtain ⟨hB, b7, rfl, hv⟩ := ag_logPrinter  hI hW h7
  refine s_istore (pc := 2523) S ((7, .int b7) :: (6, .int (nI k)) :: Ll b n A1) dL_law_2523 (by decide) rfl ?_
  refine s_loc (L2 := (7, .int b7) :: (6, .int (nI k)) :: Ll b n A2) (congrArg (fun q => (7, .int b7) :: (6, .int (nI k)) :: q) ((ll_st w3.1).symm.trans (ll_st hB.2.2.1.1))) ?_
  obtain ⟨hL1, hc1, hs1⟩ := h0.next hB
  exact law_tl (pc := 2525) S hz hml hB.1 hk3 hv ⟨by omega, by omega⟩ _ dL_law_2525 dL_law_2526 dL_law_2529 dL_law_2531 dL_law_2536 dL_law_2538 dL_law_2541 dL_law_2542 dL_law_2543 dL_law_2544 dL_law_2546 dL_law_2547 dL_law_2548 dL_law_2553 (by decide) (s_widen (by omega) (by omega) (kk A2 C2 hL1))
set_option maxHeartbeats 4000000 in
set_option maxRecDepth 100000 in
theorem lc_logPages {Z : Zp} {p : Program} {l : Launch} {e : Env} {s : State} {m : MethodId} {args : Array Value} {below : List Frame} {meth : Method} {c : Code} {Q : State → Prop} {M0 : Wd} {A : AF} {C : CF} {b N n : Nat} {xs : Nat → Int32} (S : CallFix p m c cL_law 9 s args wsL_law RL) (hz : Stat Z s) (hml : c.maxLocals = 9) (hfl : l.stackTraces = false) (hX : Scr b N xs Z s) (hN : N ≤ 3584) (hn : 7 * n + 7 ≤ N) (h0 : LI Z n A C) (kk : ∀ (A2 : AF) (C2 : CF), LI Z (n + 1) A2 C2 → LGS Z p l e s m args below meth c Q (bC (n + 1) C2) (bS (n + 1) C2) M0 A2 C2 3146 (Ll b n A2) []) : LGS Z p l e s m args below meth c Q (bC n C) (bS n C) M0 A C 2556 (Ll b n A) [] := by
  have hI := h0.1
  obtain ⟨hcapC, hcapS⟩ := h0.cap (by omega)
  refine s_aload_n (pc := 2556) S 2 dL_law_2556 rfl rfl ?_
  refine law_arg (pc := 2557) (n := n) (j := 1) S hX 1 0 (by omega) hN (by decide) rfl rfl dL_law_2557 dL_law_2558 dL_law_2560 dL_law_2561 dL_law_2562 ?_
  refine s_aload_n (pc := 2563) S 4 dL_law_2563 rfl rfl ?_
  refine s_callSX (pc := 2564) S hz hml [.ref (A 0 0), .int (xs (7 * n + 1)), .ref (A 70 0)] (k_L_logPages Z l A C hI (xs (7 * n + 1))  hfl) (vx_cwSW 3 S.2.2.2.2 gL_law_L_logPages rfl rfl rfl (by decide +kernel) ⟨(Nat.le_of_ble_eq_true rfl), (Nat.le_of_ble_eq_true rfl)⟩) rfl rfl (Nat.le_of_ble_eq_true rfl) dL_law_2564 ⟨by omega, by omega⟩ (fun v A1 C1 h => ?_)
  obtain ⟨k, rfl, hW⟩ := h
  obtain ⟨w1, w3, hk3⟩ := w_logPages hW
  have e6 : C1 60 = C 60 := w1 60 (by decide) (by decide)
  have e61 : C1 61 = C 61 := w1 61 (by decide) (by decide)
  have hO1 : OkM C1 := hI.2.1.cg e6 e61
  refine s_istore (pc := 2567) S ((6, .int (nI k)) :: Ll b n A) dL_law_2567 (by decide) rfl ?_
  refine s_loc (L2 := (6, .int (nI k)) :: Ll b n A1) (congrArg (List.cons _) (ll_st w3.1)) ?_
  refine s_aload_n (pc := 2569) S 4 dL_law_2569 rfl rfl ?_
  refine law_arg (pc := 2570) (n := n) (j := 1) S hX 2 1 (by omega) hN (by decide) rfl rfl dL_law_2570 dL_law_2571 dL_law_2573 dL_law_2574 dL_law_2575 ?_
  refine s_callV (pc := 2576) S hz hml [.int (xs (7 * n + 1))] (k_X7_logPages Z l A1 C1 (xs (7 * n + 1))  hO1.1) (cwV 1 S.2.2.2.2 gL_law_X7_logPages rfl rfl rfl (by decide +kernel) ⟨(Nat.le_of_ble_eq_true rfl), (Nat.le_of_ble_eq_true rfl)⟩) (cc_mod (A := A1) (C := C1)) rfl rfl rfl (Nat.le_of_ble_eq_true rfl) dL_law_2576 ⟨by omega, by omega⟩ (fun _ _ _ h => h.elim) (fun v A2 C2 h => ?_)
  have h7 : K7_logPages A1 C1 (xs (7 * n + 1)) v A2 C2 := h
  obtain ⟨hB, b7, rfl, hv⟩ := ag_logPages  hI hW h7
  refine s_istore (pc := 2579) S ((7, .int b7) :: (6, .int (nI k)) :: Ll b n A1) dL_law_2579 (by decide) rfl ?_
  refine s_loc (L2 := (7, .int b7) :: (6, .int (nI k)) :: Ll b n A2) (congrArg (fun q => (7, .int b7) :: (6, .int (nI k)) :: q) ((ll_st w3.1).symm.trans (ll_st hB.2.2.1.1))) ?_
  obtain ⟨hL1, hc1, hs1⟩ := h0.next hB
  exact law_tl (pc := 2581) S hz hml hB.1 hk3 hv ⟨by omega, by omega⟩ _ dL_law_2581 dL_law_2582 dL_law_2585 dL_law_2587 dL_law_2592 dL_law_2594 dL_law_2597 dL_law_2598 dL_law_2599 dL_law_2600 dL_law_2602 dL_law_2603 dL_law_2604 dL_law_2609 (by decide) (s_widen (by omega) (by omega) (kk A2 C2 hL1))
set_option maxHeartbeats 4000000 in
set_option maxRecDepth 100000 in
theorem lc_logSheets {Z : Zp} {p : Program} {l : Launch} {e : Env} {s : State} {m : MethodId} {args : Array Value} {below : List Frame} {meth : Method} {c : Code} {Q : State → Prop} {M0 : Wd} {A : AF} {C : CF} {b N n : Nat} {xs : Nat → Int32} (S : CallFix p m c cL_law 9 s args wsL_law RL) (hz : Stat Z s) (hml : c.maxLocals = 9) (hfl : l.stackTraces = false) (hX : Scr b N xs Z s) (hN : N ≤ 3584) (hn : 7 * n + 7 ≤ N) (h0 : LI Z n A C) (kk : ∀ (A2 : AF) (C2 : CF), LI Z (n + 1) A2 C2 → LGS Z p l e s m args below meth c Q (bC (n + 1) C2) (bS (n + 1) C2) M0 A2 C2 3146 (Ll b n A2) []) : LGS Z p l e s m args below meth c Q (bC n C) (bS n C) M0 A C 2612 (Ll b n A) [] := by
  have hI := h0.1
  obtain ⟨hcapC, hcapS⟩ := h0.cap (by omega)
  refine s_aload_n (pc := 2612) S 2 dL_law_2612 rfl rfl ?_
  refine law_arg (pc := 2613) (n := n) (j := 1) S hX 1 0 (by omega) hN (by decide) rfl rfl dL_law_2613 dL_law_2614 dL_law_2616 dL_law_2617 dL_law_2618 ?_
  refine s_aload_n (pc := 2619) S 4 dL_law_2619 rfl rfl ?_
  refine s_callSX (pc := 2620) S hz hml [.ref (A 0 0), .int (xs (7 * n + 1)), .ref (A 70 0)] (k_L_logSheets Z l A C hI (xs (7 * n + 1))  hfl) (vx_cwSW 3 S.2.2.2.2 gL_law_L_logSheets rfl rfl rfl (by decide +kernel) ⟨(Nat.le_of_ble_eq_true rfl), (Nat.le_of_ble_eq_true rfl)⟩) rfl rfl (Nat.le_of_ble_eq_true rfl) dL_law_2620 ⟨by omega, by omega⟩ (fun v A1 C1 h => ?_)
  obtain ⟨k, rfl, hW⟩ := h
  obtain ⟨w1, w3, hk3⟩ := w_logSheets hW
  have e6 : C1 60 = C 60 := w1 60 (by decide) (by decide)
  have e61 : C1 61 = C 61 := w1 61 (by decide) (by decide)
  have hO1 : OkM C1 := hI.2.1.cg e6 e61
  refine s_istore (pc := 2623) S ((6, .int (nI k)) :: Ll b n A) dL_law_2623 (by decide) rfl ?_
  refine s_loc (L2 := (6, .int (nI k)) :: Ll b n A1) (congrArg (List.cons _) (ll_st w3.1)) ?_
  refine s_aload_n (pc := 2625) S 4 dL_law_2625 rfl rfl ?_
  refine law_arg (pc := 2626) (n := n) (j := 1) S hX 2 1 (by omega) hN (by decide) rfl rfl dL_law_2626 dL_law_2627 dL_law_2629 dL_law_2630 dL_law_2631 ?_
  refine s_callV (pc := 2632) S hz hml [.int (xs (7 * n + 1))] (k_X7_logSheets Z l A1 C1 (xs (7 * n + 1))  hO1.1) (cwV 1 S.2.2.2.2 gL_law_X7_logSheets rfl rfl rfl (by decide +kernel) ⟨(Nat.le_of_ble_eq_true rfl), (Nat.le_of_ble_eq_true rfl)⟩) (cc_mod (A := A1) (C := C1)) rfl rfl rfl (Nat.le_of_ble_eq_true rfl) dL_law_2632 ⟨by omega, by omega⟩ (fun _ _ _ h => h.elim) (fun v A2 C2 h => ?_)
  have h7 : K7_logSheets A1 C1 (xs (7 * n + 1)) v A2 C2 := h
  obtain ⟨hB, b7, rfl, hv⟩ := ag_logSheets  hI hW h7
  refine s_istore (pc := 2635) S ((7, .int b7) :: (6, .int (nI k)) :: Ll b n A1) dL_law_2635 (by decide) rfl ?_
  refine s_loc (L2 := (7, .int b7) :: (6, .int (nI k)) :: Ll b n A2) (congrArg (fun q => (7, .int b7) :: (6, .int (nI k)) :: q) ((ll_st w3.1).symm.trans (ll_st hB.2.2.1.1))) ?_
  obtain ⟨hL1, hc1, hs1⟩ := h0.next hB
  exact law_tl (pc := 2637) S hz hml hB.1 hk3 hv ⟨by omega, by omega⟩ _ dL_law_2637 dL_law_2638 dL_law_2641 dL_law_2643 dL_law_2648 dL_law_2650 dL_law_2653 dL_law_2654 dL_law_2655 dL_law_2656 dL_law_2658 dL_law_2659 dL_law_2660 dL_law_2665 (by decide) (s_widen (by omega) (by omega) (kk A2 C2 hL1))
set_option maxHeartbeats 4000000 in
set_option maxRecDepth 100000 in
theorem lc_pagesOf {Z : Zp} {p : Program} {l : Launch} {e : Env} {s : State} {m : MethodId} {args : Array Value} {below : List Frame} {meth : Method} {c : Code} {Q : State → Prop} {M0 : Wd} {A : AF} {C : CF} {b N n : Nat} {xs : Nat → Int32} (S : CallFix p m c cL_law 9 s args wsL_law RL) (hz : Stat Z s) (hml : c.maxLocals = 9) (hfl : l.stackTraces = false) (hX : Scr b N xs Z s) (hN : N ≤ 3584) (hn : 7 * n + 7 ≤ N) (h0 : LI Z n A C) (kk : ∀ (A2 : AF) (C2 : CF), LI Z (n + 1) A2 C2 → LGS Z p l e s m args below meth c Q (bC (n + 1) C2) (bS (n + 1) C2) M0 A2 C2 3146 (Ll b n A2) []) : LGS Z p l e s m args below meth c Q (bC n C) (bS n C) M0 A C 2668 (Ll b n A) [] := by
  have hI := h0.1
  obtain ⟨hcapC, hcapS⟩ := h0.cap (by omega)
  refine s_aload_n (pc := 2668) S 2 dL_law_2668 rfl rfl ?_
  refine law_arg (pc := 2669) (n := n) (j := 1) S hX 1 0 (by omega) hN (by decide) rfl rfl dL_law_2669 dL_law_2670 dL_law_2672 dL_law_2673 dL_law_2674 ?_
  refine s_aload_n (pc := 2675) S 4 dL_law_2675 rfl rfl ?_
  refine s_callSX (pc := 2676) S hz hml [.ref (A 0 0), .int (xs (7 * n + 1)), .ref (A 70 0)] (k_L_pagesOf Z l A C hI (xs (7 * n + 1))  hfl) (vx_cwSW 3 S.2.2.2.2 gL_law_L_pagesOf rfl rfl rfl (by decide +kernel) ⟨(Nat.le_of_ble_eq_true rfl), (Nat.le_of_ble_eq_true rfl)⟩) rfl rfl (Nat.le_of_ble_eq_true rfl) dL_law_2676 ⟨by omega, by omega⟩ (fun v A1 C1 h => ?_)
  obtain ⟨k, rfl, hW⟩ := h
  obtain ⟨w1, w3, hk3⟩ := w_pagesOf hW
  have e6 : C1 60 = C 60 := w1 60 (by decide) (by decide)
  have e61 : C1 61 = C 61 := w1 61 (by decide) (by decide)
  have hO1 : OkM C1 := hI.2.1.cg e6 e61
  refine s_istore (pc := 2679) S ((6, .int (nI k)) :: Ll b n A) dL_law_2679 (by decide) rfl ?_
  refine s_loc (L2 := (6, .int (nI k)) :: Ll b n A1) (congrArg (List.cons _) (ll_st w3.1)) ?_
  refine s_aload_n (pc := 2681) S 4 dL_law_2681 rfl rfl ?_
  refine law_arg (pc := 2682) (n := n) (j := 1) S hX 2 1 (by omega) hN (by decide) rfl rfl dL_law_2682 dL_law_2683 dL_law_2685 dL_law_2686 dL_law_2687 ?_
  refine s_callV (pc := 2688) S hz hml [.int (xs (7 * n + 1))] (k_X7_pagesOf Z l A1 C1 (xs (7 * n + 1))  hO1.1) (cwV 1 S.2.2.2.2 gL_law_X7_pagesOf rfl rfl rfl (by decide +kernel) ⟨(Nat.le_of_ble_eq_true rfl), (Nat.le_of_ble_eq_true rfl)⟩) (cc_mod (A := A1) (C := C1)) rfl rfl rfl (Nat.le_of_ble_eq_true rfl) dL_law_2688 ⟨by omega, by omega⟩ (fun _ _ _ h => h.elim) (fun v A2 C2 h => ?_)
  have h7 : K7_pagesOf A1 C1 (xs (7 * n + 1)) v A2 C2 := h
  obtain ⟨hB, b7, rfl, hv⟩ := ag_pagesOf  hI hW h7
  refine s_istore (pc := 2691) S ((7, .int b7) :: (6, .int (nI k)) :: Ll b n A1) dL_law_2691 (by decide) rfl ?_
  refine s_loc (L2 := (7, .int b7) :: (6, .int (nI k)) :: Ll b n A2) (congrArg (fun q => (7, .int b7) :: (6, .int (nI k)) :: q) ((ll_st w3.1).symm.trans (ll_st hB.2.2.1.1))) ?_
  obtain ⟨hL1, hc1, hs1⟩ := h0.next hB
  exact law_tl (pc := 2693) S hz hml hB.1 hk3 hv ⟨by omega, by omega⟩ _ dL_law_2693 dL_law_2694 dL_law_2697 dL_law_2699 dL_law_2704 dL_law_2706 dL_law_2709 dL_law_2710 dL_law_2711 dL_law_2712 dL_law_2714 dL_law_2715 dL_law_2716 dL_law_2721 (by decide) (s_widen (by omega) (by omega) (kk A2 C2 hL1))
set_option maxHeartbeats 4000000 in
set_option maxRecDepth 100000 in
theorem lc_pagesByLog {Z : Zp} {p : Program} {l : Launch} {e : Env} {s : State} {m : MethodId} {args : Array Value} {below : List Frame} {meth : Method} {c : Code} {Q : State → Prop} {M0 : Wd} {A : AF} {C : CF} {b N n : Nat} {xs : Nat → Int32} (S : CallFix p m c cL_law 9 s args wsL_law RL) (hz : Stat Z s) (hml : c.maxLocals = 9) (hfl : l.stackTraces = false) (hX : Scr b N xs Z s) (hN : N ≤ 3584) (hn : 7 * n + 7 ≤ N) (h0 : LI Z n A C) (kk : ∀ (A2 : AF) (C2 : CF), LI Z (n + 1) A2 C2 → LGS Z p l e s m args below meth c Q (bC (n + 1) C2) (bS (n + 1) C2) M0 A2 C2 3146 (Ll b n A2) []) : LGS Z p l e s m args below meth c Q (bC n C) (bS n C) M0 A C 2724 (Ll b n A) [] := by
  have hI := h0.1
  obtain ⟨hcapC, hcapS⟩ := h0.cap (by omega)
  refine s_aload_n (pc := 2724) S 2 dL_law_2724 rfl rfl ?_
  refine law_arg (pc := 2725) (n := n) (j := 1) S hX 1 0 (by omega) hN (by decide) rfl rfl dL_law_2725 dL_law_2726 dL_law_2728 dL_law_2729 dL_law_2730 ?_
  refine s_aload_n (pc := 2731) S 4 dL_law_2731 rfl rfl ?_
  refine s_callSX (pc := 2732) S hz hml [.ref (A 0 0), .int (xs (7 * n + 1)), .ref (A 70 0)] (k_L_pagesByLog Z l A C hI (xs (7 * n + 1))  hfl) (vx_cwSW 3 S.2.2.2.2 gL_law_L_pagesByLog rfl rfl rfl (by decide +kernel) ⟨(Nat.le_of_ble_eq_true rfl), (Nat.le_of_ble_eq_true rfl)⟩) rfl rfl (Nat.le_of_ble_eq_true rfl) dL_law_2732 ⟨by omega, by omega⟩ (fun v A1 C1 h => ?_)
  obtain ⟨k, rfl, hW⟩ := h
  obtain ⟨w1, w3, hk3⟩ := w_pagesByLog hW
  have e6 : C1 60 = C 60 := w1 60 (by decide) (by decide)
  have e61 : C1 61 = C 61 := w1 61 (by decide) (by decide)
  have hO1 : OkM C1 := hI.2.1.cg e6 e61
  refine s_istore (pc := 2735) S ((6, .int (nI k)) :: Ll b n A) dL_law_2735 (by decide) rfl ?_
  refine s_loc (L2 := (6, .int (nI k)) :: Ll b n A1) (congrArg (List.cons _) (ll_st w3.1)) ?_
  refine s_aload_n (pc := 2737) S 4 dL_law_2737 rfl rfl ?_
  refine law_arg (pc := 2738) (n := n) (j := 1) S hX 2 1 (by omega) hN (by decide) rfl rfl dL_law_2738 dL_law_2739 dL_law_2741 dL_law_2742 dL_law_2743 ?_
  refine s_callV (pc := 2744) S hz hml [.int (xs (7 * n + 1))] (k_X7_pagesByLog Z l A1 C1 (xs (7 * n + 1))  hO1.1) (cwV 1 S.2.2.2.2 gL_law_X7_pagesByLog rfl rfl rfl (by decide +kernel) ⟨(Nat.le_of_ble_eq_true rfl), (Nat.le_of_ble_eq_true rfl)⟩) (cc_mod (A := A1) (C := C1)) rfl rfl rfl (Nat.le_of_ble_eq_true rfl) dL_law_2744 ⟨by omega, by omega⟩ (fun _ _ _ h => h.elim) (fun v A2 C2 h => ?_)
  have h7 : K7_pagesByLog A1 C1 (xs (7 * n + 1)) v A2 C2 := h
  obtain ⟨hB, b7, rfl, hv⟩ := ag_pagesByLog  hI hW h7
  refine s_istore (pc := 2747) S ((7, .int b7) :: (6, .int (nI k)) :: Ll b n A1) dL_law_2747 (by decide) rfl ?_
  refine s_loc (L2 := (7, .int b7) :: (6, .int (nI k)) :: Ll b n A2) (congrArg (fun q => (7, .int b7) :: (6, .int (nI k)) :: q) ((ll_st w3.1).symm.trans (ll_st hB.2.2.1.1))) ?_
  obtain ⟨hL1, hc1, hs1⟩ := h0.next hB
  exact law_tl (pc := 2749) S hz hml hB.1 hk3 hv ⟨by omega, by omega⟩ _ dL_law_2749 dL_law_2750 dL_law_2753 dL_law_2755 dL_law_2760 dL_law_2762 dL_law_2765 dL_law_2766 dL_law_2767 dL_law_2768 dL_law_2770 dL_law_2771 dL_law_2772 dL_law_2777 (by decide) (s_widen (by omega) (by omega) (kk A2 C2 hL1))
set_option maxHeartbeats 4000000 in
set_option maxRecDepth 100000 in
theorem lc_billOf {Z : Zp} {p : Program} {l : Launch} {e : Env} {s : State} {m : MethodId} {args : Array Value} {below : List Frame} {meth : Method} {c : Code} {Q : State → Prop} {M0 : Wd} {A : AF} {C : CF} {b N n : Nat} {xs : Nat → Int32} (S : CallFix p m c cL_law 9 s args wsL_law RL) (hz : Stat Z s) (hml : c.maxLocals = 9) (hfl : l.stackTraces = false) (hX : Scr b N xs Z s) (hN : N ≤ 3584) (hn : 7 * n + 7 ≤ N) (h0 : LI Z n A C) (kk : ∀ (A2 : AF) (C2 : CF), LI Z (n + 1) A2 C2 → LGS Z p l e s m args below meth c Q (bC (n + 1) C2) (bS (n + 1) C2) M0 A2 C2 3146 (Ll b n A2) []) : LGS Z p l e s m args below meth c Q (bC n C) (bS n C) M0 A C 2780 (Ll b n A) [] := by
  have hI := h0.1
  obtain ⟨hcapC, hcapS⟩ := h0.cap (by omega)
  refine s_aload_n (pc := 2780) S 2 dL_law_2780 rfl rfl ?_
  refine law_arg (pc := 2781) (n := n) (j := 1) S hX 1 0 (by omega) hN (by decide) rfl rfl dL_law_2781 dL_law_2782 dL_law_2784 dL_law_2785 dL_law_2786 ?_
  refine s_aload_n (pc := 2787) S 4 dL_law_2787 rfl rfl ?_
  refine s_callSX (pc := 2788) S hz hml [.ref (A 0 0), .int (xs (7 * n + 1)), .ref (A 70 0)] (k_L_billOf Z l A C hI (xs (7 * n + 1))  hfl) (vx_cwSW 3 S.2.2.2.2 gL_law_L_billOf rfl rfl rfl (by decide +kernel) ⟨(Nat.le_of_ble_eq_true rfl), (Nat.le_of_ble_eq_true rfl)⟩) rfl rfl (Nat.le_of_ble_eq_true rfl) dL_law_2788 ⟨by omega, by omega⟩ (fun v A1 C1 h => ?_)
  obtain ⟨k, rfl, hW⟩ := h
  obtain ⟨w1, w3, hk3⟩ := w_billOf hW
  have e6 : C1 60 = C 60 := w1 60 (by decide) (by decide)
  have e61 : C1 61 = C 61 := w1 61 (by decide) (by decide)
  have hO1 : OkM C1 := hI.2.1.cg e6 e61
  refine s_istore (pc := 2791) S ((6, .int (nI k)) :: Ll b n A) dL_law_2791 (by decide) rfl ?_
  refine s_loc (L2 := (6, .int (nI k)) :: Ll b n A1) (congrArg (List.cons _) (ll_st w3.1)) ?_
  refine s_aload_n (pc := 2793) S 4 dL_law_2793 rfl rfl ?_
  refine law_arg (pc := 2794) (n := n) (j := 1) S hX 2 1 (by omega) hN (by decide) rfl rfl dL_law_2794 dL_law_2795 dL_law_2797 dL_law_2798 dL_law_2799 ?_
  refine s_callV (pc := 2800) S hz hml [.int (xs (7 * n + 1))] (k_X7_billOf Z l A1 C1 (xs (7 * n + 1))  hO1.1) (cwV 1 S.2.2.2.2 gL_law_X7_billOf rfl rfl rfl (by decide +kernel) ⟨(Nat.le_of_ble_eq_true rfl), (Nat.le_of_ble_eq_true rfl)⟩) (cc_mod (A := A1) (C := C1)) rfl rfl rfl (Nat.le_of_ble_eq_true rfl) dL_law_2800 ⟨by omega, by omega⟩ (fun _ _ _ h => h.elim) (fun v A2 C2 h => ?_)
  have h7 : K7_billOf A1 C1 (xs (7 * n + 1)) v A2 C2 := h
  obtain ⟨hB, b7, rfl, hv⟩ := ag_billOf  hI hW h7
  refine s_lstore (pc := 2803) S ((7, .long b7) :: (6, .int (nI k)) :: Ll b n A1) dL_law_2803 (by decide) rfl ?_
  refine s_loc (L2 := (7, .long b7) :: (6, .int (nI k)) :: Ll b n A2) (congrArg (fun q => (7, .long b7) :: (6, .int (nI k)) :: q) ((ll_st w3.1).symm.trans (ll_st hB.2.2.1.1))) ?_
  obtain ⟨hL1, hc1, hs1⟩ := h0.next hB
  exact law_tlL (pc := 2805) S hz hml hB.1 hk3 hv ⟨by omega, by omega⟩ _ dL_law_2805 dL_law_2806 dL_law_2809 dL_law_2811 dL_law_2816 dL_law_2818 dL_law_2821 dL_law_2822 dL_law_2823 dL_law_2824 dL_law_2826 dL_law_2827 dL_law_2832 (by decide) (s_widen (by omega) (by omega) (kk A2 C2 hL1))
set_option maxHeartbeats 4000000 in
set_option maxRecDepth 100000 in
theorem lc_billByLog {Z : Zp} {p : Program} {l : Launch} {e : Env} {s : State} {m : MethodId} {args : Array Value} {below : List Frame} {meth : Method} {c : Code} {Q : State → Prop} {M0 : Wd} {A : AF} {C : CF} {b N n : Nat} {xs : Nat → Int32} (S : CallFix p m c cL_law 9 s args wsL_law RL) (hz : Stat Z s) (hml : c.maxLocals = 9) (hfl : l.stackTraces = false) (hX : Scr b N xs Z s) (hN : N ≤ 3584) (hn : 7 * n + 7 ≤ N) (h0 : LI Z n A C) (kk : ∀ (A2 : AF) (C2 : CF), LI Z (n + 1) A2 C2 → LGS Z p l e s m args below meth c Q (bC (n + 1) C2) (bS (n + 1) C2) M0 A2 C2 3146 (Ll b n A2) []) : LGS Z p l e s m args below meth c Q (bC n C) (bS n C) M0 A C 2835 (Ll b n A) [] := by
  have hI := h0.1
  obtain ⟨hcapC, hcapS⟩ := h0.cap (by omega)
  refine s_aload_n (pc := 2835) S 2 dL_law_2835 rfl rfl ?_
  refine law_arg (pc := 2836) (n := n) (j := 1) S hX 1 0 (by omega) hN (by decide) rfl rfl dL_law_2836 dL_law_2837 dL_law_2839 dL_law_2840 dL_law_2841 ?_
  refine s_aload_n (pc := 2842) S 4 dL_law_2842 rfl rfl ?_
  refine s_callSX (pc := 2843) S hz hml [.ref (A 0 0), .int (xs (7 * n + 1)), .ref (A 70 0)] (k_L_billByLog Z l A C hI (xs (7 * n + 1))  hfl) (vx_cwSW 3 S.2.2.2.2 gL_law_L_billByLog rfl rfl rfl (by decide +kernel) ⟨(Nat.le_of_ble_eq_true rfl), (Nat.le_of_ble_eq_true rfl)⟩) rfl rfl (Nat.le_of_ble_eq_true rfl) dL_law_2843 ⟨by omega, by omega⟩ (fun v A1 C1 h => ?_)
  obtain ⟨k, rfl, hW⟩ := h
  obtain ⟨w1, w3, hk3⟩ := w_billByLog hW
  have e6 : C1 60 = C 60 := w1 60 (by decide) (by decide)
  have e61 : C1 61 = C 61 := w1 61 (by decide) (by decide)
  have hO1 : OkM C1 := hI.2.1.cg e6 e61
  refine s_istore (pc := 2846) S ((6, .int (nI k)) :: Ll b n A) dL_law_2846 (by decide) rfl ?_
  refine s_loc (L2 := (6, .int (nI k)) :: Ll b n A1) (congrArg (List.cons _) (ll_st w3.1)) ?_
  refine s_aload_n (pc := 2848) S 4 dL_law_2848 rfl rfl ?_
  refine law_arg (pc := 2849) (n := n) (j := 1) S hX 2 1 (by omega) hN (by decide) rfl rfl dL_law_2849 dL_law_2850 dL_law_2852 dL_law_2853 dL_law_2854 ?_
  refine s_callV (pc := 2855) S hz hml [.int (xs (7 * n + 1))] (k_X7_billByLog Z l A1 C1 (xs (7 * n + 1))  hO1.1) (cwV 1 S.2.2.2.2 gL_law_X7_billByLog rfl rfl rfl (by decide +kernel) ⟨(Nat.le_of_ble_eq_true rfl), (Nat.le_of_ble_eq_true rfl)⟩) (cc_mod (A := A1) (C := C1)) rfl rfl rfl (Nat.le_of_ble_eq_true rfl) dL_law_2855 ⟨by omega, by omega⟩ (fun _ _ _ h => h.elim) (fun v A2 C2 h => ?_)
  have h7 : K7_billByLog A1 C1 (xs (7 * n + 1)) v A2 C2 := h
  obtain ⟨hB, b7, rfl, hv⟩ := ag_billByLog  hI hW h7
  refine s_lstore (pc := 2858) S ((7, .long b7) :: (6, .int (nI k)) :: Ll b n A1) dL_law_2858 (by decide) rfl ?_
  refine s_loc (L2 := (7, .long b7) :: (6, .int (nI k)) :: Ll b n A2) (congrArg (fun q => (7, .long b7) :: (6, .int (nI k)) :: q) ((ll_st w3.1).symm.trans (ll_st hB.2.2.1.1))) ?_
  obtain ⟨hL1, hc1, hs1⟩ := h0.next hB
  exact law_tlL (pc := 2860) S hz hml hB.1 hk3 hv ⟨by omega, by omega⟩ _ dL_law_2860 dL_law_2861 dL_law_2864 dL_law_2866 dL_law_2871 dL_law_2873 dL_law_2876 dL_law_2877 dL_law_2878 dL_law_2879 dL_law_2881 dL_law_2882 dL_law_2887 (by decide) (s_widen (by omega) (by omega) (kk A2 C2 hL1))
set_option maxHeartbeats 4000000 in
set_option maxRecDepth 100000 in
theorem lc_meanPages {Z : Zp} {p : Program} {l : Launch} {e : Env} {s : State} {m : MethodId} {args : Array Value} {below : List Frame} {meth : Method} {c : Code} {Q : State → Prop} {M0 : Wd} {A : AF} {C : CF} {b N n : Nat} {xs : Nat → Int32} (S : CallFix p m c cL_law 9 s args wsL_law RL) (hz : Stat Z s) (hml : c.maxLocals = 9) (hfl : l.stackTraces = false) (hX : Scr b N xs Z s) (hN : N ≤ 3584) (hn : 7 * n + 7 ≤ N) (h0 : LI Z n A C) (kk : ∀ (A2 : AF) (C2 : CF), LI Z (n + 1) A2 C2 → LGS Z p l e s m args below meth c Q (bC (n + 1) C2) (bS (n + 1) C2) M0 A2 C2 3146 (Ll b n A2) []) : LGS Z p l e s m args below meth c Q (bC n C) (bS n C) M0 A C 2890 (Ll b n A) [] := by
  have hI := h0.1
  obtain ⟨hcapC, hcapS⟩ := h0.cap (by omega)
  refine s_aload_n (pc := 2890) S 2 dL_law_2890 rfl rfl ?_
  refine s_aload (pc := 2891) S 5 dL_law_2891 rfl ?_
  refine s_callSX (pc := 2893) S hz hml [.ref (A 0 0), .ref (A 70 1)] (k_L_meanPages Z l A C hI   hfl) (vx_cwSW 2 S.2.2.2.2 gL_law_L_meanPages rfl rfl rfl (by decide +kernel) ⟨(Nat.le_of_ble_eq_true rfl), (Nat.le_of_ble_eq_true rfl)⟩) rfl rfl (Nat.le_of_ble_eq_true rfl) dL_law_2893 ⟨by omega, by omega⟩ (fun v A1 C1 h => ?_)
  obtain ⟨k, rfl, hW⟩ := h
  obtain ⟨w1, w3, hk3⟩ := w_meanPages hW
  have e6 : C1 60 = C 60 := w1 60 (by decide) (by decide)
  have e61 : C1 61 = C 61 := w1 61 (by decide) (by decide)
  have hO1 : OkM C1 := hI.2.1.cg e6 e61
  refine s_istore (pc := 2896) S ((6, .int (nI k)) :: Ll b n A) dL_law_2896 (by decide) rfl ?_
  refine s_loc (L2 := (6, .int (nI k)) :: Ll b n A1) (congrArg (List.cons _) (ll_st w3.1)) ?_
  refine s_aload_n (pc := 2898) S 4 dL_law_2898 rfl rfl ?_
  refine s_callV (pc := 2899) S hz hml [] (k_X7_meanPages Z l A1 C1   hO1.1) (cwV 0 S.2.2.2.2 gL_law_X7_meanPages rfl rfl rfl (by decide +kernel) ⟨(Nat.le_of_ble_eq_true rfl), (Nat.le_of_ble_eq_true rfl)⟩) (cc_mod (A := A1) (C := C1)) rfl rfl rfl (Nat.le_of_ble_eq_true rfl) dL_law_2899 ⟨by omega, by omega⟩ (fun _ _ _ h => h.elim) (fun v A2 C2 h => ?_)
  have h7 : K7_meanPages A1 C1 v A2 C2 := h
  obtain ⟨hB, b7, rfl, hv⟩ := ag_meanPages  hI hW h7
  refine s_dstore (pc := 2902) S ((7, .double b7) :: (6, .int (nI k)) :: Ll b n A1) dL_law_2902 (by decide) rfl ?_
  refine s_loc (L2 := (7, .double b7) :: (6, .int (nI k)) :: Ll b n A2) (congrArg (fun q => (7, .double b7) :: (6, .int (nI k)) :: q) ((ll_st w3.1).symm.trans (ll_st hB.2.2.1.1))) ?_
  obtain ⟨hL1, hc1, hs1⟩ := h0.next hB
  exact law_tlD (pc := 2904) S hz hml hB.1 hk3 hv ⟨by omega, by omega⟩ _ dL_law_2904 dL_law_2905 dL_law_2908 dL_law_2910 dL_law_2915 dL_law_2917 dL_law_2920 dL_law_2922 dL_law_2923 dL_law_2924 dL_law_2926 dL_law_2927 dL_law_2952 (by decide) (s_widen (by omega) (by omega) (kk A2 C2 hL1))
set_option maxHeartbeats 4000000 in
set_option maxRecDepth 100000 in
theorem lc_colourShare {Z : Zp} {p : Program} {l : Launch} {e : Env} {s : State} {m : MethodId} {args : Array Value} {below : List Frame} {meth : Method} {c : Code} {Q : State → Prop} {M0 : Wd} {A : AF} {C : CF} {b N n : Nat} {xs : Nat → Int32} (S : CallFix p m c cL_law 9 s args wsL_law RL) (hz : Stat Z s) (hml : c.maxLocals = 9) (hfl : l.stackTraces = false) (hX : Scr b N xs Z s) (hN : N ≤ 3584) (hn : 7 * n + 7 ≤ N) (h0 : LI Z n A C) (kk : ∀ (A2 : AF) (C2 : CF), LI Z (n + 1) A2 C2 → LGS Z p l e s m args below meth c Q (bC (n + 1) C2) (bS (n + 1) C2) M0 A2 C2 3146 (Ll b n A2) []) : LGS Z p l e s m args below meth c Q (bC n C) (bS n C) M0 A C 2955 (Ll b n A) [] := by
  have hI := h0.1
  obtain ⟨hcapC, hcapS⟩ := h0.cap (by omega)
  refine s_aload_n (pc := 2955) S 2 dL_law_2955 rfl rfl ?_
  refine s_aload (pc := 2956) S 5 dL_law_2956 rfl ?_
  refine s_callSX (pc := 2958) S hz hml [.ref (A 0 0), .ref (A 70 1)] (k_L_colourShare Z l A C hI   hfl) (vx_cwSW 2 S.2.2.2.2 gL_law_L_colourShare rfl rfl rfl (by decide +kernel) ⟨(Nat.le_of_ble_eq_true rfl), (Nat.le_of_ble_eq_true rfl)⟩) rfl rfl (Nat.le_of_ble_eq_true rfl) dL_law_2958 ⟨by omega, by omega⟩ (fun v A1 C1 h => ?_)
  obtain ⟨k, rfl, hW⟩ := h
  obtain ⟨w1, w3, hk3⟩ := w_colourShare hW
  have e6 : C1 60 = C 60 := w1 60 (by decide) (by decide)
  have e61 : C1 61 = C 61 := w1 61 (by decide) (by decide)
  have hO1 : OkM C1 := hI.2.1.cg e6 e61
  refine s_istore (pc := 2961) S ((6, .int (nI k)) :: Ll b n A) dL_law_2961 (by decide) rfl ?_
  refine s_loc (L2 := (6, .int (nI k)) :: Ll b n A1) (congrArg (List.cons _) (ll_st w3.1)) ?_
  refine s_aload_n (pc := 2963) S 4 dL_law_2963 rfl rfl ?_
  refine s_callV (pc := 2964) S hz hml [] (k_X7_colourShare Z l A1 C1   hO1.1) (cwV 0 S.2.2.2.2 gL_law_X7_colourShare rfl rfl rfl (by decide +kernel) ⟨(Nat.le_of_ble_eq_true rfl), (Nat.le_of_ble_eq_true rfl)⟩) (cc_mod (A := A1) (C := C1)) rfl rfl rfl (Nat.le_of_ble_eq_true rfl) dL_law_2964 ⟨by omega, by omega⟩ (fun _ _ _ h => h.elim) (fun v A2 C2 h => ?_)
  have h7 : K7_colourShare A1 C1 v A2 C2 := h
  obtain ⟨hB, b7, rfl, hv⟩ := ag_colourShare  hI hW h7
  refine s_fstore (pc := 2967) S ((7, .float b7) :: (6, .int (nI k)) :: Ll b n A1) dL_law_2967 (by decide) rfl ?_
  refine s_loc (L2 := (7, .float b7) :: (6, .int (nI k)) :: Ll b n A2) (congrArg (fun q => (7, .float b7) :: (6, .int (nI k)) :: q) ((ll_st w3.1).symm.trans (ll_st hB.2.2.1.1))) ?_
  obtain ⟨hL1, hc1, hs1⟩ := h0.next hB
  exact law_tlF (pc := 2969) S hz hml hB.1 hk3 hv ⟨by omega, by omega⟩ _ dL_law_2969 dL_law_2970 dL_law_2973 dL_law_2975 dL_law_2980 dL_law_2982 dL_law_2985 dL_law_2987 dL_law_2988 dL_law_2989 dL_law_2991 dL_law_2992 dL_law_2993 dL_law_3018 (by decide) (s_widen (by omega) (by omega) (kk A2 C2 hL1))
set_option maxHeartbeats 4000000 in
set_option maxRecDepth 100000 in
theorem lc_isConsistent {Z : Zp} {p : Program} {l : Launch} {e : Env} {s : State} {m : MethodId} {args : Array Value} {below : List Frame} {meth : Method} {c : Code} {Q : State → Prop} {M0 : Wd} {A : AF} {C : CF} {b N n : Nat} {xs : Nat → Int32} (S : CallFix p m c cL_law 9 s args wsL_law RL) (hz : Stat Z s) (hml : c.maxLocals = 9) (hfl : l.stackTraces = false) (hX : Scr b N xs Z s) (hN : N ≤ 3584) (hn : 7 * n + 7 ≤ N) (h0 : LI Z n A C) (kk : ∀ (A2 : AF) (C2 : CF), LI Z (n + 1) A2 C2 → LGS Z p l e s m args below meth c Q (bC (n + 1) C2) (bS (n + 1) C2) M0 A2 C2 3146 (Ll b n A2) []) : LGS Z p l e s m args below meth c Q (bC n C) (bS n C) M0 A C 3021 (Ll b n A) [] := by
  have hI := h0.1
  obtain ⟨hcapC, hcapS⟩ := h0.cap (by omega)
  refine s_aload_n (pc := 3021) S 2 dL_law_3021 rfl rfl ?_
  refine s_callV (pc := 3022) S hz hml [] (k_X6_isConsistent Z l A C C hI.1 hI.2.1 hI.2.2) (cwV 0 S.2.2.2.2 gL_law_X6_isConsistent rfl rfl rfl (by decide +kernel) ⟨(Nat.le_of_ble_eq_true rfl), (Nat.le_of_ble_eq_true rfl)⟩) (cc_farm (A := A) (C := C)) rfl rfl rfl (Nat.le_of_ble_eq_true rfl) dL_law_3022 ⟨by omega, by omega⟩ (fun _ _ _ h => h.elim) (fun v A2 C2 h => ?_)
  obtain ⟨rfl, rfl, rfl⟩ := h
  refine s_aload_n (pc := 3025) S 3 dL_law_3025 rfl rfl ?_
  refine s_callV (pc := 3026) S hz hml [] (k_X7_isConsistent Z l A C hI.2.1.1) (cwV 0 S.2.2.2.2 gL_law_X7_isConsistent rfl rfl rfl (by decide +kernel) ⟨(Nat.le_of_ble_eq_true rfl), (Nat.le_of_ble_eq_true rfl)⟩) (cc_mod (A := A) (C := C)) rfl rfl rfl (Nat.le_of_ble_eq_true rfl) dL_law_3026 ⟨by omega, by omega⟩ (fun _ _ _ h => h.elim) (fun v A2 C2 h => ?_)
  obtain ⟨rfl, rfl, rfl⟩ := h
  obtain ⟨h1, h2, h3⟩ := h0.next (agb_th hI (fun _ _ => rfl) rfl rfl 0 (St5.rf (A := A)))
  have hsl : C 4 0 2 = C 60 100 31 := hI.1.2.2.2.2.2.1.1
  have hlg := hI.2.1.2.1.2.2.2.2.2.2
  refine s_icmp_eqN (pc := 3029) S 3146 dL_law_3029 (by decide) (by omega) (by omega) (fun _ => ?_) (fun h => absurd rfl h)
  exact s_widen (by omega) (by omega) (kk A (up3 C 60 100 27 0) h1)
set_option maxHeartbeats 4000000 in
set_option maxRecDepth 100000 in
theorem lc_writeJob {Z : Zp} {p : Program} {l : Launch} {e : Env} {s : State} {m : MethodId} {args : Array Value} {below : List Frame} {meth : Method} {c : Code} {Q : State → Prop} {M0 : Wd} {A : AF} {C : CF} {b N n : Nat} {xs : Nat → Int32} (S : CallFix p m c cL_law 9 s args wsL_law RL) (hz : Stat Z s) (hml : c.maxLocals = 9) (hfl : l.stackTraces = false) (hX : Scr b N xs Z s) (hN : N ≤ 3584) (hn : 7 * n + 7 ≤ N) (h0 : LI Z n A C) (kk : ∀ (A2 : AF) (C2 : CF), LI Z (n + 1) A2 C2 → LGS Z p l e s m args below meth c Q (bC (n + 1) C2) (bS (n + 1) C2) M0 A2 C2 3146 (Ll b n A2) []) : LGS Z p l e s m args below meth c Q (bC n C) (bS n C) M0 A C 3034 (Ll b n A) [] := by
  have hI := h0.1
  obtain ⟨hcapC, hcapS⟩ := h0.cap (by omega)
  refine s_aload_n (pc := 3034) S 2 dL_law_3034 rfl rfl ?_
  refine law_arg (pc := 3035) (n := n) (j := 1) S hX 1 0 (by omega) hN (by decide) rfl rfl dL_law_3035 dL_law_3036 dL_law_3038 dL_law_3039 dL_law_3040 ?_
  refine s_aload_n (pc := 3041) S 4 dL_law_3041 rfl rfl ?_
  refine s_callSX (pc := 3042) S hz hml [.ref (A 0 0), .int (xs (7 * n + 1)), .ref (A 70 0)] (k_L_writeJob Z l A C hI (xs (7 * n + 1))  hfl) (vx_cwSW 3 S.2.2.2.2 gL_law_L_writeJob rfl rfl rfl (by decide +kernel) ⟨(Nat.le_of_ble_eq_true rfl), (Nat.le_of_ble_eq_true rfl)⟩) rfl rfl (Nat.le_of_ble_eq_true rfl) dL_law_3042 ⟨by omega, by omega⟩ (fun v A1 C1 h => ?_)
  obtain ⟨k, rfl, hW⟩ := h
  obtain ⟨w1, w3, hk3⟩ := w_writeJob hW
  have e6 : C1 60 = C 60 := w1 60 (by decide) (by decide)
  have e61 : C1 61 = C 61 := w1 61 (by decide) (by decide)
  have hO1 : OkM C1 := hI.2.1.cg e6 e61
  refine s_istore (pc := 3045) S ((6, .int (nI k)) :: Ll b n A) dL_law_3045 (by decide) rfl ?_
  refine s_loc (L2 := (6, .int (nI k)) :: Ll b n A1) (congrArg (List.cons _) (ll_st w3.1)) ?_
  refine s_aload_n (pc := 3047) S 4 dL_law_3047 rfl rfl ?_
  refine law_arg (pc := 3048) (n := n) (j := 1) S hX 2 1 (by omega) hN (by decide) rfl rfl dL_law_3048 dL_law_3049 dL_law_3051 dL_law_3052 dL_law_3053 ?_
  refine s_callV (pc := 3054) S hz hml [.int (xs (7 * n + 1))] (k_X7_writeJob Z l A1 C1 (xs (7 * n + 1))  hO1.1) (cwV 1 S.2.2.2.2 gL_law_X7_writeJob rfl rfl rfl (by decide +kernel) ⟨(Nat.le_of_ble_eq_true rfl), (Nat.le_of_ble_eq_true rfl)⟩) (cc_mod (A := A1) (C := C1)) rfl rfl rfl (Nat.le_of_ble_eq_true rfl) dL_law_3054 ⟨by omega, by omega⟩ (fun _ _ _ h => h.elim) (fun v A2 C2 h => ?_)
  have h7 : K7_writeJob A1 C1 (xs (7 * n + 1)) v A2 C2 := h
  obtain ⟨hB, b7, rfl, hv⟩ := ag_writeJob  hI hW h7
  refine s_istore (pc := 3057) S ((7, .int b7) :: (6, .int (nI k)) :: Ll b n A1) dL_law_3057 (by decide) rfl ?_
  refine s_loc (L2 := (7, .int b7) :: (6, .int (nI k)) :: Ll b n A2) (congrArg (fun q => (7, .int b7) :: (6, .int (nI k)) :: q) ((ll_st w3.1).symm.trans (ll_st hB.2.2.1.1))) ?_
  obtain ⟨hL1, hc1, hs1⟩ := h0.next hB
  exact law_tl (pc := 3059) S hz hml hB.1 hk3 hv ⟨by omega, by omega⟩ _ dL_law_3059 dL_law_3060 dL_law_3063 dL_law_3065 dL_law_3070 dL_law_3072 dL_law_3075 dL_law_3076 dL_law_3077 dL_law_3078 dL_law_3080 dL_law_3081 dL_law_3082 dL_law_3087 (by decide) (s_widen (by omega) (by omega) (kk A2 C2 hL1))
set_option maxHeartbeats 4000000 in
set_option maxRecDepth 100000 in
theorem lc_lineAt {Z : Zp} {p : Program} {l : Launch} {e : Env} {s : State} {m : MethodId} {args : Array Value} {below : List Frame} {meth : Method} {c : Code} {Q : State → Prop} {M0 : Wd} {A : AF} {C : CF} {b N n : Nat} {xs : Nat → Int32} (S : CallFix p m c cL_law 9 s args wsL_law RL) (hz : Stat Z s) (hml : c.maxLocals = 9) (hfl : l.stackTraces = false) (hX : Scr b N xs Z s) (hN : N ≤ 3584) (hn : 7 * n + 7 ≤ N) (h0 : LI Z n A C) (kk : ∀ (A2 : AF) (C2 : CF), LI Z (n + 1) A2 C2 → LGS Z p l e s m args below meth c Q (bC (n + 1) C2) (bS (n + 1) C2) M0 A2 C2 3146 (Ll b n A2) []) : LGS Z p l e s m args below meth c Q (bC n C) (bS n C) M0 A C 3090 (Ll b n A) [] := by
  have hI := h0.1
  obtain ⟨hcapC, hcapS⟩ := h0.cap (by omega)
  refine s_aload_n (pc := 3090) S 2 dL_law_3090 rfl rfl ?_
  refine law_arg (pc := 3091) (n := n) (j := 1) S hX 1 0 (by omega) hN (by decide) rfl rfl dL_law_3091 dL_law_3092 dL_law_3094 dL_law_3095 dL_law_3096 ?_
  refine s_aload_n (pc := 3097) S 4 dL_law_3097 rfl rfl ?_
  refine s_callSX (pc := 3098) S hz hml [.ref (A 0 0), .int (xs (7 * n + 1)), .ref (A 70 0)] (k_L_lineAt Z l A C hI (xs (7 * n + 1))  hfl) (vx_cwSW 3 S.2.2.2.2 gL_law_L_lineAt rfl rfl rfl (by decide +kernel) ⟨(Nat.le_of_ble_eq_true rfl), (Nat.le_of_ble_eq_true rfl)⟩) rfl rfl (Nat.le_of_ble_eq_true rfl) dL_law_3098 ⟨by omega, by omega⟩ (fun v A1 C1 h => ?_)
  obtain ⟨k, rfl, hW⟩ := h
  obtain ⟨w1, w3, hk3⟩ := w_lineAt hW
  have e6 : C1 60 = C 60 := w1 60 (by decide) (by decide)
  have e61 : C1 61 = C 61 := w1 61 (by decide) (by decide)
  have hO1 : OkM C1 := hI.2.1.cg e6 e61
  refine s_istore (pc := 3101) S ((6, .int (nI k)) :: Ll b n A) dL_law_3101 (by decide) rfl ?_
  refine s_loc (L2 := (6, .int (nI k)) :: Ll b n A1) (congrArg (List.cons _) (ll_st w3.1)) ?_
  refine s_aload_n (pc := 3103) S 4 dL_law_3103 rfl rfl ?_
  refine law_arg (pc := 3104) (n := n) (j := 1) S hX 2 1 (by omega) hN (by decide) rfl rfl dL_law_3104 dL_law_3105 dL_law_3107 dL_law_3108 dL_law_3109 ?_
  refine s_callV (pc := 3110) S hz hml [.int (xs (7 * n + 1))] (k_X7_lineAt Z l A1 C1 (xs (7 * n + 1))  (ln_ok hI e6 e61).1 (ln_ok hI e6 e61).2 hO1.1) (cwV 1 S.2.2.2.2 gL_law_X7_lineAt rfl rfl rfl (by decide +kernel) ⟨(Nat.le_of_ble_eq_true rfl), (Nat.le_of_ble_eq_true rfl)⟩) (cc_mod (A := A1) (C := C1)) rfl rfl rfl (Nat.le_of_ble_eq_true rfl) dL_law_3110 ⟨by omega, by omega⟩ (fun _ _ _ h => h.elim) (fun v A2 C2 h => ?_)
  have h7 : K7_lineAt A1 C1 (xs (7 * n + 1)) v A2 C2 := h
  obtain ⟨hB, b7, rfl, hv⟩ := ag_lineAt  hI hW h7
  refine s_istore (pc := 3113) S ((7, .int b7) :: (6, .int (nI k)) :: Ll b n A1) dL_law_3113 (by decide) rfl ?_
  refine s_loc (L2 := (7, .int b7) :: (6, .int (nI k)) :: Ll b n A2) (congrArg (fun q => (7, .int b7) :: (6, .int (nI k)) :: q) ((ll_st w3.1).symm.trans (ll_st hB.2.2.1.1))) ?_
  obtain ⟨hL1, hc1, hs1⟩ := h0.next hB
  exact law_tl (pc := 3115) S hz hml hB.1 hk3 hv ⟨by omega, by omega⟩ _ dL_law_3115 dL_law_3116 dL_law_3119 dL_law_3121 dL_law_3126 dL_law_3128 dL_law_3131 dL_law_3132 dL_law_3133 dL_law_3134 dL_law_3136 dL_law_3137 dL_law_3138 dL_law_3143 (by decide) (s_widen (by omega) (by omega) (kk A2 C2 hL1))
end LAWCASES
