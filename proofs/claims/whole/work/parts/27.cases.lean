/-! ===== the law, case by case ===== -/
theorem lc_thr (N : Nat) (R : Nat → Nat → Nat) (K : Nat → Nat → Int32) : f_X12_thrown N R 80 K = some (K 80 3, K) := by
  unfold f_X12_thrown sm_gd
  rw [if_pos kd_80]
section LC
variable {l : Launch} {xs : Nat → Int32} {Lx n i N : Nat} {Inv : sm_M → Prop} {v : Int64}
theorem lc_feed (hl : l.stackTraces = false) (hz : zo_feed N Inv) {σ : sm_M} (hI0 : Inv σ) (hi : i + 6 ≤ Lx) (h7 : n + 1 ≤ 600) (kk : ∀ τ v', Inv τ → lz_W l xs Lx (n + 1) 2591 [(0, .inr (.inl 5000)), (1, .inr (.inl 0)), (2, .inr (.inl 80)), (3, .inr (.inl 5001)), (4, .inl (nI i))] [] τ v') : lz_W l xs Lx n 236 [(0, .inr (.inl 5000)), (1, .inr (.inl 0)), (2, .inr (.inl 80)), (3, .inr (.inl 5001)), (4, .inl (nI i))] [] σ v := by
  obtain ⟨I, R⟩ := σ
  obtain ⟨r, J, K, g1, g2, hI⟩ := hz I R (xs (i + 1)) (xs (i + 2)) (xs (i + 3)) (xs (i + 4)) (xs (i + 5)) hI0
  have h1 := e_X11_feed (l := l) g1
  have h2 := e_X12_feed (l := l) g2
  refine lz_aload (q := 237) dL_law_236 rfl rfl 1 rfl ?_
  refine lz_arg (j := 1) dL_law_237 dL_law_238 dL_law_240 (by decide) dL_law_241 dL_law_242 (show 237 + 6 = 243 from rfl) 0 4 rfl rfl (by omega) ?_
  refine lz_arg (j := 2) dL_law_243 dL_law_244 dL_law_246 (by decide) dL_law_247 dL_law_248 (show 243 + 6 = 249 from rfl) 0 4 rfl rfl (by omega) ?_
  refine lz_arg (j := 3) dL_law_249 dL_law_250 dL_law_252 (by decide) dL_law_253 dL_law_254 (show 249 + 6 = 255 from rfl) 0 4 rfl rfl (by omega) ?_
  refine lz_arg (j := 4) dL_law_255 dL_law_256 dL_law_258 (by decide) dL_law_259 dL_law_260 (show 255 + 6 = 261 from rfl) 0 4 rfl rfl (by omega) ?_
  refine lz_arg (j := 5) dL_law_261 dL_law_262 dL_law_264 (by decide) dL_law_265 dL_law_266 (show 261 + 6 = 267 from rfl) 0 4 rfl rfl (by omega) ?_
  refine lz_callV (As := [.inl (xs (i + 1)), .inl (xs (i + 2)), .inl (xs (i + 3)), .inl (xs (i + 4)), .inl (xs (i + 5))]) (S := []) (q := 270) h1 mv_L_122 kd_0 rfl (by decide) (Nat.le_of_ble_eq_true rfl) dL_law_267 rfl ?_
  refine lz_aload (q := 271) dL_law_270 rfl rfl 2 rfl ?_
  refine lz_arg (j := 1) dL_law_271 dL_law_272 dL_law_274 (by decide) dL_law_275 dL_law_276 (show 271 + 6 = 277 from rfl) 0 4 rfl rfl (by omega) ?_
  refine lz_arg (j := 2) dL_law_277 dL_law_278 dL_law_280 (by decide) dL_law_281 dL_law_282 (show 277 + 6 = 283 from rfl) 0 4 rfl rfl (by omega) ?_
  refine lz_arg (j := 3) dL_law_283 dL_law_284 dL_law_286 (by decide) dL_law_287 dL_law_288 (show 283 + 6 = 289 from rfl) 0 4 rfl rfl (by omega) ?_
  refine lz_arg (j := 4) dL_law_289 dL_law_290 dL_law_292 (by decide) dL_law_293 dL_law_294 (show 289 + 6 = 295 from rfl) 0 4 rfl rfl (by omega) ?_
  refine lz_arg (j := 5) dL_law_295 dL_law_296 dL_law_298 (by decide) dL_law_299 dL_law_300 (show 295 + 6 = 301 from rfl) 0 4 rfl rfl (by omega) ?_
  refine lz_callV (As := [.inl (xs (i + 1)), .inl (xs (i + 2)), .inl (xs (i + 3)), .inl (xs (i + 4)), .inl (xs (i + 5))]) (S := [.inl r]) (q := 304) h2 mv_L_126 kd_80 rfl (by decide) (Nat.le_of_ble_eq_true rfl) dL_law_301 rfl ?_
  refine lz_icmpeq (tgt := 2591) dL_law_304 (by decide) rfl ?_
  exact lz_widen (by omega) h7 (kk _ _ hI)
theorem lc_school (hl : l.stackTraces = false) (hz : zo_school N Inv) {σ : sm_M} (hI0 : Inv σ) (hi : i + 6 ≤ Lx) (h7 : n + 1 ≤ 600) (kk : ∀ τ v', Inv τ → lz_W l xs Lx (n + 1) 2591 [(0, .inr (.inl 5000)), (1, .inr (.inl 0)), (2, .inr (.inl 80)), (3, .inr (.inl 5001)), (4, .inl (nI i))] [] τ v') : lz_W l xs Lx n 309 [(0, .inr (.inl 5000)), (1, .inr (.inl 0)), (2, .inr (.inl 80)), (3, .inr (.inl 5001)), (4, .inl (nI i))] [] σ v := by
  obtain ⟨y, ⟨J, R⟩, r, K, g1, g2, ⟨ha, hb⟩, hI⟩ := hz σ (xs (i + 1)) hI0
  obtain ⟨v', mc, ms, hmc, hms, hv, hE⟩ := wk_school (v := v) hl g1 ha
  have h2 := e_X12_school (l := l) g2
  have h3 := e_X12_thrown (l := l) (N := N) (R := R) (a0 := 80) (I := K) (y := (K 80 3, K)) (lc_thr N R K)
  have hlong : K 80 3 = 0 → r.toInt64 = v' := fun h9 => by
    rcases y with z | E
    · rw [hb z rfl, hv z rfl]
    · rcases ha with ⟨-, q1, q2⟩ | ⟨-, q1, q2⟩
      · exact absurd (q2.symm.trans h9) q1
      · exact absurd (q2.symm.trans h9) q1
  refine lz_aload (q := 310) dL_law_309 rfl rfl 1 rfl ?_
  refine lz_arg (j := 1) dL_law_310 dL_law_311 dL_law_313 (by decide) dL_law_314 dL_law_315 (show 310 + 6 = 316 from rfl) 0 4 rfl rfl (by omega) ?_
  refine lz_aload (q := 317) dL_law_316 rfl rfl 3 rfl ?_
  refine lz_callW (As := [.inr (.inl 0), .inl (xs (i + 1)), .inr (.inl 5001)]) (S := []) (q := 320) hE ls_school rfl hmc hms (Nat.le_of_ble_eq_true rfl) dL_law_317 rfl ?_ (by omega)
  refine lz_istore (q := 322) (L' := (5, .inl (K 80 3)) :: [(0, .inr (.inl 5000)), (1, .inr (.inl 0)), (2, .inr (.inl 80)), (3, .inr (.inl 5001)), (4, .inl (nI i))]) dL_law_320 rfl (by decide) rfl ?_
  refine lz_aload (q := 323) dL_law_322 rfl rfl 3 rfl ?_
  refine lz_arg (j := 1) dL_law_323 dL_law_324 dL_law_326 (by decide) dL_law_327 dL_law_328 (show 323 + 6 = 329 from rfl) 1 5 rfl rfl (by omega) ?_
  refine lz_callV (As := [.inl (xs (i + 1))]) (S := []) (q := 332) h2 mv_L_132 kd_80 rfl (by decide) (Nat.le_of_ble_eq_true rfl) dL_law_329 rfl ?_
  refine lz_istore (q := 334) (L' := (6, .inl r) :: (5, .inl (K 80 3)) :: [(0, .inr (.inl 5000)), (1, .inr (.inl 0)), (2, .inr (.inl 80)), (3, .inr (.inl 5001)), (4, .inl (nI i))]) dL_law_332 rfl (by decide) rfl ?_
  refine lz_aload (q := 335) dL_law_334 rfl rfl 4 rfl ?_
  refine lz_callV (As := []) (S := []) (q := 338) h3 mv_L_133 kd_80 rfl (by decide) (Nat.le_of_ble_eq_true rfl) dL_law_335 rfl ?_
  refine lz_iload (q := 340) dL_law_338 rfl 1 rfl ?_
  refine lz_icmpeq (tgt := 345) dL_law_340 (by decide) rfl ?_
  refine lz_iload (q := 347) dL_law_345 rfl 1 rfl ?_
  refine lz_ifne (tgt := 362) (q := 350) dL_law_347 (by decide) rfl (fun h9 => ?_) (fun h9 => ?_)
  · refine lz_goto (q := 2591) dL_law_362 (by decide) ?_
    refine lz_pick [2, 3, 4, 5, 6] rfl ?_
    exact kk _ _ hI
  · refine lz_long (x := r) 5 0 dL_law_350 dL_law_351 dL_law_352 dL_law_353 dL_law_355 dL_law_356 dL_law_357 rfl rfl (hlong h9) ?_
    refine lz_goto (q := 2591) dL_law_362 (by decide) ?_
    refine lz_pick [2, 3, 4, 5, 6] rfl ?_
    exact kk _ _ hI
theorem lc_fault (hl : l.stackTraces = false) (hz : zo_fault N Inv) {σ : sm_M} (hI0 : Inv σ) (hi : i + 6 ≤ Lx) (h7 : n + 1 ≤ 600) (kk : ∀ τ v', Inv τ → lz_W l xs Lx (n + 1) 2591 [(0, .inr (.inl 5000)), (1, .inr (.inl 0)), (2, .inr (.inl 80)), (3, .inr (.inl 5001)), (4, .inl (nI i))] [] τ v') : lz_W l xs Lx n 365 [(0, .inr (.inl 5000)), (1, .inr (.inl 0)), (2, .inr (.inl 80)), (3, .inr (.inl 5001)), (4, .inl (nI i))] [] σ v := by
  obtain ⟨I, R⟩ := σ
  obtain ⟨r, J, K, g1, g2, hI⟩ := hz I R  hI0
  have h1 := e_X11_fault (l := l) g1
  have h2 := e_X12_fault (l := l) g2
  refine lz_aload (q := 366) dL_law_365 rfl rfl 1 rfl ?_
  refine lz_callV (As := []) (S := []) (q := 369) h1 mv_L_137 kd_0 rfl (by decide) (Nat.le_of_ble_eq_true rfl) dL_law_366 rfl ?_
  refine lz_aload (q := 370) dL_law_369 rfl rfl 2 rfl ?_
  refine lz_callV (As := []) (S := [.inl r]) (q := 373) h2 mv_L_140 kd_80 rfl (by decide) (Nat.le_of_ble_eq_true rfl) dL_law_370 rfl ?_
  refine lz_icmpeq (tgt := 2591) dL_law_373 (by decide) rfl ?_
  exact lz_widen (by omega) h7 (kk _ _ hI)
theorem lc_count (hl : l.stackTraces = false) (hz : zo_count N Inv) {σ : sm_M} (hI0 : Inv σ) (hi : i + 6 ≤ Lx) (h7 : n + 1 ≤ 600) (kk : ∀ τ v', Inv τ → lz_W l xs Lx (n + 1) 2591 [(0, .inr (.inl 5000)), (1, .inr (.inl 0)), (2, .inr (.inl 80)), (3, .inr (.inl 5001)), (4, .inl (nI i))] [] τ v') : lz_W l xs Lx n 378 [(0, .inr (.inl 5000)), (1, .inr (.inl 0)), (2, .inr (.inl 80)), (3, .inr (.inl 5001)), (4, .inl (nI i))] [] σ v := by
  obtain ⟨I, R⟩ := σ
  obtain ⟨y, J, r, K, g1, g2, ⟨ha, hb⟩, hI⟩ := hz I R (xs (i + 1)) hI0
  obtain ⟨v', mc, ms, hmc, hms, hv, hE⟩ := wk_count (v := v) hl g1 ha
  have h2 := e_X12_count (l := l) g2
  have h3 := e_X12_thrown (l := l) (N := N) (R := R) (a0 := 80) (I := K) (y := (K 80 3, K)) (lc_thr N R K)
  have hlong : K 80 3 = 0 → r.toInt64 = v' := fun h9 => by
    rcases y with z | E
    · rw [hb z rfl, hv z rfl]
    · rcases ha with ⟨-, q1, q2⟩ | ⟨-, q1, q2⟩
      · exact absurd (q2.symm.trans h9) q1
      · exact absurd (q2.symm.trans h9) q1
  refine lz_aload (q := 379) dL_law_378 rfl rfl 1 rfl ?_
  refine lz_arg (j := 1) dL_law_379 dL_law_380 dL_law_382 (by decide) dL_law_383 dL_law_384 (show 379 + 6 = 385 from rfl) 0 4 rfl rfl (by omega) ?_
  refine lz_aload (q := 386) dL_law_385 rfl rfl 3 rfl ?_
  refine lz_callW (As := [.inr (.inl 0), .inl (xs (i + 1)), .inr (.inl 5001)]) (S := []) (q := 389) hE ls_count rfl hmc hms (Nat.le_of_ble_eq_true rfl) dL_law_386 rfl ?_ (by omega)
  refine lz_istore (q := 391) (L' := (5, .inl (K 80 3)) :: [(0, .inr (.inl 5000)), (1, .inr (.inl 0)), (2, .inr (.inl 80)), (3, .inr (.inl 5001)), (4, .inl (nI i))]) dL_law_389 rfl (by decide) rfl ?_
  refine lz_aload (q := 392) dL_law_391 rfl rfl 3 rfl ?_
  refine lz_arg (j := 1) dL_law_392 dL_law_393 dL_law_395 (by decide) dL_law_396 dL_law_397 (show 392 + 6 = 398 from rfl) 1 5 rfl rfl (by omega) ?_
  refine lz_callV (As := [.inl (xs (i + 1))]) (S := []) (q := 401) h2 mv_L_143 kd_80 rfl (by decide) (Nat.le_of_ble_eq_true rfl) dL_law_398 rfl ?_
  refine lz_istore (q := 403) (L' := (6, .inl r) :: (5, .inl (K 80 3)) :: [(0, .inr (.inl 5000)), (1, .inr (.inl 0)), (2, .inr (.inl 80)), (3, .inr (.inl 5001)), (4, .inl (nI i))]) dL_law_401 rfl (by decide) rfl ?_
  refine lz_aload (q := 404) dL_law_403 rfl rfl 4 rfl ?_
  refine lz_callV (As := []) (S := []) (q := 407) h3 mv_L_133 kd_80 rfl (by decide) (Nat.le_of_ble_eq_true rfl) dL_law_404 rfl ?_
  refine lz_iload (q := 409) dL_law_407 rfl 1 rfl ?_
  refine lz_icmpeq (tgt := 414) dL_law_409 (by decide) rfl ?_
  refine lz_iload (q := 416) dL_law_414 rfl 1 rfl ?_
  refine lz_ifne (tgt := 431) (q := 419) dL_law_416 (by decide) rfl (fun h9 => ?_) (fun h9 => ?_)
  · refine lz_goto (q := 2591) dL_law_431 (by decide) ?_
    refine lz_pick [2, 3, 4, 5, 6] rfl ?_
    exact kk _ _ hI
  · refine lz_long (x := r) 5 0 dL_law_419 dL_law_420 dL_law_421 dL_law_422 dL_law_424 dL_law_425 dL_law_426 rfl rfl (hlong h9) ?_
    refine lz_goto (q := 2591) dL_law_431 (by decide) ?_
    refine lz_pick [2, 3, 4, 5, 6] rfl ?_
    exact kk _ _ hI
theorem lc_piece (hl : l.stackTraces = false) (hz : zo_piece N Inv) {σ : sm_M} (hI0 : Inv σ) (hi : i + 6 ≤ Lx) (h7 : n + 1 ≤ 600) (kk : ∀ τ v', Inv τ → lz_W l xs Lx (n + 1) 2591 [(0, .inr (.inl 5000)), (1, .inr (.inl 0)), (2, .inr (.inl 80)), (3, .inr (.inl 5001)), (4, .inl (nI i))] [] τ v') : lz_W l xs Lx n 434 [(0, .inr (.inl 5000)), (1, .inr (.inl 0)), (2, .inr (.inl 80)), (3, .inr (.inl 5001)), (4, .inl (nI i))] [] σ v := by
  obtain ⟨I, R⟩ := σ
  obtain ⟨y, J, r, K, g1, g2, ⟨ha, hb⟩, hI⟩ := hz I R (xs (i + 1)) (xs (i + 2)) hI0
  obtain ⟨v', mc, ms, hmc, hms, hv, hE⟩ := wk_piece (v := v) hl g1 ha
  have h2 := e_X12_piece (l := l) g2
  have h3 := e_X12_thrown (l := l) (N := N) (R := R) (a0 := 80) (I := K) (y := (K 80 3, K)) (lc_thr N R K)
  have hlong : K 80 3 = 0 → r.toInt64 = v' := fun h9 => by
    rcases y with z | E
    · rw [hb z rfl, hv z rfl]
    · rcases ha with ⟨-, q1, q2⟩ | ⟨-, q1, q2⟩
      · exact absurd (q2.symm.trans h9) q1
      · exact absurd (q2.symm.trans h9) q1
  refine lz_aload (q := 435) dL_law_434 rfl rfl 1 rfl ?_
  refine lz_arg (j := 1) dL_law_435 dL_law_436 dL_law_438 (by decide) dL_law_439 dL_law_440 (show 435 + 6 = 441 from rfl) 0 4 rfl rfl (by omega) ?_
  refine lz_arg (j := 2) dL_law_441 dL_law_442 dL_law_444 (by decide) dL_law_445 dL_law_446 (show 441 + 6 = 447 from rfl) 0 4 rfl rfl (by omega) ?_
  refine lz_aload (q := 448) dL_law_447 rfl rfl 3 rfl ?_
  refine lz_callW (As := [.inr (.inl 0), .inl (xs (i + 1)), .inl (xs (i + 2)), .inr (.inl 5001)]) (S := []) (q := 451) hE ls_piece rfl hmc hms (Nat.le_of_ble_eq_true rfl) dL_law_448 rfl ?_ (by omega)
  refine lz_istore (q := 453) (L' := (5, .inl (K 80 3)) :: [(0, .inr (.inl 5000)), (1, .inr (.inl 0)), (2, .inr (.inl 80)), (3, .inr (.inl 5001)), (4, .inl (nI i))]) dL_law_451 rfl (by decide) rfl ?_
  refine lz_aload (q := 454) dL_law_453 rfl rfl 3 rfl ?_
  refine lz_arg (j := 1) dL_law_454 dL_law_455 dL_law_457 (by decide) dL_law_458 dL_law_459 (show 454 + 6 = 460 from rfl) 1 5 rfl rfl (by omega) ?_
  refine lz_arg (j := 2) dL_law_460 dL_law_461 dL_law_463 (by decide) dL_law_464 dL_law_465 (show 460 + 6 = 466 from rfl) 1 5 rfl rfl (by omega) ?_
  refine lz_callV (As := [.inl (xs (i + 1)), .inl (xs (i + 2))]) (S := []) (q := 469) h2 mv_L_147 kd_80 rfl (by decide) (Nat.le_of_ble_eq_true rfl) dL_law_466 rfl ?_
  refine lz_istore (q := 471) (L' := (6, .inl r) :: (5, .inl (K 80 3)) :: [(0, .inr (.inl 5000)), (1, .inr (.inl 0)), (2, .inr (.inl 80)), (3, .inr (.inl 5001)), (4, .inl (nI i))]) dL_law_469 rfl (by decide) rfl ?_
  refine lz_aload (q := 472) dL_law_471 rfl rfl 4 rfl ?_
  refine lz_callV (As := []) (S := []) (q := 475) h3 mv_L_133 kd_80 rfl (by decide) (Nat.le_of_ble_eq_true rfl) dL_law_472 rfl ?_
  refine lz_iload (q := 477) dL_law_475 rfl 1 rfl ?_
  refine lz_icmpeq (tgt := 482) dL_law_477 (by decide) rfl ?_
  refine lz_iload (q := 484) dL_law_482 rfl 1 rfl ?_
  refine lz_ifne (tgt := 499) (q := 487) dL_law_484 (by decide) rfl (fun h9 => ?_) (fun h9 => ?_)
  · refine lz_goto (q := 2591) dL_law_499 (by decide) ?_
    refine lz_pick [2, 3, 4, 5, 6] rfl ?_
    exact kk _ _ hI
  · refine lz_long (x := r) 5 0 dL_law_487 dL_law_488 dL_law_489 dL_law_490 dL_law_492 dL_law_493 dL_law_494 rfl rfl (hlong h9) ?_
    refine lz_goto (q := 2591) dL_law_499 (by decide) ?_
    refine lz_pick [2, 3, 4, 5, 6] rfl ?_
    exact kk _ _ hI
theorem lc_bar (hl : l.stackTraces = false) (hz : zo_bar N Inv) {σ : sm_M} (hI0 : Inv σ) (hi : i + 6 ≤ Lx) (h7 : n + 1 ≤ 600) (kk : ∀ τ v', Inv τ → lz_W l xs Lx (n + 1) 2591 [(0, .inr (.inl 5000)), (1, .inr (.inl 0)), (2, .inr (.inl 80)), (3, .inr (.inl 5001)), (4, .inl (nI i))] [] τ v') : lz_W l xs Lx n 502 [(0, .inr (.inl 5000)), (1, .inr (.inl 0)), (2, .inr (.inl 80)), (3, .inr (.inl 5001)), (4, .inl (nI i))] [] σ v := by
  obtain ⟨I, R⟩ := σ
  obtain ⟨y, J, r, K, g1, g2, ⟨ha, hb⟩, hI⟩ := hz I R (xs (i + 1)) (xs (i + 2)) hI0
  obtain ⟨v', mc, ms, hmc, hms, hv, hE⟩ := wk_bar (v := v) hl g1 ha
  have h2 := e_X12_bar (l := l) g2
  have h3 := e_X12_thrown (l := l) (N := N) (R := R) (a0 := 80) (I := K) (y := (K 80 3, K)) (lc_thr N R K)
  have hlong : K 80 3 = 0 → r.toInt64 = v' := fun h9 => by
    rcases y with z | E
    · rw [hb z rfl, hv z rfl]
    · rcases ha with ⟨-, q1, q2⟩ | ⟨-, q1, q2⟩
      · exact absurd (q2.symm.trans h9) q1
      · exact absurd (q2.symm.trans h9) q1
  refine lz_aload (q := 503) dL_law_502 rfl rfl 1 rfl ?_
  refine lz_arg (j := 1) dL_law_503 dL_law_504 dL_law_506 (by decide) dL_law_507 dL_law_508 (show 503 + 6 = 509 from rfl) 0 4 rfl rfl (by omega) ?_
  refine lz_arg (j := 2) dL_law_509 dL_law_510 dL_law_512 (by decide) dL_law_513 dL_law_514 (show 509 + 6 = 515 from rfl) 0 4 rfl rfl (by omega) ?_
  refine lz_aload (q := 516) dL_law_515 rfl rfl 3 rfl ?_
  refine lz_callW (As := [.inr (.inl 0), .inl (xs (i + 1)), .inl (xs (i + 2)), .inr (.inl 5001)]) (S := []) (q := 519) hE ls_bar rfl hmc hms (Nat.le_of_ble_eq_true rfl) dL_law_516 rfl ?_ (by omega)
  refine lz_istore (q := 521) (L' := (5, .inl (K 80 3)) :: [(0, .inr (.inl 5000)), (1, .inr (.inl 0)), (2, .inr (.inl 80)), (3, .inr (.inl 5001)), (4, .inl (nI i))]) dL_law_519 rfl (by decide) rfl ?_
  refine lz_aload (q := 522) dL_law_521 rfl rfl 3 rfl ?_
  refine lz_arg (j := 1) dL_law_522 dL_law_523 dL_law_525 (by decide) dL_law_526 dL_law_527 (show 522 + 6 = 528 from rfl) 1 5 rfl rfl (by omega) ?_
  refine lz_arg (j := 2) dL_law_528 dL_law_529 dL_law_531 (by decide) dL_law_532 dL_law_533 (show 528 + 6 = 534 from rfl) 1 5 rfl rfl (by omega) ?_
  refine lz_callV (As := [.inl (xs (i + 1)), .inl (xs (i + 2))]) (S := []) (q := 537) h2 mv_L_150 kd_80 rfl (by decide) (Nat.le_of_ble_eq_true rfl) dL_law_534 rfl ?_
  refine lz_istore (q := 539) (L' := (6, .inl r) :: (5, .inl (K 80 3)) :: [(0, .inr (.inl 5000)), (1, .inr (.inl 0)), (2, .inr (.inl 80)), (3, .inr (.inl 5001)), (4, .inl (nI i))]) dL_law_537 rfl (by decide) rfl ?_
  refine lz_aload (q := 540) dL_law_539 rfl rfl 4 rfl ?_
  refine lz_callV (As := []) (S := []) (q := 543) h3 mv_L_133 kd_80 rfl (by decide) (Nat.le_of_ble_eq_true rfl) dL_law_540 rfl ?_
  refine lz_iload (q := 545) dL_law_543 rfl 1 rfl ?_
  refine lz_icmpeq (tgt := 550) dL_law_545 (by decide) rfl ?_
  refine lz_iload (q := 552) dL_law_550 rfl 1 rfl ?_
  refine lz_ifne (tgt := 567) (q := 555) dL_law_552 (by decide) rfl (fun h9 => ?_) (fun h9 => ?_)
  · refine lz_goto (q := 2591) dL_law_567 (by decide) ?_
    refine lz_pick [2, 3, 4, 5, 6] rfl ?_
    exact kk _ _ hI
  · refine lz_long (x := r) 5 0 dL_law_555 dL_law_556 dL_law_557 dL_law_558 dL_law_560 dL_law_561 dL_law_562 rfl rfl (hlong h9) ?_
    refine lz_goto (q := 2591) dL_law_567 (by decide) ?_
    refine lz_pick [2, 3, 4, 5, 6] rfl ?_
    exact kk _ _ hI
theorem lc_pupil (hl : l.stackTraces = false) (hz : zo_pupil N Inv) {σ : sm_M} (hI0 : Inv σ) (hi : i + 6 ≤ Lx) (h7 : n + 1 ≤ 600) (kk : ∀ τ v', Inv τ → lz_W l xs Lx (n + 1) 2591 [(0, .inr (.inl 5000)), (1, .inr (.inl 0)), (2, .inr (.inl 80)), (3, .inr (.inl 5001)), (4, .inl (nI i))] [] τ v') : lz_W l xs Lx n 570 [(0, .inr (.inl 5000)), (1, .inr (.inl 0)), (2, .inr (.inl 80)), (3, .inr (.inl 5001)), (4, .inl (nI i))] [] σ v := by
  obtain ⟨I, R⟩ := σ
  obtain ⟨y, J, r, K, g1, g2, ⟨ha, hb⟩, hI⟩ := hz I R (xs (i + 1)) (xs (i + 2)) hI0
  obtain ⟨v', mc, ms, hmc, hms, hv, hE⟩ := wk_pupil (v := v) hl g1 ha
  have h2 := e_X12_pupil (l := l) g2
  have h3 := e_X12_thrown (l := l) (N := N) (R := R) (a0 := 80) (I := K) (y := (K 80 3, K)) (lc_thr N R K)
  have hlong : K 80 3 = 0 → r.toInt64 = v' := fun h9 => by
    rcases y with z | E
    · rw [hb z rfl, hv z rfl]
    · rcases ha with ⟨-, q1, q2⟩ | ⟨-, q1, q2⟩
      · exact absurd (q2.symm.trans h9) q1
      · exact absurd (q2.symm.trans h9) q1
  refine lz_aload (q := 571) dL_law_570 rfl rfl 1 rfl ?_
  refine lz_arg (j := 1) dL_law_571 dL_law_572 dL_law_574 (by decide) dL_law_575 dL_law_576 (show 571 + 6 = 577 from rfl) 0 4 rfl rfl (by omega) ?_
  refine lz_arg (j := 2) dL_law_577 dL_law_578 dL_law_580 (by decide) dL_law_581 dL_law_582 (show 577 + 6 = 583 from rfl) 0 4 rfl rfl (by omega) ?_
  refine lz_aload (q := 584) dL_law_583 rfl rfl 3 rfl ?_
  refine lz_callW (As := [.inr (.inl 0), .inl (xs (i + 1)), .inl (xs (i + 2)), .inr (.inl 5001)]) (S := []) (q := 587) hE ls_pupil rfl hmc hms (Nat.le_of_ble_eq_true rfl) dL_law_584 rfl ?_ (by omega)
  refine lz_istore (q := 589) (L' := (5, .inl (K 80 3)) :: [(0, .inr (.inl 5000)), (1, .inr (.inl 0)), (2, .inr (.inl 80)), (3, .inr (.inl 5001)), (4, .inl (nI i))]) dL_law_587 rfl (by decide) rfl ?_
  refine lz_aload (q := 590) dL_law_589 rfl rfl 3 rfl ?_
  refine lz_arg (j := 1) dL_law_590 dL_law_591 dL_law_593 (by decide) dL_law_594 dL_law_595 (show 590 + 6 = 596 from rfl) 1 5 rfl rfl (by omega) ?_
  refine lz_arg (j := 2) dL_law_596 dL_law_597 dL_law_599 (by decide) dL_law_600 dL_law_601 (show 596 + 6 = 602 from rfl) 1 5 rfl rfl (by omega) ?_
  refine lz_callV (As := [.inl (xs (i + 1)), .inl (xs (i + 2))]) (S := []) (q := 605) h2 mv_L_153 kd_80 rfl (by decide) (Nat.le_of_ble_eq_true rfl) dL_law_602 rfl ?_
  refine lz_istore (q := 607) (L' := (6, .inl r) :: (5, .inl (K 80 3)) :: [(0, .inr (.inl 5000)), (1, .inr (.inl 0)), (2, .inr (.inl 80)), (3, .inr (.inl 5001)), (4, .inl (nI i))]) dL_law_605 rfl (by decide) rfl ?_
  refine lz_aload (q := 608) dL_law_607 rfl rfl 4 rfl ?_
  refine lz_callV (As := []) (S := []) (q := 611) h3 mv_L_133 kd_80 rfl (by decide) (Nat.le_of_ble_eq_true rfl) dL_law_608 rfl ?_
  refine lz_iload (q := 613) dL_law_611 rfl 1 rfl ?_
  refine lz_icmpeq (tgt := 618) dL_law_613 (by decide) rfl ?_
  refine lz_iload (q := 620) dL_law_618 rfl 1 rfl ?_
  refine lz_ifne (tgt := 635) (q := 623) dL_law_620 (by decide) rfl (fun h9 => ?_) (fun h9 => ?_)
  · refine lz_goto (q := 2591) dL_law_635 (by decide) ?_
    refine lz_pick [2, 3, 4, 5, 6] rfl ?_
    exact kk _ _ hI
  · refine lz_long (x := r) 5 0 dL_law_623 dL_law_624 dL_law_625 dL_law_626 dL_law_628 dL_law_629 dL_law_630 rfl rfl (hlong h9) ?_
    refine lz_goto (q := 2591) dL_law_635 (by decide) ?_
    refine lz_pick [2, 3, 4, 5, 6] rfl ?_
    exact kk _ _ hI
theorem lc_weeks (hl : l.stackTraces = false) (hz : zo_weeks N Inv) {σ : sm_M} (hI0 : Inv σ) (hi : i + 6 ≤ Lx) (h7 : n + 1 ≤ 600) (kk : ∀ τ v', Inv τ → lz_W l xs Lx (n + 1) 2591 [(0, .inr (.inl 5000)), (1, .inr (.inl 0)), (2, .inr (.inl 80)), (3, .inr (.inl 5001)), (4, .inl (nI i))] [] τ v') : lz_W l xs Lx n 638 [(0, .inr (.inl 5000)), (1, .inr (.inl 0)), (2, .inr (.inl 80)), (3, .inr (.inl 5001)), (4, .inl (nI i))] [] σ v := by
  obtain ⟨I, R⟩ := σ
  obtain ⟨r, J, K, g1, g2, hI⟩ := hz I R (xs (i + 1)) hI0
  have h1 := e_X11_weeks (l := l) g1
  have h2 := e_X12_weeks (l := l) g2
  refine lz_aload (q := 639) dL_law_638 rfl rfl 1 rfl ?_
  refine lz_arg (j := 1) dL_law_639 dL_law_640 dL_law_642 (by decide) dL_law_643 dL_law_644 (show 639 + 6 = 645 from rfl) 0 4 rfl rfl (by omega) ?_
  refine lz_callV (As := [.inl (xs (i + 1))]) (S := []) (q := 648) h1 mv_L_154 kd_0 rfl (by decide) (Nat.le_of_ble_eq_true rfl) dL_law_645 rfl ?_
  refine lz_aload (q := 649) dL_law_648 rfl rfl 2 rfl ?_
  refine lz_arg (j := 1) dL_law_649 dL_law_650 dL_law_652 (by decide) dL_law_653 dL_law_654 (show 649 + 6 = 655 from rfl) 0 4 rfl rfl (by omega) ?_
  refine lz_callV (As := [.inl (xs (i + 1))]) (S := [.inl r]) (q := 658) h2 mv_L_157 kd_80 rfl (by decide) (Nat.le_of_ble_eq_true rfl) dL_law_655 rfl ?_
  refine lz_icmpeq (tgt := 2591) dL_law_658 (by decide) rfl ?_
  exact lz_widen (by omega) h7 (kk _ _ hI)
theorem lc_door (hl : l.stackTraces = false) (hz : zo_door N Inv) {σ : sm_M} (hI0 : Inv σ) (hi : i + 6 ≤ Lx) (h7 : n + 1 ≤ 600) (kk : ∀ τ v', Inv τ → lz_W l xs Lx (n + 1) 2591 [(0, .inr (.inl 5000)), (1, .inr (.inl 0)), (2, .inr (.inl 80)), (3, .inr (.inl 5001)), (4, .inl (nI i))] [] τ v') : lz_W l xs Lx n 663 [(0, .inr (.inl 5000)), (1, .inr (.inl 0)), (2, .inr (.inl 80)), (3, .inr (.inl 5001)), (4, .inl (nI i))] [] σ v := by
  obtain ⟨I, R⟩ := σ
  obtain ⟨y, J, r, K, g1, g2, ⟨ha, hb⟩, hI⟩ := hz I R (xs (i + 1)) (xs (i + 2)) hI0
  obtain ⟨v', mc, ms, hmc, hms, hv, hE⟩ := wk_door (v := v) hl g1 ha
  have h2 := e_X12_door (l := l) g2
  have h3 := e_X12_thrown (l := l) (N := N) (R := R) (a0 := 80) (I := K) (y := (K 80 3, K)) (lc_thr N R K)
  have hlong : K 80 3 = 0 → r.toInt64 = v' := fun h9 => by
    rcases y with z | E
    · rw [hb z rfl, hv z rfl]
    · rcases ha with ⟨-, q1, q2⟩ | ⟨-, q1, q2⟩
      · exact absurd (q2.symm.trans h9) q1
      · exact absurd (q2.symm.trans h9) q1
  refine lz_aload (q := 664) dL_law_663 rfl rfl 1 rfl ?_
  refine lz_arg (j := 1) dL_law_664 dL_law_665 dL_law_667 (by decide) dL_law_668 dL_law_669 (show 664 + 6 = 670 from rfl) 0 4 rfl rfl (by omega) ?_
  refine lz_arg (j := 2) dL_law_670 dL_law_671 dL_law_673 (by decide) dL_law_674 dL_law_675 (show 670 + 6 = 676 from rfl) 0 4 rfl rfl (by omega) ?_
  refine lz_aload (q := 677) dL_law_676 rfl rfl 3 rfl ?_
  refine lz_callW (As := [.inr (.inl 0), .inl (xs (i + 1)), .inl (xs (i + 2)), .inr (.inl 5001)]) (S := []) (q := 680) hE ls_door rfl hmc hms (Nat.le_of_ble_eq_true rfl) dL_law_677 rfl ?_ (by omega)
  refine lz_istore (q := 682) (L' := (5, .inl (K 80 3)) :: [(0, .inr (.inl 5000)), (1, .inr (.inl 0)), (2, .inr (.inl 80)), (3, .inr (.inl 5001)), (4, .inl (nI i))]) dL_law_680 rfl (by decide) rfl ?_
  refine lz_aload (q := 683) dL_law_682 rfl rfl 3 rfl ?_
  refine lz_arg (j := 1) dL_law_683 dL_law_684 dL_law_686 (by decide) dL_law_687 dL_law_688 (show 683 + 6 = 689 from rfl) 1 5 rfl rfl (by omega) ?_
  refine lz_arg (j := 2) dL_law_689 dL_law_690 dL_law_692 (by decide) dL_law_693 dL_law_694 (show 689 + 6 = 695 from rfl) 1 5 rfl rfl (by omega) ?_
  refine lz_callV (As := [.inl (xs (i + 1)), .inl (xs (i + 2))]) (S := []) (q := 698) h2 mv_L_160 kd_80 rfl (by decide) (Nat.le_of_ble_eq_true rfl) dL_law_695 rfl ?_
  refine lz_istore (q := 700) (L' := (6, .inl r) :: (5, .inl (K 80 3)) :: [(0, .inr (.inl 5000)), (1, .inr (.inl 0)), (2, .inr (.inl 80)), (3, .inr (.inl 5001)), (4, .inl (nI i))]) dL_law_698 rfl (by decide) rfl ?_
  refine lz_aload (q := 701) dL_law_700 rfl rfl 4 rfl ?_
  refine lz_callV (As := []) (S := []) (q := 704) h3 mv_L_133 kd_80 rfl (by decide) (Nat.le_of_ble_eq_true rfl) dL_law_701 rfl ?_
  refine lz_iload (q := 706) dL_law_704 rfl 1 rfl ?_
  refine lz_icmpeq (tgt := 711) dL_law_706 (by decide) rfl ?_
  refine lz_iload (q := 713) dL_law_711 rfl 1 rfl ?_
  refine lz_ifne (tgt := 728) (q := 716) dL_law_713 (by decide) rfl (fun h9 => ?_) (fun h9 => ?_)
  · refine lz_goto (q := 2591) dL_law_728 (by decide) ?_
    refine lz_pick [2, 3, 4, 5, 6] rfl ?_
    exact kk _ _ hI
  · refine lz_long (x := r) 5 0 dL_law_716 dL_law_717 dL_law_718 dL_law_719 dL_law_721 dL_law_722 dL_law_723 rfl rfl (hlong h9) ?_
    refine lz_goto (q := 2591) dL_law_728 (by decide) ?_
    refine lz_pick [2, 3, 4, 5, 6] rfl ?_
    exact kk _ _ hI
theorem lc_gloves (hl : l.stackTraces = false) (hz : zo_gloves N Inv) {σ : sm_M} (hI0 : Inv σ) (hi : i + 6 ≤ Lx) (h7 : n + 1 ≤ 600) (kk : ∀ τ v', Inv τ → lz_W l xs Lx (n + 1) 2591 [(0, .inr (.inl 5000)), (1, .inr (.inl 0)), (2, .inr (.inl 80)), (3, .inr (.inl 5001)), (4, .inl (nI i))] [] τ v') : lz_W l xs Lx n 731 [(0, .inr (.inl 5000)), (1, .inr (.inl 0)), (2, .inr (.inl 80)), (3, .inr (.inl 5001)), (4, .inl (nI i))] [] σ v := by
  obtain ⟨I, R⟩ := σ
  obtain ⟨y, J, r, K, g1, g2, ⟨ha, hb⟩, hI⟩ := hz I R (xs (i + 1)) (xs (i + 2)) hI0
  obtain ⟨v', mc, ms, hmc, hms, hv, hE⟩ := wk_gloves (v := v) hl g1 ha
  have h2 := e_X12_gloves (l := l) g2
  have h3 := e_X12_thrown (l := l) (N := N) (R := R) (a0 := 80) (I := K) (y := (K 80 3, K)) (lc_thr N R K)
  have hlong : K 80 3 = 0 → r.toInt64 = v' := fun h9 => by
    rcases y with z | E
    · rw [hb z rfl, hv z rfl]
    · rcases ha with ⟨-, q1, q2⟩ | ⟨-, q1, q2⟩
      · exact absurd (q2.symm.trans h9) q1
      · exact absurd (q2.symm.trans h9) q1
  refine lz_aload (q := 732) dL_law_731 rfl rfl 1 rfl ?_
  refine lz_arg (j := 1) dL_law_732 dL_law_733 dL_law_735 (by decide) dL_law_736 dL_law_737 (show 732 + 6 = 738 from rfl) 0 4 rfl rfl (by omega) ?_
  refine lz_arg (j := 2) dL_law_738 dL_law_739 dL_law_741 (by decide) dL_law_742 dL_law_743 (show 738 + 6 = 744 from rfl) 0 4 rfl rfl (by omega) ?_
  refine lz_aload (q := 745) dL_law_744 rfl rfl 3 rfl ?_
  refine lz_callW (As := [.inr (.inl 0), .inl (xs (i + 1)), .inl (xs (i + 2)), .inr (.inl 5001)]) (S := []) (q := 748) hE ls_gloves rfl hmc hms (Nat.le_of_ble_eq_true rfl) dL_law_745 rfl ?_ (by omega)
  refine lz_istore (q := 750) (L' := (5, .inl (K 80 3)) :: [(0, .inr (.inl 5000)), (1, .inr (.inl 0)), (2, .inr (.inl 80)), (3, .inr (.inl 5001)), (4, .inl (nI i))]) dL_law_748 rfl (by decide) rfl ?_
  refine lz_aload (q := 751) dL_law_750 rfl rfl 3 rfl ?_
  refine lz_arg (j := 1) dL_law_751 dL_law_752 dL_law_754 (by decide) dL_law_755 dL_law_756 (show 751 + 6 = 757 from rfl) 1 5 rfl rfl (by omega) ?_
  refine lz_arg (j := 2) dL_law_757 dL_law_758 dL_law_760 (by decide) dL_law_761 dL_law_762 (show 757 + 6 = 763 from rfl) 1 5 rfl rfl (by omega) ?_
  refine lz_callV (As := [.inl (xs (i + 1)), .inl (xs (i + 2))]) (S := []) (q := 766) h2 mv_L_163 kd_80 rfl (by decide) (Nat.le_of_ble_eq_true rfl) dL_law_763 rfl ?_
  refine lz_istore (q := 768) (L' := (6, .inl r) :: (5, .inl (K 80 3)) :: [(0, .inr (.inl 5000)), (1, .inr (.inl 0)), (2, .inr (.inl 80)), (3, .inr (.inl 5001)), (4, .inl (nI i))]) dL_law_766 rfl (by decide) rfl ?_
  refine lz_aload (q := 769) dL_law_768 rfl rfl 4 rfl ?_
  refine lz_callV (As := []) (S := []) (q := 772) h3 mv_L_133 kd_80 rfl (by decide) (Nat.le_of_ble_eq_true rfl) dL_law_769 rfl ?_
  refine lz_iload (q := 774) dL_law_772 rfl 1 rfl ?_
  refine lz_icmpeq (tgt := 779) dL_law_774 (by decide) rfl ?_
  refine lz_iload (q := 781) dL_law_779 rfl 1 rfl ?_
  refine lz_ifne (tgt := 796) (q := 784) dL_law_781 (by decide) rfl (fun h9 => ?_) (fun h9 => ?_)
  · refine lz_goto (q := 2591) dL_law_796 (by decide) ?_
    refine lz_pick [2, 3, 4, 5, 6] rfl ?_
    exact kk _ _ hI
  · refine lz_long (x := r) 5 0 dL_law_784 dL_law_785 dL_law_786 dL_law_787 dL_law_789 dL_law_790 dL_law_791 rfl rfl (hlong h9) ?_
    refine lz_goto (q := 2591) dL_law_796 (by decide) ?_
    refine lz_pick [2, 3, 4, 5, 6] rfl ?_
    exact kk _ _ hI
theorem lc_begin (hl : l.stackTraces = false) (hz : zo_begin N Inv) {σ : sm_M} (hI0 : Inv σ) (hi : i + 6 ≤ Lx) (h7 : n + 1 ≤ 600) (kk : ∀ τ v', Inv τ → lz_W l xs Lx (n + 1) 2591 [(0, .inr (.inl 5000)), (1, .inr (.inl 0)), (2, .inr (.inl 80)), (3, .inr (.inl 5001)), (4, .inl (nI i))] [] τ v') : lz_W l xs Lx n 799 [(0, .inr (.inl 5000)), (1, .inr (.inl 0)), (2, .inr (.inl 80)), (3, .inr (.inl 5001)), (4, .inl (nI i))] [] σ v := by
  obtain ⟨I, R⟩ := σ
  obtain ⟨y, J, r, K, g1, g2, ⟨ha, hb⟩, hI⟩ := hz I R (xs (i + 1)) (xs (i + 2)) hI0
  obtain ⟨v', mc, ms, hmc, hms, hv, hE⟩ := wk_begin (v := v) hl g1 ha
  have h2 := e_X12_begin (l := l) g2
  have h3 := e_X12_thrown (l := l) (N := N) (R := R) (a0 := 80) (I := K) (y := (K 80 3, K)) (lc_thr N R K)
  have hlong : K 80 3 = 0 → r.toInt64 = v' := fun h9 => by
    rcases y with z | E
    · rw [hb z rfl, hv z rfl]
    · rcases ha with ⟨-, q1, q2⟩ | ⟨-, q1, q2⟩
      · exact absurd (q2.symm.trans h9) q1
      · exact absurd (q2.symm.trans h9) q1
  refine lz_aload (q := 800) dL_law_799 rfl rfl 1 rfl ?_
  refine lz_arg (j := 1) dL_law_800 dL_law_801 dL_law_803 (by decide) dL_law_804 dL_law_805 (show 800 + 6 = 806 from rfl) 0 4 rfl rfl (by omega) ?_
  refine lz_arg (j := 2) dL_law_806 dL_law_807 dL_law_809 (by decide) dL_law_810 dL_law_811 (show 806 + 6 = 812 from rfl) 0 4 rfl rfl (by omega) ?_
  refine lz_aload (q := 813) dL_law_812 rfl rfl 3 rfl ?_
  refine lz_callW (As := [.inr (.inl 0), .inl (xs (i + 1)), .inl (xs (i + 2)), .inr (.inl 5001)]) (S := []) (q := 816) hE ls_begin rfl hmc hms (Nat.le_of_ble_eq_true rfl) dL_law_813 rfl ?_ (by omega)
  refine lz_istore (q := 818) (L' := (5, .inl (K 80 3)) :: [(0, .inr (.inl 5000)), (1, .inr (.inl 0)), (2, .inr (.inl 80)), (3, .inr (.inl 5001)), (4, .inl (nI i))]) dL_law_816 rfl (by decide) rfl ?_
  refine lz_aload (q := 819) dL_law_818 rfl rfl 3 rfl ?_
  refine lz_arg (j := 1) dL_law_819 dL_law_820 dL_law_822 (by decide) dL_law_823 dL_law_824 (show 819 + 6 = 825 from rfl) 1 5 rfl rfl (by omega) ?_
  refine lz_arg (j := 2) dL_law_825 dL_law_826 dL_law_828 (by decide) dL_law_829 dL_law_830 (show 825 + 6 = 831 from rfl) 1 5 rfl rfl (by omega) ?_
  refine lz_callV (As := [.inl (xs (i + 1)), .inl (xs (i + 2))]) (S := []) (q := 834) h2 mv_L_166 kd_80 rfl (by decide) (Nat.le_of_ble_eq_true rfl) dL_law_831 rfl ?_
  refine lz_istore (q := 836) (L' := (6, .inl r) :: (5, .inl (K 80 3)) :: [(0, .inr (.inl 5000)), (1, .inr (.inl 0)), (2, .inr (.inl 80)), (3, .inr (.inl 5001)), (4, .inl (nI i))]) dL_law_834 rfl (by decide) rfl ?_
  refine lz_aload (q := 837) dL_law_836 rfl rfl 4 rfl ?_
  refine lz_callV (As := []) (S := []) (q := 840) h3 mv_L_133 kd_80 rfl (by decide) (Nat.le_of_ble_eq_true rfl) dL_law_837 rfl ?_
  refine lz_iload (q := 842) dL_law_840 rfl 1 rfl ?_
  refine lz_icmpeq (tgt := 847) dL_law_842 (by decide) rfl ?_
  refine lz_iload (q := 849) dL_law_847 rfl 1 rfl ?_
  refine lz_ifne (tgt := 864) (q := 852) dL_law_849 (by decide) rfl (fun h9 => ?_) (fun h9 => ?_)
  · refine lz_goto (q := 2591) dL_law_864 (by decide) ?_
    refine lz_pick [2, 3, 4, 5, 6] rfl ?_
    exact kk _ _ hI
  · refine lz_long (x := r) 5 0 dL_law_852 dL_law_853 dL_law_854 dL_law_855 dL_law_857 dL_law_858 dL_law_859 rfl rfl (hlong h9) ?_
    refine lz_goto (q := 2591) dL_law_864 (by decide) ?_
    refine lz_pick [2, 3, 4, 5, 6] rfl ?_
    exact kk _ _ hI
theorem lc_pianos (hl : l.stackTraces = false) (hz : zo_pianos N Inv) {σ : sm_M} (hI0 : Inv σ) (hi : i + 6 ≤ Lx) (h7 : n + 1 ≤ 600) (kk : ∀ τ v', Inv τ → lz_W l xs Lx (n + 1) 2591 [(0, .inr (.inl 5000)), (1, .inr (.inl 0)), (2, .inr (.inl 80)), (3, .inr (.inl 5001)), (4, .inl (nI i))] [] τ v') : lz_W l xs Lx n 867 [(0, .inr (.inl 5000)), (1, .inr (.inl 0)), (2, .inr (.inl 80)), (3, .inr (.inl 5001)), (4, .inl (nI i))] [] σ v := by
  obtain ⟨I, R⟩ := σ
  obtain ⟨r, J, K, g1, g2, hI⟩ := hz I R (xs (i + 1)) hI0
  have h1 := e_X11_pianos (l := l) g1
  have h2 := e_X12_pianos (l := l) g2
  refine lz_aload (q := 868) dL_law_867 rfl rfl 1 rfl ?_
  refine lz_arg (j := 1) dL_law_868 dL_law_869 dL_law_871 (by decide) dL_law_872 dL_law_873 (show 868 + 6 = 874 from rfl) 0 4 rfl rfl (by omega) ?_
  refine lz_callV (As := [.inl (xs (i + 1))]) (S := []) (q := 877) h1 mv_L_167 kd_0 rfl (by decide) (Nat.le_of_ble_eq_true rfl) dL_law_874 rfl ?_
  refine lz_aload (q := 878) dL_law_877 rfl rfl 2 rfl ?_
  refine lz_arg (j := 1) dL_law_878 dL_law_879 dL_law_881 (by decide) dL_law_882 dL_law_883 (show 878 + 6 = 884 from rfl) 0 4 rfl rfl (by omega) ?_
  refine lz_callV (As := [.inl (xs (i + 1))]) (S := [.inl r]) (q := 887) h2 mv_L_170 kd_80 rfl (by decide) (Nat.le_of_ble_eq_true rfl) dL_law_884 rfl ?_
  refine lz_icmpeq (tgt := 2591) dL_law_887 (by decide) rfl ?_
  exact lz_widen (by omega) h7 (kk _ _ hI)
theorem lc_undo (hl : l.stackTraces = false) (hz : zo_undo N Inv) {σ : sm_M} (hI0 : Inv σ) (hi : i + 6 ≤ Lx) (h7 : n + 1 ≤ 600) (kk : ∀ τ v', Inv τ → lz_W l xs Lx (n + 1) 2591 [(0, .inr (.inl 5000)), (1, .inr (.inl 0)), (2, .inr (.inl 80)), (3, .inr (.inl 5001)), (4, .inl (nI i))] [] τ v') : lz_W l xs Lx n 892 [(0, .inr (.inl 5000)), (1, .inr (.inl 0)), (2, .inr (.inl 80)), (3, .inr (.inl 5001)), (4, .inl (nI i))] [] σ v := by
  obtain ⟨I, R⟩ := σ
  obtain ⟨r, J, K, g1, g2, hI⟩ := hz I R  hI0
  have h1 := e_X11_undo (l := l) g1
  have h2 := e_X12_undo (l := l) g2
  refine lz_aload (q := 893) dL_law_892 rfl rfl 1 rfl ?_
  refine lz_callV (As := []) (S := []) (q := 896) h1 mv_L_171 kd_0 rfl (by decide) (Nat.le_of_ble_eq_true rfl) dL_law_893 rfl ?_
  refine lz_aload (q := 897) dL_law_896 rfl rfl 2 rfl ?_
  refine lz_callV (As := []) (S := [.inl r]) (q := 900) h2 mv_L_174 kd_80 rfl (by decide) (Nat.le_of_ble_eq_true rfl) dL_law_897 rfl ?_
  refine lz_icmpeq (tgt := 2591) dL_law_900 (by decide) rfl ?_
  exact lz_widen (by omega) h7 (kk _ _ hI)
theorem lc_then (hl : l.stackTraces = false) (hz : zo_then N Inv) {σ : sm_M} (hI0 : Inv σ) (hi : i + 6 ≤ Lx) (h7 : n + 1 ≤ 600) (kk : ∀ τ v', Inv τ → lz_W l xs Lx (n + 1) 2591 [(0, .inr (.inl 5000)), (1, .inr (.inl 0)), (2, .inr (.inl 80)), (3, .inr (.inl 5001)), (4, .inl (nI i))] [] τ v') : lz_W l xs Lx n 905 [(0, .inr (.inl 5000)), (1, .inr (.inl 0)), (2, .inr (.inl 80)), (3, .inr (.inl 5001)), (4, .inl (nI i))] [] σ v := by
  obtain ⟨I, R⟩ := σ
  obtain ⟨y, J, r, K, g1, g2, ⟨ha, hb⟩, hI⟩ := hz I R (xs (i + 1)) (xs (i + 2)) (xs (i + 3)) hI0
  obtain ⟨v', mc, ms, hmc, hms, hv, hE⟩ := wk_then (v := v) hl g1 ha
  have h2 := e_X12_then (l := l) g2
  have h3 := e_X12_thrown (l := l) (N := N) (R := R) (a0 := 80) (I := K) (y := (K 80 3, K)) (lc_thr N R K)
  have hlong : K 80 3 = 0 → r.toInt64 = v' := fun h9 => by
    rcases y with z | E
    · rw [hb z rfl, hv z rfl]
    · rcases ha with ⟨-, q1, q2⟩ | ⟨-, q1, q2⟩
      · exact absurd (q2.symm.trans h9) q1
      · exact absurd (q2.symm.trans h9) q1
  refine lz_aload (q := 906) dL_law_905 rfl rfl 1 rfl ?_
  refine lz_arg (j := 1) dL_law_906 dL_law_907 dL_law_909 (by decide) dL_law_910 dL_law_911 (show 906 + 6 = 912 from rfl) 0 4 rfl rfl (by omega) ?_
  refine lz_arg (j := 2) dL_law_912 dL_law_913 dL_law_915 (by decide) dL_law_916 dL_law_917 (show 912 + 6 = 918 from rfl) 0 4 rfl rfl (by omega) ?_
  refine lz_arg (j := 3) dL_law_918 dL_law_919 dL_law_921 (by decide) dL_law_922 dL_law_923 (show 918 + 6 = 924 from rfl) 0 4 rfl rfl (by omega) ?_
  refine lz_aload (q := 925) dL_law_924 rfl rfl 3 rfl ?_
  refine lz_callW (As := [.inr (.inl 0), .inl (xs (i + 1)), .inl (xs (i + 2)), .inl (xs (i + 3)), .inr (.inl 5001)]) (S := []) (q := 928) hE ls_then rfl hmc hms (Nat.le_of_ble_eq_true rfl) dL_law_925 rfl ?_ (by omega)
  refine lz_istore (q := 930) (L' := (5, .inl (K 80 3)) :: [(0, .inr (.inl 5000)), (1, .inr (.inl 0)), (2, .inr (.inl 80)), (3, .inr (.inl 5001)), (4, .inl (nI i))]) dL_law_928 rfl (by decide) rfl ?_
  refine lz_aload (q := 931) dL_law_930 rfl rfl 3 rfl ?_
  refine lz_arg (j := 1) dL_law_931 dL_law_932 dL_law_934 (by decide) dL_law_935 dL_law_936 (show 931 + 6 = 937 from rfl) 1 5 rfl rfl (by omega) ?_
  refine lz_arg (j := 2) dL_law_937 dL_law_938 dL_law_940 (by decide) dL_law_941 dL_law_942 (show 937 + 6 = 943 from rfl) 1 5 rfl rfl (by omega) ?_
  refine lz_arg (j := 3) dL_law_943 dL_law_944 dL_law_946 (by decide) dL_law_947 dL_law_948 (show 943 + 6 = 949 from rfl) 1 5 rfl rfl (by omega) ?_
  refine lz_callV (As := [.inl (xs (i + 1)), .inl (xs (i + 2)), .inl (xs (i + 3))]) (S := []) (q := 952) h2 mv_L_178 kd_80 rfl (by decide) (Nat.le_of_ble_eq_true rfl) dL_law_949 rfl ?_
  refine lz_istore (q := 954) (L' := (6, .inl r) :: (5, .inl (K 80 3)) :: [(0, .inr (.inl 5000)), (1, .inr (.inl 0)), (2, .inr (.inl 80)), (3, .inr (.inl 5001)), (4, .inl (nI i))]) dL_law_952 rfl (by decide) rfl ?_
  refine lz_aload (q := 955) dL_law_954 rfl rfl 4 rfl ?_
  refine lz_callV (As := []) (S := []) (q := 958) h3 mv_L_133 kd_80 rfl (by decide) (Nat.le_of_ble_eq_true rfl) dL_law_955 rfl ?_
  refine lz_iload (q := 960) dL_law_958 rfl 1 rfl ?_
  refine lz_icmpeq (tgt := 965) dL_law_960 (by decide) rfl ?_
  refine lz_iload (q := 967) dL_law_965 rfl 1 rfl ?_
  refine lz_ifne (tgt := 982) (q := 970) dL_law_967 (by decide) rfl (fun h9 => ?_) (fun h9 => ?_)
  · refine lz_goto (q := 2591) dL_law_982 (by decide) ?_
    refine lz_pick [2, 3, 4, 5, 6] rfl ?_
    exact kk _ _ hI
  · refine lz_long (x := r) 5 0 dL_law_970 dL_law_971 dL_law_972 dL_law_973 dL_law_975 dL_law_976 dL_law_977 rfl rfl (hlong h9) ?_
    refine lz_goto (q := 2591) dL_law_982 (by decide) ?_
    refine lz_pick [2, 3, 4, 5, 6] rfl ?_
    exact kk _ _ hI
theorem lc_done (hl : l.stackTraces = false) (hz : zo_done N Inv) {σ : sm_M} (hI0 : Inv σ) (hi : i + 6 ≤ Lx) (h7 : n + 1 ≤ 600) (kk : ∀ τ v', Inv τ → lz_W l xs Lx (n + 1) 2591 [(0, .inr (.inl 5000)), (1, .inr (.inl 0)), (2, .inr (.inl 80)), (3, .inr (.inl 5001)), (4, .inl (nI i))] [] τ v') : lz_W l xs Lx n 985 [(0, .inr (.inl 5000)), (1, .inr (.inl 0)), (2, .inr (.inl 80)), (3, .inr (.inl 5001)), (4, .inl (nI i))] [] σ v := by
  obtain ⟨I, R⟩ := σ
  obtain ⟨y, J, r, K, g1, g2, ⟨ha, hb⟩, hI⟩ := hz I R (xs (i + 1)) hI0
  obtain ⟨v', mc, ms, hmc, hms, hv, hE⟩ := wk_done (v := v) hl g1 ha
  have h2 := e_X12_done (l := l) g2
  have h3 := e_X12_thrown (l := l) (N := N) (R := R) (a0 := 80) (I := K) (y := (K 80 3, K)) (lc_thr N R K)
  have hlong : K 80 3 = 0 → r.toInt64 = v' := fun h9 => by
    rcases y with z | E
    · rw [hb z rfl, hv z rfl]
    · rcases ha with ⟨-, q1, q2⟩ | ⟨-, q1, q2⟩
      · exact absurd (q2.symm.trans h9) q1
      · exact absurd (q2.symm.trans h9) q1
  refine lz_aload (q := 986) dL_law_985 rfl rfl 1 rfl ?_
  refine lz_arg (j := 1) dL_law_986 dL_law_987 dL_law_989 (by decide) dL_law_990 dL_law_991 (show 986 + 6 = 992 from rfl) 0 4 rfl rfl (by omega) ?_
  refine lz_aload (q := 993) dL_law_992 rfl rfl 3 rfl ?_
  refine lz_callW (As := [.inr (.inl 0), .inl (xs (i + 1)), .inr (.inl 5001)]) (S := []) (q := 996) hE ls_done rfl hmc hms (Nat.le_of_ble_eq_true rfl) dL_law_993 rfl ?_ (by omega)
  refine lz_istore (q := 998) (L' := (5, .inl (K 80 3)) :: [(0, .inr (.inl 5000)), (1, .inr (.inl 0)), (2, .inr (.inl 80)), (3, .inr (.inl 5001)), (4, .inl (nI i))]) dL_law_996 rfl (by decide) rfl ?_
  refine lz_aload (q := 999) dL_law_998 rfl rfl 3 rfl ?_
  refine lz_arg (j := 1) dL_law_999 dL_law_1000 dL_law_1002 (by decide) dL_law_1003 dL_law_1004 (show 999 + 6 = 1005 from rfl) 1 5 rfl rfl (by omega) ?_
  refine lz_callV (As := [.inl (xs (i + 1))]) (S := []) (q := 1008) h2 mv_L_181 kd_80 rfl (by decide) (Nat.le_of_ble_eq_true rfl) dL_law_1005 rfl ?_
  refine lz_istore (q := 1010) (L' := (6, .inl r) :: (5, .inl (K 80 3)) :: [(0, .inr (.inl 5000)), (1, .inr (.inl 0)), (2, .inr (.inl 80)), (3, .inr (.inl 5001)), (4, .inl (nI i))]) dL_law_1008 rfl (by decide) rfl ?_
  refine lz_aload (q := 1011) dL_law_1010 rfl rfl 4 rfl ?_
  refine lz_callV (As := []) (S := []) (q := 1014) h3 mv_L_133 kd_80 rfl (by decide) (Nat.le_of_ble_eq_true rfl) dL_law_1011 rfl ?_
  refine lz_iload (q := 1016) dL_law_1014 rfl 1 rfl ?_
  refine lz_icmpeq (tgt := 1021) dL_law_1016 (by decide) rfl ?_
  refine lz_iload (q := 1023) dL_law_1021 rfl 1 rfl ?_
  refine lz_ifne (tgt := 1038) (q := 1026) dL_law_1023 (by decide) rfl (fun h9 => ?_) (fun h9 => ?_)
  · refine lz_goto (q := 2591) dL_law_1038 (by decide) ?_
    refine lz_pick [2, 3, 4, 5, 6] rfl ?_
    exact kk _ _ hI
  · refine lz_long (x := r) 5 0 dL_law_1026 dL_law_1027 dL_law_1028 dL_law_1029 dL_law_1031 dL_law_1032 dL_law_1033 rfl rfl (hlong h9) ?_
    refine lz_goto (q := 2591) dL_law_1038 (by decide) ?_
    refine lz_pick [2, 3, 4, 5, 6] rfl ?_
    exact kk _ _ hI
theorem lc_heard (hl : l.stackTraces = false) (hz : zo_heard N Inv) {σ : sm_M} (hI0 : Inv σ) (hi : i + 6 ≤ Lx) (h7 : n + 1 ≤ 600) (kk : ∀ τ v', Inv τ → lz_W l xs Lx (n + 1) 2591 [(0, .inr (.inl 5000)), (1, .inr (.inl 0)), (2, .inr (.inl 80)), (3, .inr (.inl 5001)), (4, .inl (nI i))] [] τ v') : lz_W l xs Lx n 1041 [(0, .inr (.inl 5000)), (1, .inr (.inl 0)), (2, .inr (.inl 80)), (3, .inr (.inl 5001)), (4, .inl (nI i))] [] σ v := by
  obtain ⟨I, R⟩ := σ
  obtain ⟨y, J, r, K, g1, g2, ⟨ha, hb⟩, hI⟩ := hz I R (xs (i + 1)) hI0
  obtain ⟨v', mc, ms, hmc, hms, hv, hE⟩ := wk_heard (v := v) hl g1 ha
  have h2 := e_X12_heard (l := l) g2
  have h3 := e_X12_thrown (l := l) (N := N) (R := R) (a0 := 80) (I := K) (y := (K 80 3, K)) (lc_thr N R K)
  have hlong : K 80 3 = 0 → r.toInt64 = v' := fun h9 => by
    rcases y with z | E
    · rw [hb z rfl, hv z rfl]
    · rcases ha with ⟨-, q1, q2⟩ | ⟨-, q1, q2⟩
      · exact absurd (q2.symm.trans h9) q1
      · exact absurd (q2.symm.trans h9) q1
  refine lz_aload (q := 1042) dL_law_1041 rfl rfl 1 rfl ?_
  refine lz_arg (j := 1) dL_law_1042 dL_law_1043 dL_law_1045 (by decide) dL_law_1046 dL_law_1047 (show 1042 + 6 = 1048 from rfl) 0 4 rfl rfl (by omega) ?_
  refine lz_aload (q := 1049) dL_law_1048 rfl rfl 3 rfl ?_
  refine lz_callW (As := [.inr (.inl 0), .inl (xs (i + 1)), .inr (.inl 5001)]) (S := []) (q := 1052) hE ls_heard rfl hmc hms (Nat.le_of_ble_eq_true rfl) dL_law_1049 rfl ?_ (by omega)
  refine lz_istore (q := 1054) (L' := (5, .inl (K 80 3)) :: [(0, .inr (.inl 5000)), (1, .inr (.inl 0)), (2, .inr (.inl 80)), (3, .inr (.inl 5001)), (4, .inl (nI i))]) dL_law_1052 rfl (by decide) rfl ?_
  refine lz_aload (q := 1055) dL_law_1054 rfl rfl 3 rfl ?_
  refine lz_arg (j := 1) dL_law_1055 dL_law_1056 dL_law_1058 (by decide) dL_law_1059 dL_law_1060 (show 1055 + 6 = 1061 from rfl) 1 5 rfl rfl (by omega) ?_
  refine lz_callV (As := [.inl (xs (i + 1))]) (S := []) (q := 1064) h2 mv_L_184 kd_80 rfl (by decide) (Nat.le_of_ble_eq_true rfl) dL_law_1061 rfl ?_
  refine lz_istore (q := 1066) (L' := (6, .inl r) :: (5, .inl (K 80 3)) :: [(0, .inr (.inl 5000)), (1, .inr (.inl 0)), (2, .inr (.inl 80)), (3, .inr (.inl 5001)), (4, .inl (nI i))]) dL_law_1064 rfl (by decide) rfl ?_
  refine lz_aload (q := 1067) dL_law_1066 rfl rfl 4 rfl ?_
  refine lz_callV (As := []) (S := []) (q := 1070) h3 mv_L_133 kd_80 rfl (by decide) (Nat.le_of_ble_eq_true rfl) dL_law_1067 rfl ?_
  refine lz_iload (q := 1072) dL_law_1070 rfl 1 rfl ?_
  refine lz_icmpeq (tgt := 1077) dL_law_1072 (by decide) rfl ?_
  refine lz_iload (q := 1079) dL_law_1077 rfl 1 rfl ?_
  refine lz_ifne (tgt := 1094) (q := 1082) dL_law_1079 (by decide) rfl (fun h9 => ?_) (fun h9 => ?_)
  · refine lz_goto (q := 2591) dL_law_1094 (by decide) ?_
    refine lz_pick [2, 3, 4, 5, 6] rfl ?_
    exact kk _ _ hI
  · refine lz_long (x := r) 5 0 dL_law_1082 dL_law_1083 dL_law_1084 dL_law_1085 dL_law_1087 dL_law_1088 dL_law_1089 rfl rfl (hlong h9) ?_
    refine lz_goto (q := 2591) dL_law_1094 (by decide) ?_
    refine lz_pick [2, 3, 4, 5, 6] rfl ?_
    exact kk _ _ hI
theorem lc_best (hl : l.stackTraces = false) (hz : zo_best N Inv) {σ : sm_M} (hI0 : Inv σ) (hi : i + 6 ≤ Lx) (h7 : n + 1 ≤ 600) (kk : ∀ τ v', Inv τ → lz_W l xs Lx (n + 1) 2591 [(0, .inr (.inl 5000)), (1, .inr (.inl 0)), (2, .inr (.inl 80)), (3, .inr (.inl 5001)), (4, .inl (nI i))] [] τ v') : lz_W l xs Lx n 1097 [(0, .inr (.inl 5000)), (1, .inr (.inl 0)), (2, .inr (.inl 80)), (3, .inr (.inl 5001)), (4, .inl (nI i))] [] σ v := by
  obtain ⟨I, R⟩ := σ
  obtain ⟨y, J, r, K, g1, g2, ⟨ha, hb⟩, hI⟩ := hz I R (xs (i + 1)) hI0
  obtain ⟨v', mc, ms, hmc, hms, hv, hE⟩ := wk_best (v := v) hl g1 ha
  have h2 := e_X12_best (l := l) g2
  have h3 := e_X12_thrown (l := l) (N := N) (R := R) (a0 := 80) (I := K) (y := (K 80 3, K)) (lc_thr N R K)
  have hlong : K 80 3 = 0 → r.toInt64 = v' := fun h9 => by
    rcases y with z | E
    · rw [hb z rfl, hv z rfl]
    · rcases ha with ⟨-, q1, q2⟩ | ⟨-, q1, q2⟩
      · exact absurd (q2.symm.trans h9) q1
      · exact absurd (q2.symm.trans h9) q1
  refine lz_aload (q := 1098) dL_law_1097 rfl rfl 1 rfl ?_
  refine lz_arg (j := 1) dL_law_1098 dL_law_1099 dL_law_1101 (by decide) dL_law_1102 dL_law_1103 (show 1098 + 6 = 1104 from rfl) 0 4 rfl rfl (by omega) ?_
  refine lz_aload (q := 1105) dL_law_1104 rfl rfl 3 rfl ?_
  refine lz_callW (As := [.inr (.inl 0), .inl (xs (i + 1)), .inr (.inl 5001)]) (S := []) (q := 1108) hE ls_best rfl hmc hms (Nat.le_of_ble_eq_true rfl) dL_law_1105 rfl ?_ (by omega)
  refine lz_istore (q := 1110) (L' := (5, .inl (K 80 3)) :: [(0, .inr (.inl 5000)), (1, .inr (.inl 0)), (2, .inr (.inl 80)), (3, .inr (.inl 5001)), (4, .inl (nI i))]) dL_law_1108 rfl (by decide) rfl ?_
  refine lz_aload (q := 1111) dL_law_1110 rfl rfl 3 rfl ?_
  refine lz_arg (j := 1) dL_law_1111 dL_law_1112 dL_law_1114 (by decide) dL_law_1115 dL_law_1116 (show 1111 + 6 = 1117 from rfl) 1 5 rfl rfl (by omega) ?_
  refine lz_callV (As := [.inl (xs (i + 1))]) (S := []) (q := 1120) h2 mv_L_187 kd_80 rfl (by decide) (Nat.le_of_ble_eq_true rfl) dL_law_1117 rfl ?_
  refine lz_istore (q := 1122) (L' := (6, .inl r) :: (5, .inl (K 80 3)) :: [(0, .inr (.inl 5000)), (1, .inr (.inl 0)), (2, .inr (.inl 80)), (3, .inr (.inl 5001)), (4, .inl (nI i))]) dL_law_1120 rfl (by decide) rfl ?_
  refine lz_aload (q := 1123) dL_law_1122 rfl rfl 4 rfl ?_
  refine lz_callV (As := []) (S := []) (q := 1126) h3 mv_L_133 kd_80 rfl (by decide) (Nat.le_of_ble_eq_true rfl) dL_law_1123 rfl ?_
  refine lz_iload (q := 1128) dL_law_1126 rfl 1 rfl ?_
  refine lz_icmpeq (tgt := 1133) dL_law_1128 (by decide) rfl ?_
  refine lz_iload (q := 1135) dL_law_1133 rfl 1 rfl ?_
  refine lz_ifne (tgt := 1150) (q := 1138) dL_law_1135 (by decide) rfl (fun h9 => ?_) (fun h9 => ?_)
  · refine lz_goto (q := 2591) dL_law_1150 (by decide) ?_
    refine lz_pick [2, 3, 4, 5, 6] rfl ?_
    exact kk _ _ hI
  · refine lz_long (x := r) 5 0 dL_law_1138 dL_law_1139 dL_law_1140 dL_law_1141 dL_law_1143 dL_law_1144 dL_law_1145 rfl rfl (hlong h9) ?_
    refine lz_goto (q := 2591) dL_law_1150 (by decide) ?_
    refine lz_pick [2, 3, 4, 5, 6] rfl ?_
    exact kk _ _ hI
theorem lc_stuck (hl : l.stackTraces = false) (hz : zo_stuck N Inv) {σ : sm_M} (hI0 : Inv σ) (hi : i + 6 ≤ Lx) (h7 : n + 1 ≤ 600) (kk : ∀ τ v', Inv τ → lz_W l xs Lx (n + 1) 2591 [(0, .inr (.inl 5000)), (1, .inr (.inl 0)), (2, .inr (.inl 80)), (3, .inr (.inl 5001)), (4, .inl (nI i))] [] τ v') : lz_W l xs Lx n 1153 [(0, .inr (.inl 5000)), (1, .inr (.inl 0)), (2, .inr (.inl 80)), (3, .inr (.inl 5001)), (4, .inl (nI i))] [] σ v := by
  obtain ⟨I, R⟩ := σ
  obtain ⟨r, J, K, g1, g2, hI⟩ := hz I R  hI0
  have h1 := e_X11_stuck (l := l) g1
  have h2 := e_X12_stuck (l := l) g2
  refine lz_aload (q := 1154) dL_law_1153 rfl rfl 1 rfl ?_
  refine lz_callV (As := []) (S := []) (q := 1157) h1 mv_L_188 kd_0 rfl (by decide) (Nat.le_of_ble_eq_true rfl) dL_law_1154 rfl ?_
  refine lz_aload (q := 1158) dL_law_1157 rfl rfl 2 rfl ?_
  refine lz_callV (As := []) (S := [.inl r]) (q := 1161) h2 mv_L_191 kd_80 rfl (by decide) (Nat.le_of_ble_eq_true rfl) dL_law_1158 rfl ?_
  refine lz_icmpeq (tgt := 2591) dL_law_1161 (by decide) rfl ?_
  exact lz_widen (by omega) h7 (kk _ _ hI)
theorem lc_free (hl : l.stackTraces = false) (hz : zo_free N Inv) {σ : sm_M} (hI0 : Inv σ) (hi : i + 6 ≤ Lx) (h7 : n + 1 ≤ 600) (kk : ∀ τ v', Inv τ → lz_W l xs Lx (n + 1) 2591 [(0, .inr (.inl 5000)), (1, .inr (.inl 0)), (2, .inr (.inl 80)), (3, .inr (.inl 5001)), (4, .inl (nI i))] [] τ v') : lz_W l xs Lx n 1166 [(0, .inr (.inl 5000)), (1, .inr (.inl 0)), (2, .inr (.inl 80)), (3, .inr (.inl 5001)), (4, .inl (nI i))] [] σ v := by
  obtain ⟨I, R⟩ := σ
  obtain ⟨y, J, r, K, g1, g2, ⟨ha, hb⟩, hI⟩ := hz I R (xs (i + 1)) hI0
  obtain ⟨v', mc, ms, hmc, hms, hv, hE⟩ := wk_free (v := v) hl g1 ha
  have h2 := e_X12_free (l := l) g2
  have h3 := e_X12_thrown (l := l) (N := N) (R := R) (a0 := 80) (I := K) (y := (K 80 3, K)) (lc_thr N R K)
  have hlong : K 80 3 = 0 → r.toInt64 = v' := fun h9 => by
    rcases y with z | E
    · rw [hb z rfl, hv z rfl]
    · rcases ha with ⟨-, q1, q2⟩ | ⟨-, q1, q2⟩
      · exact absurd (q2.symm.trans h9) q1
      · exact absurd (q2.symm.trans h9) q1
  refine lz_aload (q := 1167) dL_law_1166 rfl rfl 1 rfl ?_
  refine lz_arg (j := 1) dL_law_1167 dL_law_1168 dL_law_1170 (by decide) dL_law_1171 dL_law_1172 (show 1167 + 6 = 1173 from rfl) 0 4 rfl rfl (by omega) ?_
  refine lz_aload (q := 1174) dL_law_1173 rfl rfl 3 rfl ?_
  refine lz_callW (As := [.inr (.inl 0), .inl (xs (i + 1)), .inr (.inl 5001)]) (S := []) (q := 1177) hE ls_free rfl hmc hms (Nat.le_of_ble_eq_true rfl) dL_law_1174 rfl ?_ (by omega)
  refine lz_istore (q := 1179) (L' := (5, .inl (K 80 3)) :: [(0, .inr (.inl 5000)), (1, .inr (.inl 0)), (2, .inr (.inl 80)), (3, .inr (.inl 5001)), (4, .inl (nI i))]) dL_law_1177 rfl (by decide) rfl ?_
  refine lz_aload (q := 1180) dL_law_1179 rfl rfl 3 rfl ?_
  refine lz_arg (j := 1) dL_law_1180 dL_law_1181 dL_law_1183 (by decide) dL_law_1184 dL_law_1185 (show 1180 + 6 = 1186 from rfl) 1 5 rfl rfl (by omega) ?_
  refine lz_callV (As := [.inl (xs (i + 1))]) (S := []) (q := 1189) h2 mv_L_194 kd_80 rfl (by decide) (Nat.le_of_ble_eq_true rfl) dL_law_1186 rfl ?_
  refine lz_istore (q := 1191) (L' := (6, .inl r) :: (5, .inl (K 80 3)) :: [(0, .inr (.inl 5000)), (1, .inr (.inl 0)), (2, .inr (.inl 80)), (3, .inr (.inl 5001)), (4, .inl (nI i))]) dL_law_1189 rfl (by decide) rfl ?_
  refine lz_aload (q := 1192) dL_law_1191 rfl rfl 4 rfl ?_
  refine lz_callV (As := []) (S := []) (q := 1195) h3 mv_L_133 kd_80 rfl (by decide) (Nat.le_of_ble_eq_true rfl) dL_law_1192 rfl ?_
  refine lz_iload (q := 1197) dL_law_1195 rfl 1 rfl ?_
  refine lz_icmpeq (tgt := 1202) dL_law_1197 (by decide) rfl ?_
  refine lz_iload (q := 1204) dL_law_1202 rfl 1 rfl ?_
  refine lz_ifne (tgt := 1219) (q := 1207) dL_law_1204 (by decide) rfl (fun h9 => ?_) (fun h9 => ?_)
  · refine lz_goto (q := 2591) dL_law_1219 (by decide) ?_
    refine lz_pick [2, 3, 4, 5, 6] rfl ?_
    exact kk _ _ hI
  · refine lz_long (x := r) 5 0 dL_law_1207 dL_law_1208 dL_law_1209 dL_law_1210 dL_law_1212 dL_law_1213 dL_law_1214 rfl rfl (hlong h9) ?_
    refine lz_goto (q := 2591) dL_law_1219 (by decide) ?_
    refine lz_pick [2, 3, 4, 5, 6] rfl ?_
    exact kk _ _ hI
theorem lc_nobody (hl : l.stackTraces = false) (hz : zo_nobody N Inv) {σ : sm_M} (hI0 : Inv σ) (hi : i + 6 ≤ Lx) (h7 : n + 1 ≤ 600) (kk : ∀ τ v', Inv τ → lz_W l xs Lx (n + 1) 2591 [(0, .inr (.inl 5000)), (1, .inr (.inl 0)), (2, .inr (.inl 80)), (3, .inr (.inl 5001)), (4, .inl (nI i))] [] τ v') : lz_W l xs Lx n 1222 [(0, .inr (.inl 5000)), (1, .inr (.inl 0)), (2, .inr (.inl 80)), (3, .inr (.inl 5001)), (4, .inl (nI i))] [] σ v := by
  obtain ⟨I, R⟩ := σ
  obtain ⟨y, J, r, K, g1, g2, ⟨ha, hb⟩, hI⟩ := hz I R (xs (i + 1)) hI0
  obtain ⟨v', mc, ms, hmc, hms, hv, hE⟩ := wk_nobody (v := v) hl g1 ha
  have h2 := e_X12_nobody (l := l) g2
  have h3 := e_X12_thrown (l := l) (N := N) (R := R) (a0 := 80) (I := K) (y := (K 80 3, K)) (lc_thr N R K)
  have hlong : K 80 3 = 0 → r.toInt64 = v' := fun h9 => by
    rcases y with z | E
    · rw [hb z rfl, hv z rfl]
    · rcases ha with ⟨-, q1, q2⟩ | ⟨-, q1, q2⟩
      · exact absurd (q2.symm.trans h9) q1
      · exact absurd (q2.symm.trans h9) q1
  refine lz_aload (q := 1223) dL_law_1222 rfl rfl 1 rfl ?_
  refine lz_arg (j := 1) dL_law_1223 dL_law_1224 dL_law_1226 (by decide) dL_law_1227 dL_law_1228 (show 1223 + 6 = 1229 from rfl) 0 4 rfl rfl (by omega) ?_
  refine lz_aload (q := 1230) dL_law_1229 rfl rfl 3 rfl ?_
  refine lz_callW (As := [.inr (.inl 0), .inl (xs (i + 1)), .inr (.inl 5001)]) (S := []) (q := 1233) hE ls_nobody rfl hmc hms (Nat.le_of_ble_eq_true rfl) dL_law_1230 rfl ?_ (by omega)
  refine lz_istore (q := 1235) (L' := (5, .inl (K 80 3)) :: [(0, .inr (.inl 5000)), (1, .inr (.inl 0)), (2, .inr (.inl 80)), (3, .inr (.inl 5001)), (4, .inl (nI i))]) dL_law_1233 rfl (by decide) rfl ?_
  refine lz_aload (q := 1236) dL_law_1235 rfl rfl 3 rfl ?_
  refine lz_arg (j := 1) dL_law_1236 dL_law_1237 dL_law_1239 (by decide) dL_law_1240 dL_law_1241 (show 1236 + 6 = 1242 from rfl) 1 5 rfl rfl (by omega) ?_
  refine lz_callV (As := [.inl (xs (i + 1))]) (S := []) (q := 1245) h2 mv_L_197 kd_80 rfl (by decide) (Nat.le_of_ble_eq_true rfl) dL_law_1242 rfl ?_
  refine lz_istore (q := 1247) (L' := (6, .inl r) :: (5, .inl (K 80 3)) :: [(0, .inr (.inl 5000)), (1, .inr (.inl 0)), (2, .inr (.inl 80)), (3, .inr (.inl 5001)), (4, .inl (nI i))]) dL_law_1245 rfl (by decide) rfl ?_
  refine lz_aload (q := 1248) dL_law_1247 rfl rfl 4 rfl ?_
  refine lz_callV (As := []) (S := []) (q := 1251) h3 mv_L_133 kd_80 rfl (by decide) (Nat.le_of_ble_eq_true rfl) dL_law_1248 rfl ?_
  refine lz_iload (q := 1253) dL_law_1251 rfl 1 rfl ?_
  refine lz_icmpeq (tgt := 1258) dL_law_1253 (by decide) rfl ?_
  refine lz_iload (q := 1260) dL_law_1258 rfl 1 rfl ?_
  refine lz_ifne (tgt := 1275) (q := 1263) dL_law_1260 (by decide) rfl (fun h9 => ?_) (fun h9 => ?_)
  · refine lz_goto (q := 2591) dL_law_1275 (by decide) ?_
    refine lz_pick [2, 3, 4, 5, 6] rfl ?_
    exact kk _ _ hI
  · refine lz_long (x := r) 5 0 dL_law_1263 dL_law_1264 dL_law_1265 dL_law_1266 dL_law_1268 dL_law_1269 dL_law_1270 rfl rfl (hlong h9) ?_
    refine lz_goto (q := 2591) dL_law_1275 (by decide) ?_
    refine lz_pick [2, 3, 4, 5, 6] rfl ?_
    exact kk _ _ hI
theorem lc_through (hl : l.stackTraces = false) (hz : zo_through N Inv) {σ : sm_M} (hI0 : Inv σ) (hi : i + 6 ≤ Lx) (h7 : n + 1 ≤ 600) (kk : ∀ τ v', Inv τ → lz_W l xs Lx (n + 1) 2591 [(0, .inr (.inl 5000)), (1, .inr (.inl 0)), (2, .inr (.inl 80)), (3, .inr (.inl 5001)), (4, .inl (nI i))] [] τ v') : lz_W l xs Lx n 1278 [(0, .inr (.inl 5000)), (1, .inr (.inl 0)), (2, .inr (.inl 80)), (3, .inr (.inl 5001)), (4, .inl (nI i))] [] σ v := by
  obtain ⟨I, R⟩ := σ
  obtain ⟨y, J, r, K, g1, g2, ⟨ha, hb⟩, hI⟩ := hz I R (xs (i + 1)) hI0
  obtain ⟨v', mc, ms, hmc, hms, hv, hE⟩ := wk_through (v := v) hl g1 ha
  have h2 := e_X12_through (l := l) g2
  have h3 := e_X12_thrown (l := l) (N := N) (R := R) (a0 := 80) (I := K) (y := (K 80 3, K)) (lc_thr N R K)
  have hlong : K 80 3 = 0 → r.toInt64 = v' := fun h9 => by
    rcases y with z | E
    · rw [hb z rfl, hv z rfl]
    · rcases ha with ⟨-, q1, q2⟩ | ⟨-, q1, q2⟩
      · exact absurd (q2.symm.trans h9) q1
      · exact absurd (q2.symm.trans h9) q1
  refine lz_aload (q := 1279) dL_law_1278 rfl rfl 1 rfl ?_
  refine lz_arg (j := 1) dL_law_1279 dL_law_1280 dL_law_1282 (by decide) dL_law_1283 dL_law_1284 (show 1279 + 6 = 1285 from rfl) 0 4 rfl rfl (by omega) ?_
  refine lz_aload (q := 1286) dL_law_1285 rfl rfl 3 rfl ?_
  refine lz_callW (As := [.inr (.inl 0), .inl (xs (i + 1)), .inr (.inl 5001)]) (S := []) (q := 1289) hE ls_through rfl hmc hms (Nat.le_of_ble_eq_true rfl) dL_law_1286 rfl ?_ (by omega)
  refine lz_istore (q := 1291) (L' := (5, .inl (K 80 3)) :: [(0, .inr (.inl 5000)), (1, .inr (.inl 0)), (2, .inr (.inl 80)), (3, .inr (.inl 5001)), (4, .inl (nI i))]) dL_law_1289 rfl (by decide) rfl ?_
  refine lz_aload (q := 1292) dL_law_1291 rfl rfl 3 rfl ?_
  refine lz_arg (j := 1) dL_law_1292 dL_law_1293 dL_law_1295 (by decide) dL_law_1296 dL_law_1297 (show 1292 + 6 = 1298 from rfl) 1 5 rfl rfl (by omega) ?_
  refine lz_callV (As := [.inl (xs (i + 1))]) (S := []) (q := 1301) h2 mv_L_200 kd_80 rfl (by decide) (Nat.le_of_ble_eq_true rfl) dL_law_1298 rfl ?_
  refine lz_istore (q := 1303) (L' := (6, .inl r) :: (5, .inl (K 80 3)) :: [(0, .inr (.inl 5000)), (1, .inr (.inl 0)), (2, .inr (.inl 80)), (3, .inr (.inl 5001)), (4, .inl (nI i))]) dL_law_1301 rfl (by decide) rfl ?_
  refine lz_aload (q := 1304) dL_law_1303 rfl rfl 4 rfl ?_
  refine lz_callV (As := []) (S := []) (q := 1307) h3 mv_L_133 kd_80 rfl (by decide) (Nat.le_of_ble_eq_true rfl) dL_law_1304 rfl ?_
  refine lz_iload (q := 1309) dL_law_1307 rfl 1 rfl ?_
  refine lz_icmpeq (tgt := 1314) dL_law_1309 (by decide) rfl ?_
  refine lz_iload (q := 1316) dL_law_1314 rfl 1 rfl ?_
  refine lz_ifne (tgt := 1331) (q := 1319) dL_law_1316 (by decide) rfl (fun h9 => ?_) (fun h9 => ?_)
  · refine lz_goto (q := 2591) dL_law_1331 (by decide) ?_
    refine lz_pick [2, 3, 4, 5, 6] rfl ?_
    exact kk _ _ hI
  · refine lz_long (x := r) 5 0 dL_law_1319 dL_law_1320 dL_law_1321 dL_law_1322 dL_law_1324 dL_law_1325 dL_law_1326 rfl rfl (hlong h9) ?_
    refine lz_goto (q := 2591) dL_law_1331 (by decide) ?_
    refine lz_pick [2, 3, 4, 5, 6] rfl ?_
    exact kk _ _ hI
theorem lc_toBeDone (hl : l.stackTraces = false) (hz : zo_toBeDone N Inv) {σ : sm_M} (hI0 : Inv σ) (hi : i + 6 ≤ Lx) (h7 : n + 1 ≤ 600) (kk : ∀ τ v', Inv τ → lz_W l xs Lx (n + 1) 2591 [(0, .inr (.inl 5000)), (1, .inr (.inl 0)), (2, .inr (.inl 80)), (3, .inr (.inl 5001)), (4, .inl (nI i))] [] τ v') : lz_W l xs Lx n 1334 [(0, .inr (.inl 5000)), (1, .inr (.inl 0)), (2, .inr (.inl 80)), (3, .inr (.inl 5001)), (4, .inl (nI i))] [] σ v := by
  obtain ⟨I, R⟩ := σ
  obtain ⟨y, J, r, K, g1, g2, ⟨ha, hb⟩, hI⟩ := hz I R (xs (i + 1)) (xs (i + 2)) hI0
  obtain ⟨v', mc, ms, hmc, hms, hv, hE⟩ := wk_toBeDone (v := v) hl g1 ha
  have h2 := e_X12_toBeDone (l := l) g2
  have h3 := e_X12_thrown (l := l) (N := N) (R := R) (a0 := 80) (I := K) (y := (K 80 3, K)) (lc_thr N R K)
  have hlong : K 80 3 = 0 → r.toInt64 = v' := fun h9 => by
    rcases y with z | E
    · rw [hb z rfl, hv z rfl]
    · rcases ha with ⟨-, q1, q2⟩ | ⟨-, q1, q2⟩
      · exact absurd (q2.symm.trans h9) q1
      · exact absurd (q2.symm.trans h9) q1
  refine lz_aload (q := 1335) dL_law_1334 rfl rfl 1 rfl ?_
  refine lz_arg (j := 1) dL_law_1335 dL_law_1336 dL_law_1338 (by decide) dL_law_1339 dL_law_1340 (show 1335 + 6 = 1341 from rfl) 0 4 rfl rfl (by omega) ?_
  refine lz_arg (j := 2) dL_law_1341 dL_law_1342 dL_law_1344 (by decide) dL_law_1345 dL_law_1346 (show 1341 + 6 = 1347 from rfl) 0 4 rfl rfl (by omega) ?_
  refine lz_aload (q := 1348) dL_law_1347 rfl rfl 3 rfl ?_
  refine lz_callW (As := [.inr (.inl 0), .inl (xs (i + 1)), .inl (xs (i + 2)), .inr (.inl 5001)]) (S := []) (q := 1351) hE ls_toBeDone rfl hmc hms (Nat.le_of_ble_eq_true rfl) dL_law_1348 rfl ?_ (by omega)
  refine lz_istore (q := 1353) (L' := (5, .inl (K 80 3)) :: [(0, .inr (.inl 5000)), (1, .inr (.inl 0)), (2, .inr (.inl 80)), (3, .inr (.inl 5001)), (4, .inl (nI i))]) dL_law_1351 rfl (by decide) rfl ?_
  refine lz_aload (q := 1354) dL_law_1353 rfl rfl 3 rfl ?_
  refine lz_arg (j := 1) dL_law_1354 dL_law_1355 dL_law_1357 (by decide) dL_law_1358 dL_law_1359 (show 1354 + 6 = 1360 from rfl) 1 5 rfl rfl (by omega) ?_
  refine lz_arg (j := 2) dL_law_1360 dL_law_1361 dL_law_1363 (by decide) dL_law_1364 dL_law_1365 (show 1360 + 6 = 1366 from rfl) 1 5 rfl rfl (by omega) ?_
  refine lz_callV (As := [.inl (xs (i + 1)), .inl (xs (i + 2))]) (S := []) (q := 1369) h2 mv_L_203 kd_80 rfl (by decide) (Nat.le_of_ble_eq_true rfl) dL_law_1366 rfl ?_
  refine lz_istore (q := 1371) (L' := (6, .inl r) :: (5, .inl (K 80 3)) :: [(0, .inr (.inl 5000)), (1, .inr (.inl 0)), (2, .inr (.inl 80)), (3, .inr (.inl 5001)), (4, .inl (nI i))]) dL_law_1369 rfl (by decide) rfl ?_
  refine lz_aload (q := 1372) dL_law_1371 rfl rfl 4 rfl ?_
  refine lz_callV (As := []) (S := []) (q := 1375) h3 mv_L_133 kd_80 rfl (by decide) (Nat.le_of_ble_eq_true rfl) dL_law_1372 rfl ?_
  refine lz_iload (q := 1377) dL_law_1375 rfl 1 rfl ?_
  refine lz_icmpeq (tgt := 1382) dL_law_1377 (by decide) rfl ?_
  refine lz_iload (q := 1384) dL_law_1382 rfl 1 rfl ?_
  refine lz_ifne (tgt := 1399) (q := 1387) dL_law_1384 (by decide) rfl (fun h9 => ?_) (fun h9 => ?_)
  · refine lz_goto (q := 2591) dL_law_1399 (by decide) ?_
    refine lz_pick [2, 3, 4, 5, 6] rfl ?_
    exact kk _ _ hI
  · refine lz_long (x := r) 5 0 dL_law_1387 dL_law_1388 dL_law_1389 dL_law_1390 dL_law_1392 dL_law_1393 dL_law_1394 rfl rfl (hlong h9) ?_
    refine lz_goto (q := 2591) dL_law_1399 (by decide) ?_
    refine lz_pick [2, 3, 4, 5, 6] rfl ?_
    exact kk _ _ hI
theorem lc_fits (hl : l.stackTraces = false) (hz : zo_fits N Inv) {σ : sm_M} (hI0 : Inv σ) (hi : i + 6 ≤ Lx) (h7 : n + 1 ≤ 600) (kk : ∀ τ v', Inv τ → lz_W l xs Lx (n + 1) 2591 [(0, .inr (.inl 5000)), (1, .inr (.inl 0)), (2, .inr (.inl 80)), (3, .inr (.inl 5001)), (4, .inl (nI i))] [] τ v') : lz_W l xs Lx n 1402 [(0, .inr (.inl 5000)), (1, .inr (.inl 0)), (2, .inr (.inl 80)), (3, .inr (.inl 5001)), (4, .inl (nI i))] [] σ v := by
  obtain ⟨I, R⟩ := σ
  obtain ⟨y, J, r, K, g1, g2, ⟨ha, hb⟩, hI⟩ := hz I R (xs (i + 1)) (xs (i + 2)) hI0
  obtain ⟨v', mc, ms, hmc, hms, hv, hE⟩ := wk_fits (v := v) hl g1 ha
  have h2 := e_X12_fits (l := l) g2
  have h3 := e_X12_thrown (l := l) (N := N) (R := R) (a0 := 80) (I := K) (y := (K 80 3, K)) (lc_thr N R K)
  have hlong : K 80 3 = 0 → r.toInt64 = v' := fun h9 => by
    rcases y with z | E
    · rw [hb z rfl, hv z rfl]
    · rcases ha with ⟨-, q1, q2⟩ | ⟨-, q1, q2⟩
      · exact absurd (q2.symm.trans h9) q1
      · exact absurd (q2.symm.trans h9) q1
  refine lz_aload (q := 1403) dL_law_1402 rfl rfl 1 rfl ?_
  refine lz_arg (j := 1) dL_law_1403 dL_law_1404 dL_law_1406 (by decide) dL_law_1407 dL_law_1408 (show 1403 + 6 = 1409 from rfl) 0 4 rfl rfl (by omega) ?_
  refine lz_arg (j := 2) dL_law_1409 dL_law_1410 dL_law_1412 (by decide) dL_law_1413 dL_law_1414 (show 1409 + 6 = 1415 from rfl) 0 4 rfl rfl (by omega) ?_
  refine lz_aload (q := 1416) dL_law_1415 rfl rfl 3 rfl ?_
  refine lz_callW (As := [.inr (.inl 0), .inl (xs (i + 1)), .inl (xs (i + 2)), .inr (.inl 5001)]) (S := []) (q := 1419) hE ls_fits rfl hmc hms (Nat.le_of_ble_eq_true rfl) dL_law_1416 rfl ?_ (by omega)
  refine lz_istore (q := 1421) (L' := (5, .inl (K 80 3)) :: [(0, .inr (.inl 5000)), (1, .inr (.inl 0)), (2, .inr (.inl 80)), (3, .inr (.inl 5001)), (4, .inl (nI i))]) dL_law_1419 rfl (by decide) rfl ?_
  refine lz_aload (q := 1422) dL_law_1421 rfl rfl 3 rfl ?_
  refine lz_arg (j := 1) dL_law_1422 dL_law_1423 dL_law_1425 (by decide) dL_law_1426 dL_law_1427 (show 1422 + 6 = 1428 from rfl) 1 5 rfl rfl (by omega) ?_
  refine lz_arg (j := 2) dL_law_1428 dL_law_1429 dL_law_1431 (by decide) dL_law_1432 dL_law_1433 (show 1428 + 6 = 1434 from rfl) 1 5 rfl rfl (by omega) ?_
  refine lz_callV (As := [.inl (xs (i + 1)), .inl (xs (i + 2))]) (S := []) (q := 1437) h2 mv_L_206 kd_80 rfl (by decide) (Nat.le_of_ble_eq_true rfl) dL_law_1434 rfl ?_
  refine lz_istore (q := 1439) (L' := (6, .inl r) :: (5, .inl (K 80 3)) :: [(0, .inr (.inl 5000)), (1, .inr (.inl 0)), (2, .inr (.inl 80)), (3, .inr (.inl 5001)), (4, .inl (nI i))]) dL_law_1437 rfl (by decide) rfl ?_
  refine lz_aload (q := 1440) dL_law_1439 rfl rfl 4 rfl ?_
  refine lz_callV (As := []) (S := []) (q := 1443) h3 mv_L_133 kd_80 rfl (by decide) (Nat.le_of_ble_eq_true rfl) dL_law_1440 rfl ?_
  refine lz_iload (q := 1445) dL_law_1443 rfl 1 rfl ?_
  refine lz_icmpeq (tgt := 1450) dL_law_1445 (by decide) rfl ?_
  refine lz_iload (q := 1452) dL_law_1450 rfl 1 rfl ?_
  refine lz_ifne (tgt := 1467) (q := 1455) dL_law_1452 (by decide) rfl (fun h9 => ?_) (fun h9 => ?_)
  · refine lz_goto (q := 2591) dL_law_1467 (by decide) ?_
    refine lz_pick [2, 3, 4, 5, 6] rfl ?_
    exact kk _ _ hI
  · refine lz_long (x := r) 5 0 dL_law_1455 dL_law_1456 dL_law_1457 dL_law_1458 dL_law_1460 dL_law_1461 dL_law_1462 rfl rfl (hlong h9) ?_
    refine lz_goto (q := 2591) dL_law_1467 (by decide) ?_
    refine lz_pick [2, 3, 4, 5, 6] rfl ?_
    exact kk _ _ hI
theorem lc_repertoire (hl : l.stackTraces = false) (hz : zo_repertoire N Inv) {σ : sm_M} (hI0 : Inv σ) (hi : i + 6 ≤ Lx) (h7 : n + 1 ≤ 600) (kk : ∀ τ v', Inv τ → lz_W l xs Lx (n + 1) 2591 [(0, .inr (.inl 5000)), (1, .inr (.inl 0)), (2, .inr (.inl 80)), (3, .inr (.inl 5001)), (4, .inl (nI i))] [] τ v') : lz_W l xs Lx n 1470 [(0, .inr (.inl 5000)), (1, .inr (.inl 0)), (2, .inr (.inl 80)), (3, .inr (.inl 5001)), (4, .inl (nI i))] [] σ v := by
  obtain ⟨I, R⟩ := σ
  obtain ⟨y, J, r, K, g1, g2, ⟨ha, hb⟩, hI⟩ := hz I R (xs (i + 1)) hI0
  obtain ⟨v', mc, ms, hmc, hms, hv, hE⟩ := wk_repertoire (v := v) hl g1 ha
  have h2 := e_X12_repertoire (l := l) g2
  have h3 := e_X12_thrown (l := l) (N := N) (R := R) (a0 := 80) (I := K) (y := (K 80 3, K)) (lc_thr N R K)
  have hlong : K 80 3 = 0 → r.toInt64 = v' := fun h9 => by
    rcases y with z | E
    · rw [hb z rfl, hv z rfl]
    · rcases ha with ⟨-, q1, q2⟩ | ⟨-, q1, q2⟩
      · exact absurd (q2.symm.trans h9) q1
      · exact absurd (q2.symm.trans h9) q1
  refine lz_aload (q := 1471) dL_law_1470 rfl rfl 1 rfl ?_
  refine lz_arg (j := 1) dL_law_1471 dL_law_1472 dL_law_1474 (by decide) dL_law_1475 dL_law_1476 (show 1471 + 6 = 1477 from rfl) 0 4 rfl rfl (by omega) ?_
  refine lz_aload (q := 1478) dL_law_1477 rfl rfl 3 rfl ?_
  refine lz_callW (As := [.inr (.inl 0), .inl (xs (i + 1)), .inr (.inl 5001)]) (S := []) (q := 1481) hE ls_repertoire rfl hmc hms (Nat.le_of_ble_eq_true rfl) dL_law_1478 rfl ?_ (by omega)
  refine lz_istore (q := 1483) (L' := (5, .inl (K 80 3)) :: [(0, .inr (.inl 5000)), (1, .inr (.inl 0)), (2, .inr (.inl 80)), (3, .inr (.inl 5001)), (4, .inl (nI i))]) dL_law_1481 rfl (by decide) rfl ?_
  refine lz_aload (q := 1484) dL_law_1483 rfl rfl 3 rfl ?_
  refine lz_arg (j := 1) dL_law_1484 dL_law_1485 dL_law_1487 (by decide) dL_law_1488 dL_law_1489 (show 1484 + 6 = 1490 from rfl) 1 5 rfl rfl (by omega) ?_
  refine lz_callV (As := [.inl (xs (i + 1))]) (S := []) (q := 1493) h2 mv_L_209 kd_80 rfl (by decide) (Nat.le_of_ble_eq_true rfl) dL_law_1490 rfl ?_
  refine lz_istore (q := 1495) (L' := (6, .inl r) :: (5, .inl (K 80 3)) :: [(0, .inr (.inl 5000)), (1, .inr (.inl 0)), (2, .inr (.inl 80)), (3, .inr (.inl 5001)), (4, .inl (nI i))]) dL_law_1493 rfl (by decide) rfl ?_
  refine lz_aload (q := 1496) dL_law_1495 rfl rfl 4 rfl ?_
  refine lz_callV (As := []) (S := []) (q := 1499) h3 mv_L_133 kd_80 rfl (by decide) (Nat.le_of_ble_eq_true rfl) dL_law_1496 rfl ?_
  refine lz_iload (q := 1501) dL_law_1499 rfl 1 rfl ?_
  refine lz_icmpeq (tgt := 1506) dL_law_1501 (by decide) rfl ?_
  refine lz_iload (q := 1508) dL_law_1506 rfl 1 rfl ?_
  refine lz_ifne (tgt := 1523) (q := 1511) dL_law_1508 (by decide) rfl (fun h9 => ?_) (fun h9 => ?_)
  · refine lz_goto (q := 2591) dL_law_1523 (by decide) ?_
    refine lz_pick [2, 3, 4, 5, 6] rfl ?_
    exact kk _ _ hI
  · refine lz_long (x := r) 5 0 dL_law_1511 dL_law_1512 dL_law_1513 dL_law_1514 dL_law_1516 dL_law_1517 dL_law_1518 rfl rfl (hlong h9) ?_
    refine lz_goto (q := 2591) dL_law_1523 (by decide) ?_
    refine lz_pick [2, 3, 4, 5, 6] rfl ?_
    exact kk _ _ hI
theorem lc_choice (hl : l.stackTraces = false) (hz : zo_choice N Inv) {σ : sm_M} (hI0 : Inv σ) (hi : i + 6 ≤ Lx) (h7 : n + 1 ≤ 600) (kk : ∀ τ v', Inv τ → lz_W l xs Lx (n + 1) 2591 [(0, .inr (.inl 5000)), (1, .inr (.inl 0)), (2, .inr (.inl 80)), (3, .inr (.inl 5001)), (4, .inl (nI i))] [] τ v') : lz_W l xs Lx n 1526 [(0, .inr (.inl 5000)), (1, .inr (.inl 0)), (2, .inr (.inl 80)), (3, .inr (.inl 5001)), (4, .inl (nI i))] [] σ v := by
  obtain ⟨I, R⟩ := σ
  obtain ⟨y, J, r, K, g1, g2, ⟨ha, hb⟩, hI⟩ := hz I R (xs (i + 1)) hI0
  obtain ⟨v', mc, ms, hmc, hms, hv, hE⟩ := wk_choice (v := v) hl g1 ha
  have h2 := e_X12_choice (l := l) g2
  have h3 := e_X12_thrown (l := l) (N := N) (R := R) (a0 := 80) (I := K) (y := (K 80 3, K)) (lc_thr N R K)
  have hlong : K 80 3 = 0 → r.toInt64 = v' := fun h9 => by
    rcases y with z | E
    · rw [hb z rfl, hv z rfl]
    · rcases ha with ⟨-, q1, q2⟩ | ⟨-, q1, q2⟩
      · exact absurd (q2.symm.trans h9) q1
      · exact absurd (q2.symm.trans h9) q1
  refine lz_aload (q := 1527) dL_law_1526 rfl rfl 1 rfl ?_
  refine lz_arg (j := 1) dL_law_1527 dL_law_1528 dL_law_1530 (by decide) dL_law_1531 dL_law_1532 (show 1527 + 6 = 1533 from rfl) 0 4 rfl rfl (by omega) ?_
  refine lz_aload (q := 1534) dL_law_1533 rfl rfl 3 rfl ?_
  refine lz_callW (As := [.inr (.inl 0), .inl (xs (i + 1)), .inr (.inl 5001)]) (S := []) (q := 1537) hE ls_choice rfl hmc hms (Nat.le_of_ble_eq_true rfl) dL_law_1534 rfl ?_ (by omega)
  refine lz_istore (q := 1539) (L' := (5, .inl (K 80 3)) :: [(0, .inr (.inl 5000)), (1, .inr (.inl 0)), (2, .inr (.inl 80)), (3, .inr (.inl 5001)), (4, .inl (nI i))]) dL_law_1537 rfl (by decide) rfl ?_
  refine lz_aload (q := 1540) dL_law_1539 rfl rfl 3 rfl ?_
  refine lz_arg (j := 1) dL_law_1540 dL_law_1541 dL_law_1543 (by decide) dL_law_1544 dL_law_1545 (show 1540 + 6 = 1546 from rfl) 1 5 rfl rfl (by omega) ?_
  refine lz_callV (As := [.inl (xs (i + 1))]) (S := []) (q := 1549) h2 mv_L_212 kd_80 rfl (by decide) (Nat.le_of_ble_eq_true rfl) dL_law_1546 rfl ?_
  refine lz_istore (q := 1551) (L' := (6, .inl r) :: (5, .inl (K 80 3)) :: [(0, .inr (.inl 5000)), (1, .inr (.inl 0)), (2, .inr (.inl 80)), (3, .inr (.inl 5001)), (4, .inl (nI i))]) dL_law_1549 rfl (by decide) rfl ?_
  refine lz_aload (q := 1552) dL_law_1551 rfl rfl 4 rfl ?_
  refine lz_callV (As := []) (S := []) (q := 1555) h3 mv_L_133 kd_80 rfl (by decide) (Nat.le_of_ble_eq_true rfl) dL_law_1552 rfl ?_
  refine lz_iload (q := 1557) dL_law_1555 rfl 1 rfl ?_
  refine lz_icmpeq (tgt := 1562) dL_law_1557 (by decide) rfl ?_
  refine lz_iload (q := 1564) dL_law_1562 rfl 1 rfl ?_
  refine lz_ifne (tgt := 1579) (q := 1567) dL_law_1564 (by decide) rfl (fun h9 => ?_) (fun h9 => ?_)
  · refine lz_goto (q := 2591) dL_law_1579 (by decide) ?_
    refine lz_pick [2, 3, 4, 5, 6] rfl ?_
    exact kk _ _ hI
  · refine lz_long (x := r) 5 0 dL_law_1567 dL_law_1568 dL_law_1569 dL_law_1570 dL_law_1572 dL_law_1573 dL_law_1574 rfl rfl (hlong h9) ?_
    refine lz_goto (q := 2591) dL_law_1579 (by decide) ?_
    refine lz_pick [2, 3, 4, 5, 6] rfl ?_
    exact kk _ _ hI
theorem lc_hardest (hl : l.stackTraces = false) (hz : zo_hardest N Inv) {σ : sm_M} (hI0 : Inv σ) (hi : i + 6 ≤ Lx) (h7 : n + 1 ≤ 600) (kk : ∀ τ v', Inv τ → lz_W l xs Lx (n + 1) 2591 [(0, .inr (.inl 5000)), (1, .inr (.inl 0)), (2, .inr (.inl 80)), (3, .inr (.inl 5001)), (4, .inl (nI i))] [] τ v') : lz_W l xs Lx n 1582 [(0, .inr (.inl 5000)), (1, .inr (.inl 0)), (2, .inr (.inl 80)), (3, .inr (.inl 5001)), (4, .inl (nI i))] [] σ v := by
  obtain ⟨I, R⟩ := σ
  obtain ⟨r, J, K, g1, g2, hI⟩ := hz I R  hI0
  have h1 := e_X11_hardest (l := l) g1
  have h2 := e_X12_hardest (l := l) g2
  refine lz_aload (q := 1583) dL_law_1582 rfl rfl 1 rfl ?_
  refine lz_callV (As := []) (S := []) (q := 1586) h1 mv_L_213 kd_0 rfl (by decide) (Nat.le_of_ble_eq_true rfl) dL_law_1583 rfl ?_
  refine lz_aload (q := 1587) dL_law_1586 rfl rfl 2 rfl ?_
  refine lz_callV (As := []) (S := [.inl r]) (q := 1590) h2 mv_L_216 kd_80 rfl (by decide) (Nat.le_of_ble_eq_true rfl) dL_law_1587 rfl ?_
  refine lz_icmpeq (tgt := 2591) dL_law_1590 (by decide) rfl ?_
  exact lz_widen (by omega) h7 (kk _ _ hI)
theorem lc_concert (hl : l.stackTraces = false) (hz : zo_concert N Inv) {σ : sm_M} (hI0 : Inv σ) (hi : i + 6 ≤ Lx) (h7 : n + 1 ≤ 600) (kk : ∀ τ v', Inv τ → lz_W l xs Lx (n + 1) 2591 [(0, .inr (.inl 5000)), (1, .inr (.inl 0)), (2, .inr (.inl 80)), (3, .inr (.inl 5001)), (4, .inl (nI i))] [] τ v') : lz_W l xs Lx n 1595 [(0, .inr (.inl 5000)), (1, .inr (.inl 0)), (2, .inr (.inl 80)), (3, .inr (.inl 5001)), (4, .inl (nI i))] [] σ v := by
  obtain ⟨I, R⟩ := σ
  obtain ⟨y, J, r, K, g1, g2, ⟨ha, hb⟩, hI⟩ := hz I R (xs (i + 1)) (xs (i + 2)) hI0
  obtain ⟨v', mc, ms, hmc, hms, hv, hE⟩ := wk_concert (v := v) hl g1 ha
  have h2 := e_X12_concert (l := l) g2
  have h3 := e_X12_thrown (l := l) (N := N) (R := R) (a0 := 80) (I := K) (y := (K 80 3, K)) (lc_thr N R K)
  have hlong : K 80 3 = 0 → r.toInt64 = v' := fun h9 => by
    rcases y with z | E
    · rw [hb z rfl, hv z rfl]
    · rcases ha with ⟨-, q1, q2⟩ | ⟨-, q1, q2⟩
      · exact absurd (q2.symm.trans h9) q1
      · exact absurd (q2.symm.trans h9) q1
  refine lz_aload (q := 1596) dL_law_1595 rfl rfl 1 rfl ?_
  refine lz_arg (j := 1) dL_law_1596 dL_law_1597 dL_law_1599 (by decide) dL_law_1600 dL_law_1601 (show 1596 + 6 = 1602 from rfl) 0 4 rfl rfl (by omega) ?_
  refine lz_arg (j := 2) dL_law_1602 dL_law_1603 dL_law_1605 (by decide) dL_law_1606 dL_law_1607 (show 1602 + 6 = 1608 from rfl) 0 4 rfl rfl (by omega) ?_
  refine lz_aload (q := 1609) dL_law_1608 rfl rfl 3 rfl ?_
  refine lz_callW (As := [.inr (.inl 0), .inl (xs (i + 1)), .inl (xs (i + 2)), .inr (.inl 5001)]) (S := []) (q := 1612) hE ls_concert rfl hmc hms (Nat.le_of_ble_eq_true rfl) dL_law_1609 rfl ?_ (by omega)
  refine lz_istore (q := 1614) (L' := (5, .inl (K 80 3)) :: [(0, .inr (.inl 5000)), (1, .inr (.inl 0)), (2, .inr (.inl 80)), (3, .inr (.inl 5001)), (4, .inl (nI i))]) dL_law_1612 rfl (by decide) rfl ?_
  refine lz_aload (q := 1615) dL_law_1614 rfl rfl 3 rfl ?_
  refine lz_arg (j := 1) dL_law_1615 dL_law_1616 dL_law_1618 (by decide) dL_law_1619 dL_law_1620 (show 1615 + 6 = 1621 from rfl) 1 5 rfl rfl (by omega) ?_
  refine lz_arg (j := 2) dL_law_1621 dL_law_1622 dL_law_1624 (by decide) dL_law_1625 dL_law_1626 (show 1621 + 6 = 1627 from rfl) 1 5 rfl rfl (by omega) ?_
  refine lz_callV (As := [.inl (xs (i + 1)), .inl (xs (i + 2))]) (S := []) (q := 1630) h2 mv_L_219 kd_80 rfl (by decide) (Nat.le_of_ble_eq_true rfl) dL_law_1627 rfl ?_
  refine lz_istore (q := 1632) (L' := (6, .inl r) :: (5, .inl (K 80 3)) :: [(0, .inr (.inl 5000)), (1, .inr (.inl 0)), (2, .inr (.inl 80)), (3, .inr (.inl 5001)), (4, .inl (nI i))]) dL_law_1630 rfl (by decide) rfl ?_
  refine lz_aload (q := 1633) dL_law_1632 rfl rfl 4 rfl ?_
  refine lz_callV (As := []) (S := []) (q := 1636) h3 mv_L_133 kd_80 rfl (by decide) (Nat.le_of_ble_eq_true rfl) dL_law_1633 rfl ?_
  refine lz_iload (q := 1638) dL_law_1636 rfl 1 rfl ?_
  refine lz_icmpeq (tgt := 1643) dL_law_1638 (by decide) rfl ?_
  refine lz_iload (q := 1645) dL_law_1643 rfl 1 rfl ?_
  refine lz_ifne (tgt := 1660) (q := 1648) dL_law_1645 (by decide) rfl (fun h9 => ?_) (fun h9 => ?_)
  · refine lz_goto (q := 2591) dL_law_1660 (by decide) ?_
    refine lz_pick [2, 3, 4, 5, 6] rfl ?_
    exact kk _ _ hI
  · refine lz_long (x := r) 5 0 dL_law_1648 dL_law_1649 dL_law_1650 dL_law_1651 dL_law_1653 dL_law_1654 dL_law_1655 rfl rfl (hlong h9) ?_
    refine lz_goto (q := 2591) dL_law_1660 (by decide) ?_
    refine lz_pick [2, 3, 4, 5, 6] rfl ?_
    exact kk _ _ hI
theorem lc_duet (hl : l.stackTraces = false) (hz : zo_duet N Inv) {σ : sm_M} (hI0 : Inv σ) (hi : i + 6 ≤ Lx) (h7 : n + 1 ≤ 600) (kk : ∀ τ v', Inv τ → lz_W l xs Lx (n + 1) 2591 [(0, .inr (.inl 5000)), (1, .inr (.inl 0)), (2, .inr (.inl 80)), (3, .inr (.inl 5001)), (4, .inl (nI i))] [] τ v') : lz_W l xs Lx n 1663 [(0, .inr (.inl 5000)), (1, .inr (.inl 0)), (2, .inr (.inl 80)), (3, .inr (.inl 5001)), (4, .inl (nI i))] [] σ v := by
  obtain ⟨I, R⟩ := σ
  obtain ⟨r, J, K, g1, g2, hI⟩ := hz I R  hI0
  have h1 := e_X11_duet (l := l) g1
  have h2 := e_X12_duet (l := l) g2
  refine lz_aload (q := 1664) dL_law_1663 rfl rfl 1 rfl ?_
  refine lz_callV (As := []) (S := []) (q := 1667) h1 mv_L_220 kd_0 rfl (by decide) (Nat.le_of_ble_eq_true rfl) dL_law_1664 rfl ?_
  refine lz_aload (q := 1668) dL_law_1667 rfl rfl 2 rfl ?_
  refine lz_callV (As := []) (S := [.inl r]) (q := 1671) h2 mv_L_223 kd_80 rfl (by decide) (Nat.le_of_ble_eq_true rfl) dL_law_1668 rfl ?_
  refine lz_icmpeq (tgt := 2591) dL_law_1671 (by decide) rfl ?_
  exact lz_widen (by omega) h7 (kk _ _ hI)
theorem lc_next (hl : l.stackTraces = false) (hz : zo_next N Inv) {σ : sm_M} (hI0 : Inv σ) (hi : i + 6 ≤ Lx) (h7 : n + 1 ≤ 600) (kk : ∀ τ v', Inv τ → lz_W l xs Lx (n + 1) 2591 [(0, .inr (.inl 5000)), (1, .inr (.inl 0)), (2, .inr (.inl 80)), (3, .inr (.inl 5001)), (4, .inl (nI i))] [] τ v') : lz_W l xs Lx n 1676 [(0, .inr (.inl 5000)), (1, .inr (.inl 0)), (2, .inr (.inl 80)), (3, .inr (.inl 5001)), (4, .inl (nI i))] [] σ v := by
  obtain ⟨I, R⟩ := σ
  obtain ⟨y, J, r, K, g1, g2, ⟨ha, hb⟩, hI⟩ := hz I R (xs (i + 1)) hI0
  obtain ⟨v', mc, ms, hmc, hms, hv, hE⟩ := wk_next (v := v) hl g1 ha
  have h2 := e_X12_next (l := l) g2
  have h3 := e_X12_thrown (l := l) (N := N) (R := R) (a0 := 80) (I := K) (y := (K 80 3, K)) (lc_thr N R K)
  have hlong : K 80 3 = 0 → r.toInt64 = v' := fun h9 => by
    rcases y with z | E
    · rw [hb z rfl, hv z rfl]
    · rcases ha with ⟨-, q1, q2⟩ | ⟨-, q1, q2⟩
      · exact absurd (q2.symm.trans h9) q1
      · exact absurd (q2.symm.trans h9) q1
  refine lz_aload (q := 1677) dL_law_1676 rfl rfl 1 rfl ?_
  refine lz_arg (j := 1) dL_law_1677 dL_law_1678 dL_law_1680 (by decide) dL_law_1681 dL_law_1682 (show 1677 + 6 = 1683 from rfl) 0 4 rfl rfl (by omega) ?_
  refine lz_aload (q := 1684) dL_law_1683 rfl rfl 3 rfl ?_
  refine lz_callW (As := [.inr (.inl 0), .inl (xs (i + 1)), .inr (.inl 5001)]) (S := []) (q := 1687) hE ls_next rfl hmc hms (Nat.le_of_ble_eq_true rfl) dL_law_1684 rfl ?_ (by omega)
  refine lz_istore (q := 1689) (L' := (5, .inl (K 80 3)) :: [(0, .inr (.inl 5000)), (1, .inr (.inl 0)), (2, .inr (.inl 80)), (3, .inr (.inl 5001)), (4, .inl (nI i))]) dL_law_1687 rfl (by decide) rfl ?_
  refine lz_aload (q := 1690) dL_law_1689 rfl rfl 3 rfl ?_
  refine lz_arg (j := 1) dL_law_1690 dL_law_1691 dL_law_1693 (by decide) dL_law_1694 dL_law_1695 (show 1690 + 6 = 1696 from rfl) 1 5 rfl rfl (by omega) ?_
  refine lz_callV (As := [.inl (xs (i + 1))]) (S := []) (q := 1699) h2 mv_L_226 kd_80 rfl (by decide) (Nat.le_of_ble_eq_true rfl) dL_law_1696 rfl ?_
  refine lz_istore (q := 1701) (L' := (6, .inl r) :: (5, .inl (K 80 3)) :: [(0, .inr (.inl 5000)), (1, .inr (.inl 0)), (2, .inr (.inl 80)), (3, .inr (.inl 5001)), (4, .inl (nI i))]) dL_law_1699 rfl (by decide) rfl ?_
  refine lz_aload (q := 1702) dL_law_1701 rfl rfl 4 rfl ?_
  refine lz_callV (As := []) (S := []) (q := 1705) h3 mv_L_133 kd_80 rfl (by decide) (Nat.le_of_ble_eq_true rfl) dL_law_1702 rfl ?_
  refine lz_iload (q := 1707) dL_law_1705 rfl 1 rfl ?_
  refine lz_icmpeq (tgt := 1712) dL_law_1707 (by decide) rfl ?_
  refine lz_iload (q := 1714) dL_law_1712 rfl 1 rfl ?_
  refine lz_ifne (tgt := 1729) (q := 1717) dL_law_1714 (by decide) rfl (fun h9 => ?_) (fun h9 => ?_)
  · refine lz_goto (q := 2591) dL_law_1729 (by decide) ?_
    refine lz_pick [2, 3, 4, 5, 6] rfl ?_
    exact kk _ _ hI
  · refine lz_long (x := r) 5 0 dL_law_1717 dL_law_1718 dL_law_1719 dL_law_1720 dL_law_1722 dL_law_1723 dL_law_1724 rfl rfl (hlong h9) ?_
    refine lz_goto (q := 2591) dL_law_1729 (by decide) ?_
    refine lz_pick [2, 3, 4, 5, 6] rfl ?_
    exact kk _ _ hI
theorem lc_rush (hl : l.stackTraces = false) (hz : zo_rush N Inv) {σ : sm_M} (hI0 : Inv σ) (hi : i + 6 ≤ Lx) (h7 : n + 1 ≤ 600) (kk : ∀ τ v', Inv τ → lz_W l xs Lx (n + 1) 2591 [(0, .inr (.inl 5000)), (1, .inr (.inl 0)), (2, .inr (.inl 80)), (3, .inr (.inl 5001)), (4, .inl (nI i))] [] τ v') : lz_W l xs Lx n 1732 [(0, .inr (.inl 5000)), (1, .inr (.inl 0)), (2, .inr (.inl 80)), (3, .inr (.inl 5001)), (4, .inl (nI i))] [] σ v := by
  obtain ⟨I, R⟩ := σ
  obtain ⟨y, J, r, K, g1, g2, ⟨ha, hb⟩, hI⟩ := hz I R (xs (i + 1)) (xs (i + 2)) hI0
  obtain ⟨v', mc, ms, hmc, hms, hv, hE⟩ := wk_rush (v := v) hl g1 ha
  have h2 := e_X12_rush (l := l) g2
  have h3 := e_X12_thrown (l := l) (N := N) (R := R) (a0 := 80) (I := K) (y := (K 80 3, K)) (lc_thr N R K)
  have hlong : K 80 3 = 0 → r.toInt64 = v' := fun h9 => by
    rcases y with z | E
    · rw [hb z rfl, hv z rfl]
    · rcases ha with ⟨-, q1, q2⟩ | ⟨-, q1, q2⟩
      · exact absurd (q2.symm.trans h9) q1
      · exact absurd (q2.symm.trans h9) q1
  refine lz_aload (q := 1733) dL_law_1732 rfl rfl 1 rfl ?_
  refine lz_arg (j := 1) dL_law_1733 dL_law_1734 dL_law_1736 (by decide) dL_law_1737 dL_law_1738 (show 1733 + 6 = 1739 from rfl) 0 4 rfl rfl (by omega) ?_
  refine lz_arg (j := 2) dL_law_1739 dL_law_1740 dL_law_1742 (by decide) dL_law_1743 dL_law_1744 (show 1739 + 6 = 1745 from rfl) 0 4 rfl rfl (by omega) ?_
  refine lz_aload (q := 1746) dL_law_1745 rfl rfl 3 rfl ?_
  refine lz_callW (As := [.inr (.inl 0), .inl (xs (i + 1)), .inl (xs (i + 2)), .inr (.inl 5001)]) (S := []) (q := 1749) hE ls_rush rfl hmc hms (Nat.le_of_ble_eq_true rfl) dL_law_1746 rfl ?_ (by omega)
  refine lz_istore (q := 1751) (L' := (5, .inl (K 80 3)) :: [(0, .inr (.inl 5000)), (1, .inr (.inl 0)), (2, .inr (.inl 80)), (3, .inr (.inl 5001)), (4, .inl (nI i))]) dL_law_1749 rfl (by decide) rfl ?_
  refine lz_aload (q := 1752) dL_law_1751 rfl rfl 3 rfl ?_
  refine lz_arg (j := 1) dL_law_1752 dL_law_1753 dL_law_1755 (by decide) dL_law_1756 dL_law_1757 (show 1752 + 6 = 1758 from rfl) 1 5 rfl rfl (by omega) ?_
  refine lz_arg (j := 2) dL_law_1758 dL_law_1759 dL_law_1761 (by decide) dL_law_1762 dL_law_1763 (show 1758 + 6 = 1764 from rfl) 1 5 rfl rfl (by omega) ?_
  refine lz_callV (As := [.inl (xs (i + 1)), .inl (xs (i + 2))]) (S := []) (q := 1767) h2 mv_L_229 kd_80 rfl (by decide) (Nat.le_of_ble_eq_true rfl) dL_law_1764 rfl ?_
  refine lz_istore (q := 1769) (L' := (6, .inl r) :: (5, .inl (K 80 3)) :: [(0, .inr (.inl 5000)), (1, .inr (.inl 0)), (2, .inr (.inl 80)), (3, .inr (.inl 5001)), (4, .inl (nI i))]) dL_law_1767 rfl (by decide) rfl ?_
  refine lz_aload (q := 1770) dL_law_1769 rfl rfl 4 rfl ?_
  refine lz_callV (As := []) (S := []) (q := 1773) h3 mv_L_133 kd_80 rfl (by decide) (Nat.le_of_ble_eq_true rfl) dL_law_1770 rfl ?_
  refine lz_iload (q := 1775) dL_law_1773 rfl 1 rfl ?_
  refine lz_icmpeq (tgt := 1780) dL_law_1775 (by decide) rfl ?_
  refine lz_iload (q := 1782) dL_law_1780 rfl 1 rfl ?_
  refine lz_ifne (tgt := 1797) (q := 1785) dL_law_1782 (by decide) rfl (fun h9 => ?_) (fun h9 => ?_)
  · refine lz_goto (q := 2591) dL_law_1797 (by decide) ?_
    refine lz_pick [2, 3, 4, 5, 6] rfl ?_
    exact kk _ _ hI
  · refine lz_long (x := r) 5 0 dL_law_1785 dL_law_1786 dL_law_1787 dL_law_1788 dL_law_1790 dL_law_1791 dL_law_1792 rfl rfl (hlong h9) ?_
    refine lz_goto (q := 2591) dL_law_1797 (by decide) ?_
    refine lz_pick [2, 3, 4, 5, 6] rfl ?_
    exact kk _ _ hI
theorem lc_sorest (hl : l.stackTraces = false) (hz : zo_sorest N Inv) {σ : sm_M} (hI0 : Inv σ) (hi : i + 6 ≤ Lx) (h7 : n + 1 ≤ 600) (kk : ∀ τ v', Inv τ → lz_W l xs Lx (n + 1) 2591 [(0, .inr (.inl 5000)), (1, .inr (.inl 0)), (2, .inr (.inl 80)), (3, .inr (.inl 5001)), (4, .inl (nI i))] [] τ v') : lz_W l xs Lx n 1800 [(0, .inr (.inl 5000)), (1, .inr (.inl 0)), (2, .inr (.inl 80)), (3, .inr (.inl 5001)), (4, .inl (nI i))] [] σ v := by
  obtain ⟨I, R⟩ := σ
  obtain ⟨y, J, r, K, g1, g2, ⟨ha, hb⟩, hI⟩ := hz I R (xs (i + 1)) hI0
  obtain ⟨v', mc, ms, hmc, hms, hv, hE⟩ := wk_sorest (v := v) hl g1 ha
  have h2 := e_X12_sorest (l := l) g2
  have h3 := e_X12_thrown (l := l) (N := N) (R := R) (a0 := 80) (I := K) (y := (K 80 3, K)) (lc_thr N R K)
  have hlong : K 80 3 = 0 → r.toInt64 = v' := fun h9 => by
    rcases y with z | E
    · rw [hb z rfl, hv z rfl]
    · rcases ha with ⟨-, q1, q2⟩ | ⟨-, q1, q2⟩
      · exact absurd (q2.symm.trans h9) q1
      · exact absurd (q2.symm.trans h9) q1
  refine lz_aload (q := 1801) dL_law_1800 rfl rfl 1 rfl ?_
  refine lz_arg (j := 1) dL_law_1801 dL_law_1802 dL_law_1804 (by decide) dL_law_1805 dL_law_1806 (show 1801 + 6 = 1807 from rfl) 0 4 rfl rfl (by omega) ?_
  refine lz_aload (q := 1808) dL_law_1807 rfl rfl 3 rfl ?_
  refine lz_callW (As := [.inr (.inl 0), .inl (xs (i + 1)), .inr (.inl 5001)]) (S := []) (q := 1811) hE ls_sorest rfl hmc hms (Nat.le_of_ble_eq_true rfl) dL_law_1808 rfl ?_ (by omega)
  refine lz_istore (q := 1813) (L' := (5, .inl (K 80 3)) :: [(0, .inr (.inl 5000)), (1, .inr (.inl 0)), (2, .inr (.inl 80)), (3, .inr (.inl 5001)), (4, .inl (nI i))]) dL_law_1811 rfl (by decide) rfl ?_
  refine lz_aload (q := 1814) dL_law_1813 rfl rfl 3 rfl ?_
  refine lz_arg (j := 1) dL_law_1814 dL_law_1815 dL_law_1817 (by decide) dL_law_1818 dL_law_1819 (show 1814 + 6 = 1820 from rfl) 1 5 rfl rfl (by omega) ?_
  refine lz_callV (As := [.inl (xs (i + 1))]) (S := []) (q := 1823) h2 mv_L_232 kd_80 rfl (by decide) (Nat.le_of_ble_eq_true rfl) dL_law_1820 rfl ?_
  refine lz_istore (q := 1825) (L' := (6, .inl r) :: (5, .inl (K 80 3)) :: [(0, .inr (.inl 5000)), (1, .inr (.inl 0)), (2, .inr (.inl 80)), (3, .inr (.inl 5001)), (4, .inl (nI i))]) dL_law_1823 rfl (by decide) rfl ?_
  refine lz_aload (q := 1826) dL_law_1825 rfl rfl 4 rfl ?_
  refine lz_callV (As := []) (S := []) (q := 1829) h3 mv_L_133 kd_80 rfl (by decide) (Nat.le_of_ble_eq_true rfl) dL_law_1826 rfl ?_
  refine lz_iload (q := 1831) dL_law_1829 rfl 1 rfl ?_
  refine lz_icmpeq (tgt := 1836) dL_law_1831 (by decide) rfl ?_
  refine lz_iload (q := 1838) dL_law_1836 rfl 1 rfl ?_
  refine lz_ifne (tgt := 1853) (q := 1841) dL_law_1838 (by decide) rfl (fun h9 => ?_) (fun h9 => ?_)
  · refine lz_goto (q := 2591) dL_law_1853 (by decide) ?_
    refine lz_pick [2, 3, 4, 5, 6] rfl ?_
    exact kk _ _ hI
  · refine lz_long (x := r) 5 0 dL_law_1841 dL_law_1842 dL_law_1843 dL_law_1844 dL_law_1846 dL_law_1847 dL_law_1848 rfl rfl (hlong h9) ?_
    refine lz_goto (q := 2591) dL_law_1853 (by decide) ?_
    refine lz_pick [2, 3, 4, 5, 6] rfl ?_
    exact kk _ _ hI
theorem lc_toGlove (hl : l.stackTraces = false) (hz : zo_toGlove N Inv) {σ : sm_M} (hI0 : Inv σ) (hi : i + 6 ≤ Lx) (h7 : n + 1 ≤ 600) (kk : ∀ τ v', Inv τ → lz_W l xs Lx (n + 1) 2591 [(0, .inr (.inl 5000)), (1, .inr (.inl 0)), (2, .inr (.inl 80)), (3, .inr (.inl 5001)), (4, .inl (nI i))] [] τ v') : lz_W l xs Lx n 1856 [(0, .inr (.inl 5000)), (1, .inr (.inl 0)), (2, .inr (.inl 80)), (3, .inr (.inl 5001)), (4, .inl (nI i))] [] σ v := by
  obtain ⟨I, R⟩ := σ
  obtain ⟨y, J, r, K, g1, g2, ⟨ha, hb⟩, hI⟩ := hz I R (xs (i + 1)) hI0
  obtain ⟨v', mc, ms, hmc, hms, hv, hE⟩ := wk_toGlove (v := v) hl g1 ha
  have h2 := e_X12_toGlove (l := l) g2
  have h3 := e_X12_thrown (l := l) (N := N) (R := R) (a0 := 80) (I := K) (y := (K 80 3, K)) (lc_thr N R K)
  have hlong : K 80 3 = 0 → r.toInt64 = v' := fun h9 => by
    rcases y with z | E
    · rw [hb z rfl, hv z rfl]
    · rcases ha with ⟨-, q1, q2⟩ | ⟨-, q1, q2⟩
      · exact absurd (q2.symm.trans h9) q1
      · exact absurd (q2.symm.trans h9) q1
  refine lz_aload (q := 1857) dL_law_1856 rfl rfl 1 rfl ?_
  refine lz_arg (j := 1) dL_law_1857 dL_law_1858 dL_law_1860 (by decide) dL_law_1861 dL_law_1862 (show 1857 + 6 = 1863 from rfl) 0 4 rfl rfl (by omega) ?_
  refine lz_aload (q := 1864) dL_law_1863 rfl rfl 3 rfl ?_
  refine lz_callW (As := [.inr (.inl 0), .inl (xs (i + 1)), .inr (.inl 5001)]) (S := []) (q := 1867) hE ls_toGlove rfl hmc hms (Nat.le_of_ble_eq_true rfl) dL_law_1864 rfl ?_ (by omega)
  refine lz_istore (q := 1869) (L' := (5, .inl (K 80 3)) :: [(0, .inr (.inl 5000)), (1, .inr (.inl 0)), (2, .inr (.inl 80)), (3, .inr (.inl 5001)), (4, .inl (nI i))]) dL_law_1867 rfl (by decide) rfl ?_
  refine lz_aload (q := 1870) dL_law_1869 rfl rfl 3 rfl ?_
  refine lz_arg (j := 1) dL_law_1870 dL_law_1871 dL_law_1873 (by decide) dL_law_1874 dL_law_1875 (show 1870 + 6 = 1876 from rfl) 1 5 rfl rfl (by omega) ?_
  refine lz_callV (As := [.inl (xs (i + 1))]) (S := []) (q := 1879) h2 mv_L_235 kd_80 rfl (by decide) (Nat.le_of_ble_eq_true rfl) dL_law_1876 rfl ?_
  refine lz_istore (q := 1881) (L' := (6, .inl r) :: (5, .inl (K 80 3)) :: [(0, .inr (.inl 5000)), (1, .inr (.inl 0)), (2, .inr (.inl 80)), (3, .inr (.inl 5001)), (4, .inl (nI i))]) dL_law_1879 rfl (by decide) rfl ?_
  refine lz_aload (q := 1882) dL_law_1881 rfl rfl 4 rfl ?_
  refine lz_callV (As := []) (S := []) (q := 1885) h3 mv_L_133 kd_80 rfl (by decide) (Nat.le_of_ble_eq_true rfl) dL_law_1882 rfl ?_
  refine lz_iload (q := 1887) dL_law_1885 rfl 1 rfl ?_
  refine lz_icmpeq (tgt := 1892) dL_law_1887 (by decide) rfl ?_
  refine lz_iload (q := 1894) dL_law_1892 rfl 1 rfl ?_
  refine lz_ifne (tgt := 1909) (q := 1897) dL_law_1894 (by decide) rfl (fun h9 => ?_) (fun h9 => ?_)
  · refine lz_goto (q := 2591) dL_law_1909 (by decide) ?_
    refine lz_pick [2, 3, 4, 5, 6] rfl ?_
    exact kk _ _ hI
  · refine lz_long (x := r) 5 0 dL_law_1897 dL_law_1898 dL_law_1899 dL_law_1900 dL_law_1902 dL_law_1903 dL_law_1904 rfl rfl (hlong h9) ?_
    refine lz_goto (q := 2591) dL_law_1909 (by decide) ?_
    refine lz_pick [2, 3, 4, 5, 6] rfl ?_
    exact kk _ _ hI
theorem lc_full (hl : l.stackTraces = false) (hz : zo_full N Inv) {σ : sm_M} (hI0 : Inv σ) (hi : i + 6 ≤ Lx) (h7 : n + 1 ≤ 600) (kk : ∀ τ v', Inv τ → lz_W l xs Lx (n + 1) 2591 [(0, .inr (.inl 5000)), (1, .inr (.inl 0)), (2, .inr (.inl 80)), (3, .inr (.inl 5001)), (4, .inl (nI i))] [] τ v') : lz_W l xs Lx n 1912 [(0, .inr (.inl 5000)), (1, .inr (.inl 0)), (2, .inr (.inl 80)), (3, .inr (.inl 5001)), (4, .inl (nI i))] [] σ v := by
  obtain ⟨I, R⟩ := σ
  obtain ⟨y, J, r, K, g1, g2, ⟨ha, hb⟩, hI⟩ := hz I R (xs (i + 1)) hI0
  obtain ⟨v', mc, ms, hmc, hms, hv, hE⟩ := wk_full (v := v) hl g1 ha
  have h2 := e_X12_full (l := l) g2
  have h3 := e_X12_thrown (l := l) (N := N) (R := R) (a0 := 80) (I := K) (y := (K 80 3, K)) (lc_thr N R K)
  have hlong : K 80 3 = 0 → r.toInt64 = v' := fun h9 => by
    rcases y with z | E
    · rw [hb z rfl, hv z rfl]
    · rcases ha with ⟨-, q1, q2⟩ | ⟨-, q1, q2⟩
      · exact absurd (q2.symm.trans h9) q1
      · exact absurd (q2.symm.trans h9) q1
  refine lz_aload (q := 1913) dL_law_1912 rfl rfl 1 rfl ?_
  refine lz_arg (j := 1) dL_law_1913 dL_law_1914 dL_law_1916 (by decide) dL_law_1917 dL_law_1918 (show 1913 + 6 = 1919 from rfl) 0 4 rfl rfl (by omega) ?_
  refine lz_aload (q := 1920) dL_law_1919 rfl rfl 3 rfl ?_
  refine lz_callW (As := [.inr (.inl 0), .inl (xs (i + 1)), .inr (.inl 5001)]) (S := []) (q := 1923) hE ls_full rfl hmc hms (Nat.le_of_ble_eq_true rfl) dL_law_1920 rfl ?_ (by omega)
  refine lz_istore (q := 1925) (L' := (5, .inl (K 80 3)) :: [(0, .inr (.inl 5000)), (1, .inr (.inl 0)), (2, .inr (.inl 80)), (3, .inr (.inl 5001)), (4, .inl (nI i))]) dL_law_1923 rfl (by decide) rfl ?_
  refine lz_aload (q := 1926) dL_law_1925 rfl rfl 3 rfl ?_
  refine lz_arg (j := 1) dL_law_1926 dL_law_1927 dL_law_1929 (by decide) dL_law_1930 dL_law_1931 (show 1926 + 6 = 1932 from rfl) 1 5 rfl rfl (by omega) ?_
  refine lz_callV (As := [.inl (xs (i + 1))]) (S := []) (q := 1935) h2 mv_L_238 kd_80 rfl (by decide) (Nat.le_of_ble_eq_true rfl) dL_law_1932 rfl ?_
  refine lz_istore (q := 1937) (L' := (6, .inl r) :: (5, .inl (K 80 3)) :: [(0, .inr (.inl 5000)), (1, .inr (.inl 0)), (2, .inr (.inl 80)), (3, .inr (.inl 5001)), (4, .inl (nI i))]) dL_law_1935 rfl (by decide) rfl ?_
  refine lz_aload (q := 1938) dL_law_1937 rfl rfl 4 rfl ?_
  refine lz_callV (As := []) (S := []) (q := 1941) h3 mv_L_133 kd_80 rfl (by decide) (Nat.le_of_ble_eq_true rfl) dL_law_1938 rfl ?_
  refine lz_iload (q := 1943) dL_law_1941 rfl 1 rfl ?_
  refine lz_icmpeq (tgt := 1948) dL_law_1943 (by decide) rfl ?_
  refine lz_iload (q := 1950) dL_law_1948 rfl 1 rfl ?_
  refine lz_ifne (tgt := 1965) (q := 1953) dL_law_1950 (by decide) rfl (fun h9 => ?_) (fun h9 => ?_)
  · refine lz_goto (q := 2591) dL_law_1965 (by decide) ?_
    refine lz_pick [2, 3, 4, 5, 6] rfl ?_
    exact kk _ _ hI
  · refine lz_long (x := r) 5 0 dL_law_1953 dL_law_1954 dL_law_1955 dL_law_1956 dL_law_1958 dL_law_1959 dL_law_1960 rfl rfl (hlong h9) ?_
    refine lz_goto (q := 2591) dL_law_1965 (by decide) ?_
    refine lz_pick [2, 3, 4, 5, 6] rfl ?_
    exact kk _ _ hI
theorem lc_empty (hl : l.stackTraces = false) (hz : zo_empty N Inv) {σ : sm_M} (hI0 : Inv σ) (hi : i + 6 ≤ Lx) (h7 : n + 1 ≤ 600) (kk : ∀ τ v', Inv τ → lz_W l xs Lx (n + 1) 2591 [(0, .inr (.inl 5000)), (1, .inr (.inl 0)), (2, .inr (.inl 80)), (3, .inr (.inl 5001)), (4, .inl (nI i))] [] τ v') : lz_W l xs Lx n 1968 [(0, .inr (.inl 5000)), (1, .inr (.inl 0)), (2, .inr (.inl 80)), (3, .inr (.inl 5001)), (4, .inl (nI i))] [] σ v := by
  obtain ⟨I, R⟩ := σ
  obtain ⟨y, J, r, K, g1, g2, ⟨ha, hb⟩, hI⟩ := hz I R (xs (i + 1)) hI0
  obtain ⟨v', mc, ms, hmc, hms, hv, hE⟩ := wk_empty (v := v) hl g1 ha
  have h2 := e_X12_empty (l := l) g2
  have h3 := e_X12_thrown (l := l) (N := N) (R := R) (a0 := 80) (I := K) (y := (K 80 3, K)) (lc_thr N R K)
  have hlong : K 80 3 = 0 → r.toInt64 = v' := fun h9 => by
    rcases y with z | E
    · rw [hb z rfl, hv z rfl]
    · rcases ha with ⟨-, q1, q2⟩ | ⟨-, q1, q2⟩
      · exact absurd (q2.symm.trans h9) q1
      · exact absurd (q2.symm.trans h9) q1
  refine lz_aload (q := 1969) dL_law_1968 rfl rfl 1 rfl ?_
  refine lz_arg (j := 1) dL_law_1969 dL_law_1970 dL_law_1972 (by decide) dL_law_1973 dL_law_1974 (show 1969 + 6 = 1975 from rfl) 0 4 rfl rfl (by omega) ?_
  refine lz_aload (q := 1976) dL_law_1975 rfl rfl 3 rfl ?_
  refine lz_callW (As := [.inr (.inl 0), .inl (xs (i + 1)), .inr (.inl 5001)]) (S := []) (q := 1979) hE ls_empty rfl hmc hms (Nat.le_of_ble_eq_true rfl) dL_law_1976 rfl ?_ (by omega)
  refine lz_istore (q := 1981) (L' := (5, .inl (K 80 3)) :: [(0, .inr (.inl 5000)), (1, .inr (.inl 0)), (2, .inr (.inl 80)), (3, .inr (.inl 5001)), (4, .inl (nI i))]) dL_law_1979 rfl (by decide) rfl ?_
  refine lz_aload (q := 1982) dL_law_1981 rfl rfl 3 rfl ?_
  refine lz_arg (j := 1) dL_law_1982 dL_law_1983 dL_law_1985 (by decide) dL_law_1986 dL_law_1987 (show 1982 + 6 = 1988 from rfl) 1 5 rfl rfl (by omega) ?_
  refine lz_callV (As := [.inl (xs (i + 1))]) (S := []) (q := 1991) h2 mv_L_241 kd_80 rfl (by decide) (Nat.le_of_ble_eq_true rfl) dL_law_1988 rfl ?_
  refine lz_istore (q := 1993) (L' := (6, .inl r) :: (5, .inl (K 80 3)) :: [(0, .inr (.inl 5000)), (1, .inr (.inl 0)), (2, .inr (.inl 80)), (3, .inr (.inl 5001)), (4, .inl (nI i))]) dL_law_1991 rfl (by decide) rfl ?_
  refine lz_aload (q := 1994) dL_law_1993 rfl rfl 4 rfl ?_
  refine lz_callV (As := []) (S := []) (q := 1997) h3 mv_L_133 kd_80 rfl (by decide) (Nat.le_of_ble_eq_true rfl) dL_law_1994 rfl ?_
  refine lz_iload (q := 1999) dL_law_1997 rfl 1 rfl ?_
  refine lz_icmpeq (tgt := 2004) dL_law_1999 (by decide) rfl ?_
  refine lz_iload (q := 2006) dL_law_2004 rfl 1 rfl ?_
  refine lz_ifne (tgt := 2021) (q := 2009) dL_law_2006 (by decide) rfl (fun h9 => ?_) (fun h9 => ?_)
  · refine lz_goto (q := 2591) dL_law_2021 (by decide) ?_
    refine lz_pick [2, 3, 4, 5, 6] rfl ?_
    exact kk _ _ hI
  · refine lz_long (x := r) 5 0 dL_law_2009 dL_law_2010 dL_law_2011 dL_law_2012 dL_law_2014 dL_law_2015 dL_law_2016 rfl rfl (hlong h9) ?_
    refine lz_goto (q := 2591) dL_law_2021 (by decide) ?_
    refine lz_pick [2, 3, 4, 5, 6] rfl ?_
    exact kk _ _ hI
theorem lc_common (hl : l.stackTraces = false) (hz : zo_common N Inv) {σ : sm_M} (hI0 : Inv σ) (hi : i + 6 ≤ Lx) (h7 : n + 1 ≤ 600) (kk : ∀ τ v', Inv τ → lz_W l xs Lx (n + 1) 2591 [(0, .inr (.inl 5000)), (1, .inr (.inl 0)), (2, .inr (.inl 80)), (3, .inr (.inl 5001)), (4, .inl (nI i))] [] τ v') : lz_W l xs Lx n 2024 [(0, .inr (.inl 5000)), (1, .inr (.inl 0)), (2, .inr (.inl 80)), (3, .inr (.inl 5001)), (4, .inl (nI i))] [] σ v := by
  obtain ⟨I, R⟩ := σ
  obtain ⟨y, J, r, K, g1, g2, ⟨ha, hb⟩, hI⟩ := hz I R (xs (i + 1)) (xs (i + 2)) hI0
  obtain ⟨v', mc, ms, hmc, hms, hv, hE⟩ := wk_common (v := v) hl g1 ha
  have h2 := e_X12_common (l := l) g2
  have h3 := e_X12_thrown (l := l) (N := N) (R := R) (a0 := 80) (I := K) (y := (K 80 3, K)) (lc_thr N R K)
  have hlong : K 80 3 = 0 → r.toInt64 = v' := fun h9 => by
    rcases y with z | E
    · rw [hb z rfl, hv z rfl]
    · rcases ha with ⟨-, q1, q2⟩ | ⟨-, q1, q2⟩
      · exact absurd (q2.symm.trans h9) q1
      · exact absurd (q2.symm.trans h9) q1
  refine lz_aload (q := 2025) dL_law_2024 rfl rfl 1 rfl ?_
  refine lz_arg (j := 1) dL_law_2025 dL_law_2026 dL_law_2028 (by decide) dL_law_2029 dL_law_2030 (show 2025 + 6 = 2031 from rfl) 0 4 rfl rfl (by omega) ?_
  refine lz_arg (j := 2) dL_law_2031 dL_law_2032 dL_law_2034 (by decide) dL_law_2035 dL_law_2036 (show 2031 + 6 = 2037 from rfl) 0 4 rfl rfl (by omega) ?_
  refine lz_aload (q := 2038) dL_law_2037 rfl rfl 3 rfl ?_
  refine lz_callW (As := [.inr (.inl 0), .inl (xs (i + 1)), .inl (xs (i + 2)), .inr (.inl 5001)]) (S := []) (q := 2041) hE ls_common rfl hmc hms (Nat.le_of_ble_eq_true rfl) dL_law_2038 rfl ?_ (by omega)
  refine lz_istore (q := 2043) (L' := (5, .inl (K 80 3)) :: [(0, .inr (.inl 5000)), (1, .inr (.inl 0)), (2, .inr (.inl 80)), (3, .inr (.inl 5001)), (4, .inl (nI i))]) dL_law_2041 rfl (by decide) rfl ?_
  refine lz_aload (q := 2044) dL_law_2043 rfl rfl 3 rfl ?_
  refine lz_arg (j := 1) dL_law_2044 dL_law_2045 dL_law_2047 (by decide) dL_law_2048 dL_law_2049 (show 2044 + 6 = 2050 from rfl) 1 5 rfl rfl (by omega) ?_
  refine lz_arg (j := 2) dL_law_2050 dL_law_2051 dL_law_2053 (by decide) dL_law_2054 dL_law_2055 (show 2050 + 6 = 2056 from rfl) 1 5 rfl rfl (by omega) ?_
  refine lz_callV (As := [.inl (xs (i + 1)), .inl (xs (i + 2))]) (S := []) (q := 2059) h2 mv_L_244 kd_80 rfl (by decide) (Nat.le_of_ble_eq_true rfl) dL_law_2056 rfl ?_
  refine lz_istore (q := 2061) (L' := (6, .inl r) :: (5, .inl (K 80 3)) :: [(0, .inr (.inl 5000)), (1, .inr (.inl 0)), (2, .inr (.inl 80)), (3, .inr (.inl 5001)), (4, .inl (nI i))]) dL_law_2059 rfl (by decide) rfl ?_
  refine lz_aload (q := 2062) dL_law_2061 rfl rfl 4 rfl ?_
  refine lz_callV (As := []) (S := []) (q := 2065) h3 mv_L_133 kd_80 rfl (by decide) (Nat.le_of_ble_eq_true rfl) dL_law_2062 rfl ?_
  refine lz_iload (q := 2067) dL_law_2065 rfl 1 rfl ?_
  refine lz_icmpeq (tgt := 2072) dL_law_2067 (by decide) rfl ?_
  refine lz_iload (q := 2074) dL_law_2072 rfl 1 rfl ?_
  refine lz_ifne (tgt := 2089) (q := 2077) dL_law_2074 (by decide) rfl (fun h9 => ?_) (fun h9 => ?_)
  · refine lz_goto (q := 2591) dL_law_2089 (by decide) ?_
    refine lz_pick [2, 3, 4, 5, 6] rfl ?_
    exact kk _ _ hI
  · refine lz_long (x := r) 5 0 dL_law_2077 dL_law_2078 dL_law_2079 dL_law_2080 dL_law_2082 dL_law_2083 dL_law_2084 rfl rfl (hlong h9) ?_
    refine lz_goto (q := 2591) dL_law_2089 (by decide) ?_
    refine lz_pick [2, 3, 4, 5, 6] rfl ?_
    exact kk _ _ hI
theorem lc_work (hl : l.stackTraces = false) (hz : zo_work N Inv) {σ : sm_M} (hI0 : Inv σ) (hi : i + 6 ≤ Lx) (h7 : n + 1 ≤ 600) (kk : ∀ τ v', Inv τ → lz_W l xs Lx (n + 1) 2591 [(0, .inr (.inl 5000)), (1, .inr (.inl 0)), (2, .inr (.inl 80)), (3, .inr (.inl 5001)), (4, .inl (nI i))] [] τ v') : lz_W l xs Lx n 2092 [(0, .inr (.inl 5000)), (1, .inr (.inl 0)), (2, .inr (.inl 80)), (3, .inr (.inl 5001)), (4, .inl (nI i))] [] σ v := by
  obtain ⟨I, R⟩ := σ
  obtain ⟨y, J, r, K, g1, g2, ⟨ha, hb⟩, hI⟩ := hz I R (xs (i + 1)) hI0
  obtain ⟨v', mc, ms, hmc, hms, hv, hE⟩ := wk_work (v := v) hl g1 ha
  have h2 := e_X12_work (l := l) g2
  have h3 := e_X12_thrown (l := l) (N := N) (R := R) (a0 := 80) (I := K) (y := (K 80 3, K)) (lc_thr N R K)
  have hlong : K 80 3 = 0 → r.toInt64 = v' := fun h9 => by
    rcases y with z | E
    · rw [hb z rfl, hv z rfl]
    · rcases ha with ⟨-, q1, q2⟩ | ⟨-, q1, q2⟩
      · exact absurd (q2.symm.trans h9) q1
      · exact absurd (q2.symm.trans h9) q1
  refine lz_aload (q := 2093) dL_law_2092 rfl rfl 1 rfl ?_
  refine lz_arg (j := 1) dL_law_2093 dL_law_2094 dL_law_2096 (by decide) dL_law_2097 dL_law_2098 (show 2093 + 6 = 2099 from rfl) 0 4 rfl rfl (by omega) ?_
  refine lz_aload (q := 2100) dL_law_2099 rfl rfl 3 rfl ?_
  refine lz_callW (As := [.inr (.inl 0), .inl (xs (i + 1)), .inr (.inl 5001)]) (S := []) (q := 2103) hE ls_work rfl hmc hms (Nat.le_of_ble_eq_true rfl) dL_law_2100 rfl ?_ (by omega)
  refine lz_istore (q := 2105) (L' := (5, .inl (K 80 3)) :: [(0, .inr (.inl 5000)), (1, .inr (.inl 0)), (2, .inr (.inl 80)), (3, .inr (.inl 5001)), (4, .inl (nI i))]) dL_law_2103 rfl (by decide) rfl ?_
  refine lz_aload (q := 2106) dL_law_2105 rfl rfl 3 rfl ?_
  refine lz_arg (j := 1) dL_law_2106 dL_law_2107 dL_law_2109 (by decide) dL_law_2110 dL_law_2111 (show 2106 + 6 = 2112 from rfl) 1 5 rfl rfl (by omega) ?_
  refine lz_callV (As := [.inl (xs (i + 1))]) (S := []) (q := 2115) h2 mv_L_247 kd_80 rfl (by decide) (Nat.le_of_ble_eq_true rfl) dL_law_2112 rfl ?_
  refine lz_istore (q := 2117) (L' := (6, .inl r) :: (5, .inl (K 80 3)) :: [(0, .inr (.inl 5000)), (1, .inr (.inl 0)), (2, .inr (.inl 80)), (3, .inr (.inl 5001)), (4, .inl (nI i))]) dL_law_2115 rfl (by decide) rfl ?_
  refine lz_aload (q := 2118) dL_law_2117 rfl rfl 4 rfl ?_
  refine lz_callV (As := []) (S := []) (q := 2121) h3 mv_L_133 kd_80 rfl (by decide) (Nat.le_of_ble_eq_true rfl) dL_law_2118 rfl ?_
  refine lz_iload (q := 2123) dL_law_2121 rfl 1 rfl ?_
  refine lz_icmpeq (tgt := 2128) dL_law_2123 (by decide) rfl ?_
  refine lz_iload (q := 2130) dL_law_2128 rfl 1 rfl ?_
  refine lz_ifne (tgt := 2145) (q := 2133) dL_law_2130 (by decide) rfl (fun h9 => ?_) (fun h9 => ?_)
  · refine lz_goto (q := 2591) dL_law_2145 (by decide) ?_
    refine lz_pick [2, 3, 4, 5, 6] rfl ?_
    exact kk _ _ hI
  · refine lz_long (x := r) 5 0 dL_law_2133 dL_law_2134 dL_law_2135 dL_law_2136 dL_law_2138 dL_law_2139 dL_law_2140 rfl rfl (hlong h9) ?_
    refine lz_goto (q := 2591) dL_law_2145 (by decide) ?_
    refine lz_pick [2, 3, 4, 5, 6] rfl ?_
    exact kk _ _ hI
theorem lc_mates (hl : l.stackTraces = false) (hz : zo_mates N Inv) {σ : sm_M} (hI0 : Inv σ) (hi : i + 6 ≤ Lx) (h7 : n + 1 ≤ 600) (kk : ∀ τ v', Inv τ → lz_W l xs Lx (n + 1) 2591 [(0, .inr (.inl 5000)), (1, .inr (.inl 0)), (2, .inr (.inl 80)), (3, .inr (.inl 5001)), (4, .inl (nI i))] [] τ v') : lz_W l xs Lx n 2148 [(0, .inr (.inl 5000)), (1, .inr (.inl 0)), (2, .inr (.inl 80)), (3, .inr (.inl 5001)), (4, .inl (nI i))] [] σ v := by
  obtain ⟨I, R⟩ := σ
  obtain ⟨y, J, r, K, g1, g2, ⟨ha, hb⟩, hI⟩ := hz I R (xs (i + 1)) hI0
  obtain ⟨v', mc, ms, hmc, hms, hv, hE⟩ := wk_mates (v := v) hl g1 ha
  have h2 := e_X12_mates (l := l) g2
  have h3 := e_X12_thrown (l := l) (N := N) (R := R) (a0 := 80) (I := K) (y := (K 80 3, K)) (lc_thr N R K)
  have hlong : K 80 3 = 0 → r.toInt64 = v' := fun h9 => by
    rcases y with z | E
    · rw [hb z rfl, hv z rfl]
    · rcases ha with ⟨-, q1, q2⟩ | ⟨-, q1, q2⟩
      · exact absurd (q2.symm.trans h9) q1
      · exact absurd (q2.symm.trans h9) q1
  refine lz_aload (q := 2149) dL_law_2148 rfl rfl 1 rfl ?_
  refine lz_arg (j := 1) dL_law_2149 dL_law_2150 dL_law_2152 (by decide) dL_law_2153 dL_law_2154 (show 2149 + 6 = 2155 from rfl) 0 4 rfl rfl (by omega) ?_
  refine lz_aload (q := 2156) dL_law_2155 rfl rfl 3 rfl ?_
  refine lz_callW (As := [.inr (.inl 0), .inl (xs (i + 1)), .inr (.inl 5001)]) (S := []) (q := 2159) hE ls_mates rfl hmc hms (Nat.le_of_ble_eq_true rfl) dL_law_2156 rfl ?_ (by omega)
  refine lz_istore (q := 2161) (L' := (5, .inl (K 80 3)) :: [(0, .inr (.inl 5000)), (1, .inr (.inl 0)), (2, .inr (.inl 80)), (3, .inr (.inl 5001)), (4, .inl (nI i))]) dL_law_2159 rfl (by decide) rfl ?_
  refine lz_aload (q := 2162) dL_law_2161 rfl rfl 3 rfl ?_
  refine lz_arg (j := 1) dL_law_2162 dL_law_2163 dL_law_2165 (by decide) dL_law_2166 dL_law_2167 (show 2162 + 6 = 2168 from rfl) 1 5 rfl rfl (by omega) ?_
  refine lz_callV (As := [.inl (xs (i + 1))]) (S := []) (q := 2171) h2 mv_L_250 kd_80 rfl (by decide) (Nat.le_of_ble_eq_true rfl) dL_law_2168 rfl ?_
  refine lz_istore (q := 2173) (L' := (6, .inl r) :: (5, .inl (K 80 3)) :: [(0, .inr (.inl 5000)), (1, .inr (.inl 0)), (2, .inr (.inl 80)), (3, .inr (.inl 5001)), (4, .inl (nI i))]) dL_law_2171 rfl (by decide) rfl ?_
  refine lz_aload (q := 2174) dL_law_2173 rfl rfl 4 rfl ?_
  refine lz_callV (As := []) (S := []) (q := 2177) h3 mv_L_133 kd_80 rfl (by decide) (Nat.le_of_ble_eq_true rfl) dL_law_2174 rfl ?_
  refine lz_iload (q := 2179) dL_law_2177 rfl 1 rfl ?_
  refine lz_icmpeq (tgt := 2184) dL_law_2179 (by decide) rfl ?_
  refine lz_iload (q := 2186) dL_law_2184 rfl 1 rfl ?_
  refine lz_ifne (tgt := 2201) (q := 2189) dL_law_2186 (by decide) rfl (fun h9 => ?_) (fun h9 => ?_)
  · refine lz_goto (q := 2591) dL_law_2201 (by decide) ?_
    refine lz_pick [2, 3, 4, 5, 6] rfl ?_
    exact kk _ _ hI
  · refine lz_long (x := r) 5 0 dL_law_2189 dL_law_2190 dL_law_2191 dL_law_2192 dL_law_2194 dL_law_2195 dL_law_2196 rfl rfl (hlong h9) ?_
    refine lz_goto (q := 2591) dL_law_2201 (by decide) ?_
    refine lz_pick [2, 3, 4, 5, 6] rfl ?_
    exact kk _ _ hI
theorem lc_see (hl : l.stackTraces = false) (hz : zo_see N Inv) {σ : sm_M} (hI0 : Inv σ) (hi : i + 6 ≤ Lx) (h7 : n + 1 ≤ 600) (kk : ∀ τ v', Inv τ → lz_W l xs Lx (n + 1) 2591 [(0, .inr (.inl 5000)), (1, .inr (.inl 0)), (2, .inr (.inl 80)), (3, .inr (.inl 5001)), (4, .inl (nI i))] [] τ v') : lz_W l xs Lx n 2204 [(0, .inr (.inl 5000)), (1, .inr (.inl 0)), (2, .inr (.inl 80)), (3, .inr (.inl 5001)), (4, .inl (nI i))] [] σ v := by
  obtain ⟨I, R⟩ := σ
  obtain ⟨y, J, r, K, g1, g2, ⟨ha, hb⟩, hI⟩ := hz I R (xs (i + 1)) (xs (i + 2)) (xs (i + 3)) hI0
  obtain ⟨v', mc, ms, hmc, hms, hv, hE⟩ := wk_see (v := v) hl g1 ha
  have h2 := e_X12_see (l := l) g2
  have h3 := e_X12_thrown (l := l) (N := N) (R := R) (a0 := 80) (I := K) (y := (K 80 3, K)) (lc_thr N R K)
  have hlong : K 80 3 = 0 → r.toInt64 = v' := fun h9 => by
    rcases y with z | E
    · rw [hb z rfl, hv z rfl]
    · rcases ha with ⟨-, q1, q2⟩ | ⟨-, q1, q2⟩
      · exact absurd (q2.symm.trans h9) q1
      · exact absurd (q2.symm.trans h9) q1
  refine lz_aload (q := 2205) dL_law_2204 rfl rfl 1 rfl ?_
  refine lz_arg (j := 1) dL_law_2205 dL_law_2206 dL_law_2208 (by decide) dL_law_2209 dL_law_2210 (show 2205 + 6 = 2211 from rfl) 0 4 rfl rfl (by omega) ?_
  refine lz_arg (j := 2) dL_law_2211 dL_law_2212 dL_law_2214 (by decide) dL_law_2215 dL_law_2216 (show 2211 + 6 = 2217 from rfl) 0 4 rfl rfl (by omega) ?_
  refine lz_arg (j := 3) dL_law_2217 dL_law_2218 dL_law_2220 (by decide) dL_law_2221 dL_law_2222 (show 2217 + 6 = 2223 from rfl) 0 4 rfl rfl (by omega) ?_
  refine lz_aload (q := 2224) dL_law_2223 rfl rfl 3 rfl ?_
  refine lz_callW (As := [.inr (.inl 0), .inl (xs (i + 1)), .inl (xs (i + 2)), .inl (xs (i + 3)), .inr (.inl 5001)]) (S := []) (q := 2227) hE ls_see rfl hmc hms (Nat.le_of_ble_eq_true rfl) dL_law_2224 rfl ?_ (by omega)
  refine lz_istore (q := 2229) (L' := (5, .inl (K 80 3)) :: [(0, .inr (.inl 5000)), (1, .inr (.inl 0)), (2, .inr (.inl 80)), (3, .inr (.inl 5001)), (4, .inl (nI i))]) dL_law_2227 rfl (by decide) rfl ?_
  refine lz_aload (q := 2230) dL_law_2229 rfl rfl 3 rfl ?_
  refine lz_arg (j := 1) dL_law_2230 dL_law_2231 dL_law_2233 (by decide) dL_law_2234 dL_law_2235 (show 2230 + 6 = 2236 from rfl) 1 5 rfl rfl (by omega) ?_
  refine lz_arg (j := 2) dL_law_2236 dL_law_2237 dL_law_2239 (by decide) dL_law_2240 dL_law_2241 (show 2236 + 6 = 2242 from rfl) 1 5 rfl rfl (by omega) ?_
  refine lz_arg (j := 3) dL_law_2242 dL_law_2243 dL_law_2245 (by decide) dL_law_2246 dL_law_2247 (show 2242 + 6 = 2248 from rfl) 1 5 rfl rfl (by omega) ?_
  refine lz_callV (As := [.inl (xs (i + 1)), .inl (xs (i + 2)), .inl (xs (i + 3))]) (S := []) (q := 2251) h2 mv_L_253 kd_80 rfl (by decide) (Nat.le_of_ble_eq_true rfl) dL_law_2248 rfl ?_
  refine lz_istore (q := 2253) (L' := (6, .inl r) :: (5, .inl (K 80 3)) :: [(0, .inr (.inl 5000)), (1, .inr (.inl 0)), (2, .inr (.inl 80)), (3, .inr (.inl 5001)), (4, .inl (nI i))]) dL_law_2251 rfl (by decide) rfl ?_
  refine lz_aload (q := 2254) dL_law_2253 rfl rfl 4 rfl ?_
  refine lz_callV (As := []) (S := []) (q := 2257) h3 mv_L_133 kd_80 rfl (by decide) (Nat.le_of_ble_eq_true rfl) dL_law_2254 rfl ?_
  refine lz_iload (q := 2259) dL_law_2257 rfl 1 rfl ?_
  refine lz_icmpeq (tgt := 2264) dL_law_2259 (by decide) rfl ?_
  refine lz_iload (q := 2266) dL_law_2264 rfl 1 rfl ?_
  refine lz_ifne (tgt := 2281) (q := 2269) dL_law_2266 (by decide) rfl (fun h9 => ?_) (fun h9 => ?_)
  · refine lz_goto (q := 2591) dL_law_2281 (by decide) ?_
    refine lz_pick [2, 3, 4, 5, 6] rfl ?_
    exact kk _ _ hI
  · refine lz_long (x := r) 5 0 dL_law_2269 dL_law_2270 dL_law_2271 dL_law_2272 dL_law_2274 dL_law_2275 dL_law_2276 rfl rfl (hlong h9) ?_
    refine lz_goto (q := 2591) dL_law_2281 (by decide) ?_
    refine lz_pick [2, 3, 4, 5, 6] rfl ?_
    exact kk _ _ hI
theorem lc_been (hl : l.stackTraces = false) (hz : zo_been N Inv) {σ : sm_M} (hI0 : Inv σ) (hi : i + 6 ≤ Lx) (h7 : n + 1 ≤ 600) (kk : ∀ τ v', Inv τ → lz_W l xs Lx (n + 1) 2591 [(0, .inr (.inl 5000)), (1, .inr (.inl 0)), (2, .inr (.inl 80)), (3, .inr (.inl 5001)), (4, .inl (nI i))] [] τ v') : lz_W l xs Lx n 2284 [(0, .inr (.inl 5000)), (1, .inr (.inl 0)), (2, .inr (.inl 80)), (3, .inr (.inl 5001)), (4, .inl (nI i))] [] σ v := by
  obtain ⟨I, R⟩ := σ
  obtain ⟨y, J, r, K, g1, g2, ⟨ha, hb⟩, hI⟩ := hz I R (xs (i + 1)) hI0
  obtain ⟨v', mc, ms, hmc, hms, hv, hE⟩ := wk_been (v := v) hl g1 ha
  have h2 := e_X12_been (l := l) g2
  have h3 := e_X12_thrown (l := l) (N := N) (R := R) (a0 := 80) (I := K) (y := (K 80 3, K)) (lc_thr N R K)
  have hlong : K 80 3 = 0 → r.toInt64 = v' := fun h9 => by
    rcases y with z | E
    · rw [hb z rfl, hv z rfl]
    · rcases ha with ⟨-, q1, q2⟩ | ⟨-, q1, q2⟩
      · exact absurd (q2.symm.trans h9) q1
      · exact absurd (q2.symm.trans h9) q1
  refine lz_aload (q := 2285) dL_law_2284 rfl rfl 1 rfl ?_
  refine lz_arg (j := 1) dL_law_2285 dL_law_2286 dL_law_2288 (by decide) dL_law_2289 dL_law_2290 (show 2285 + 6 = 2291 from rfl) 0 4 rfl rfl (by omega) ?_
  refine lz_aload (q := 2292) dL_law_2291 rfl rfl 3 rfl ?_
  refine lz_callW (As := [.inr (.inl 0), .inl (xs (i + 1)), .inr (.inl 5001)]) (S := []) (q := 2295) hE ls_been rfl hmc hms (Nat.le_of_ble_eq_true rfl) dL_law_2292 rfl ?_ (by omega)
  refine lz_istore (q := 2297) (L' := (5, .inl (K 80 3)) :: [(0, .inr (.inl 5000)), (1, .inr (.inl 0)), (2, .inr (.inl 80)), (3, .inr (.inl 5001)), (4, .inl (nI i))]) dL_law_2295 rfl (by decide) rfl ?_
  refine lz_aload (q := 2298) dL_law_2297 rfl rfl 3 rfl ?_
  refine lz_arg (j := 1) dL_law_2298 dL_law_2299 dL_law_2301 (by decide) dL_law_2302 dL_law_2303 (show 2298 + 6 = 2304 from rfl) 1 5 rfl rfl (by omega) ?_
  refine lz_callV (As := [.inl (xs (i + 1))]) (S := []) (q := 2307) h2 mv_L_256 kd_80 rfl (by decide) (Nat.le_of_ble_eq_true rfl) dL_law_2304 rfl ?_
  refine lz_istore (q := 2309) (L' := (6, .inl r) :: (5, .inl (K 80 3)) :: [(0, .inr (.inl 5000)), (1, .inr (.inl 0)), (2, .inr (.inl 80)), (3, .inr (.inl 5001)), (4, .inl (nI i))]) dL_law_2307 rfl (by decide) rfl ?_
  refine lz_aload (q := 2310) dL_law_2309 rfl rfl 4 rfl ?_
  refine lz_callV (As := []) (S := []) (q := 2313) h3 mv_L_133 kd_80 rfl (by decide) (Nat.le_of_ble_eq_true rfl) dL_law_2310 rfl ?_
  refine lz_iload (q := 2315) dL_law_2313 rfl 1 rfl ?_
  refine lz_icmpeq (tgt := 2320) dL_law_2315 (by decide) rfl ?_
  refine lz_iload (q := 2322) dL_law_2320 rfl 1 rfl ?_
  refine lz_ifne (tgt := 2337) (q := 2325) dL_law_2322 (by decide) rfl (fun h9 => ?_) (fun h9 => ?_)
  · refine lz_goto (q := 2591) dL_law_2337 (by decide) ?_
    refine lz_pick [2, 3, 4, 5, 6] rfl ?_
    exact kk _ _ hI
  · refine lz_long (x := r) 5 0 dL_law_2325 dL_law_2326 dL_law_2327 dL_law_2328 dL_law_2330 dL_law_2331 dL_law_2332 rfl rfl (hlong h9) ?_
    refine lz_goto (q := 2591) dL_law_2337 (by decide) ?_
    refine lz_pick [2, 3, 4, 5, 6] rfl ?_
    exact kk _ _ hI
theorem lc_listen (hl : l.stackTraces = false) (hz : zo_listen N Inv) {σ : sm_M} (hI0 : Inv σ) (hi : i + 6 ≤ Lx) (h7 : n + 1 ≤ 600) (kk : ∀ τ v', Inv τ → lz_W l xs Lx (n + 1) 2591 [(0, .inr (.inl 5000)), (1, .inr (.inl 0)), (2, .inr (.inl 80)), (3, .inr (.inl 5001)), (4, .inl (nI i))] [] τ v') : lz_W l xs Lx n 2340 [(0, .inr (.inl 5000)), (1, .inr (.inl 0)), (2, .inr (.inl 80)), (3, .inr (.inl 5001)), (4, .inl (nI i))] [] σ v := by
  obtain ⟨I, R⟩ := σ
  obtain ⟨y, J, r, K, g1, g2, ⟨ha, hb⟩, hI⟩ := hz I R (xs (i + 1)) hI0
  obtain ⟨v', mc, ms, hmc, hms, hv, hE⟩ := wk_listen (v := v) hl g1 ha
  have h2 := e_X12_listen (l := l) g2
  have h3 := e_X12_thrown (l := l) (N := N) (R := R) (a0 := 80) (I := K) (y := (K 80 3, K)) (lc_thr N R K)
  have hlong : K 80 3 = 0 → r.toInt64 = v' := fun h9 => by
    rcases y with z | E
    · rw [hb z rfl, hv z rfl]
    · rcases ha with ⟨-, q1, q2⟩ | ⟨-, q1, q2⟩
      · exact absurd (q2.symm.trans h9) q1
      · exact absurd (q2.symm.trans h9) q1
  refine lz_aload (q := 2341) dL_law_2340 rfl rfl 1 rfl ?_
  refine lz_arg (j := 1) dL_law_2341 dL_law_2342 dL_law_2344 (by decide) dL_law_2345 dL_law_2346 (show 2341 + 6 = 2347 from rfl) 0 4 rfl rfl (by omega) ?_
  refine lz_aload (q := 2348) dL_law_2347 rfl rfl 3 rfl ?_
  refine lz_callW (As := [.inr (.inl 0), .inl (xs (i + 1)), .inr (.inl 5001)]) (S := []) (q := 2351) hE ls_listen rfl hmc hms (Nat.le_of_ble_eq_true rfl) dL_law_2348 rfl ?_ (by omega)
  refine lz_istore (q := 2353) (L' := (5, .inl (K 80 3)) :: [(0, .inr (.inl 5000)), (1, .inr (.inl 0)), (2, .inr (.inl 80)), (3, .inr (.inl 5001)), (4, .inl (nI i))]) dL_law_2351 rfl (by decide) rfl ?_
  refine lz_aload (q := 2354) dL_law_2353 rfl rfl 3 rfl ?_
  refine lz_arg (j := 1) dL_law_2354 dL_law_2355 dL_law_2357 (by decide) dL_law_2358 dL_law_2359 (show 2354 + 6 = 2360 from rfl) 1 5 rfl rfl (by omega) ?_
  refine lz_callV (As := [.inl (xs (i + 1))]) (S := []) (q := 2363) h2 mv_L_259 kd_80 rfl (by decide) (Nat.le_of_ble_eq_true rfl) dL_law_2360 rfl ?_
  refine lz_istore (q := 2365) (L' := (6, .inl r) :: (5, .inl (K 80 3)) :: [(0, .inr (.inl 5000)), (1, .inr (.inl 0)), (2, .inr (.inl 80)), (3, .inr (.inl 5001)), (4, .inl (nI i))]) dL_law_2363 rfl (by decide) rfl ?_
  refine lz_aload (q := 2366) dL_law_2365 rfl rfl 4 rfl ?_
  refine lz_callV (As := []) (S := []) (q := 2369) h3 mv_L_133 kd_80 rfl (by decide) (Nat.le_of_ble_eq_true rfl) dL_law_2366 rfl ?_
  refine lz_iload (q := 2371) dL_law_2369 rfl 1 rfl ?_
  refine lz_icmpeq (tgt := 2376) dL_law_2371 (by decide) rfl ?_
  refine lz_iload (q := 2378) dL_law_2376 rfl 1 rfl ?_
  refine lz_ifne (tgt := 2393) (q := 2381) dL_law_2378 (by decide) rfl (fun h9 => ?_) (fun h9 => ?_)
  · refine lz_goto (q := 2591) dL_law_2393 (by decide) ?_
    refine lz_pick [2, 3, 4, 5, 6] rfl ?_
    exact kk _ _ hI
  · refine lz_long (x := r) 5 0 dL_law_2381 dL_law_2382 dL_law_2383 dL_law_2384 dL_law_2386 dL_law_2387 dL_law_2388 rfl rfl (hlong h9) ?_
    refine lz_goto (q := 2591) dL_law_2393 (by decide) ?_
    refine lz_pick [2, 3, 4, 5, 6] rfl ?_
    exact kk _ _ hI
theorem lc_forget (hl : l.stackTraces = false) (hz : zo_forget N Inv) {σ : sm_M} (hI0 : Inv σ) (hi : i + 6 ≤ Lx) (h7 : n + 1 ≤ 600) (kk : ∀ τ v', Inv τ → lz_W l xs Lx (n + 1) 2591 [(0, .inr (.inl 5000)), (1, .inr (.inl 0)), (2, .inr (.inl 80)), (3, .inr (.inl 5001)), (4, .inl (nI i))] [] τ v') : lz_W l xs Lx n 2396 [(0, .inr (.inl 5000)), (1, .inr (.inl 0)), (2, .inr (.inl 80)), (3, .inr (.inl 5001)), (4, .inl (nI i))] [] σ v := by
  obtain ⟨I, R⟩ := σ
  obtain ⟨J, K, g1, g2, hI⟩ := hz I R  hI0
  have h1 := e_X11_forget (l := l) g1
  have h2 := e_X12_forget (l := l) g2
  refine lz_aload (q := 2397) dL_law_2396 rfl rfl 1 rfl ?_
  refine lz_callV (As := []) (S := []) (q := 2400) h1 mv_L_260 kd_0 rfl (by decide) (Nat.le_of_ble_eq_true rfl) dL_law_2397 rfl ?_
  refine lz_aload (q := 2401) dL_law_2400 rfl rfl 2 rfl ?_
  refine lz_callV (As := []) (S := []) (q := 2404) h2 mv_L_263 kd_80 rfl (by decide) (Nat.le_of_ble_eq_true rfl) dL_law_2401 rfl ?_
  refine lz_goto (q := 2591) dL_law_2404 (by decide) ?_
  exact lz_widen (by omega) h7 (kk _ _ hI)
theorem lc_game (hl : l.stackTraces = false) (hz : zo_game N Inv) {σ : sm_M} (hI0 : Inv σ) (hi : i + 6 ≤ Lx) (h7 : n + 1 ≤ 600) (kk : ∀ τ v', Inv τ → lz_W l xs Lx (n + 1) 2591 [(0, .inr (.inl 5000)), (1, .inr (.inl 0)), (2, .inr (.inl 80)), (3, .inr (.inl 5001)), (4, .inl (nI i))] [] τ v') : lz_W l xs Lx n 2407 [(0, .inr (.inl 5000)), (1, .inr (.inl 0)), (2, .inr (.inl 80)), (3, .inr (.inl 5001)), (4, .inl (nI i))] [] σ v := by
  obtain ⟨I, R⟩ := σ
  obtain ⟨y, J, r, K, g1, g2, ⟨ha, hb⟩, hI⟩ := hz I R (xs (i + 1)) (xs (i + 2)) (xs (i + 3)) hI0
  obtain ⟨v', mc, ms, hmc, hms, hv, hE⟩ := wk_game (v := v) hl g1 ha
  have h2 := e_X12_game (l := l) g2
  have h3 := e_X12_thrown (l := l) (N := N) (R := R) (a0 := 80) (I := K) (y := (K 80 3, K)) (lc_thr N R K)
  have hlong : K 80 3 = 0 → r.toInt64 = v' := fun h9 => by
    rcases y with z | E
    · rw [hb z rfl, hv z rfl]
    · rcases ha with ⟨-, q1, q2⟩ | ⟨-, q1, q2⟩
      · exact absurd (q2.symm.trans h9) q1
      · exact absurd (q2.symm.trans h9) q1
  refine lz_aload (q := 2408) dL_law_2407 rfl rfl 1 rfl ?_
  refine lz_arg (j := 1) dL_law_2408 dL_law_2409 dL_law_2411 (by decide) dL_law_2412 dL_law_2413 (show 2408 + 6 = 2414 from rfl) 0 4 rfl rfl (by omega) ?_
  refine lz_arg (j := 2) dL_law_2414 dL_law_2415 dL_law_2417 (by decide) dL_law_2418 dL_law_2419 (show 2414 + 6 = 2420 from rfl) 0 4 rfl rfl (by omega) ?_
  refine lz_arg (j := 3) dL_law_2420 dL_law_2421 dL_law_2423 (by decide) dL_law_2424 dL_law_2425 (show 2420 + 6 = 2426 from rfl) 0 4 rfl rfl (by omega) ?_
  refine lz_aload (q := 2427) dL_law_2426 rfl rfl 3 rfl ?_
  refine lz_callW (As := [.inr (.inl 0), .inl (xs (i + 1)), .inl (xs (i + 2)), .inl (xs (i + 3)), .inr (.inl 5001)]) (S := []) (q := 2430) hE ls_game rfl hmc hms (Nat.le_of_ble_eq_true rfl) dL_law_2427 rfl ?_ (by omega)
  refine lz_istore (q := 2432) (L' := (5, .inl (K 80 3)) :: [(0, .inr (.inl 5000)), (1, .inr (.inl 0)), (2, .inr (.inl 80)), (3, .inr (.inl 5001)), (4, .inl (nI i))]) dL_law_2430 rfl (by decide) rfl ?_
  refine lz_aload (q := 2433) dL_law_2432 rfl rfl 3 rfl ?_
  refine lz_arg (j := 1) dL_law_2433 dL_law_2434 dL_law_2436 (by decide) dL_law_2437 dL_law_2438 (show 2433 + 6 = 2439 from rfl) 1 5 rfl rfl (by omega) ?_
  refine lz_arg (j := 2) dL_law_2439 dL_law_2440 dL_law_2442 (by decide) dL_law_2443 dL_law_2444 (show 2439 + 6 = 2445 from rfl) 1 5 rfl rfl (by omega) ?_
  refine lz_arg (j := 3) dL_law_2445 dL_law_2446 dL_law_2448 (by decide) dL_law_2449 dL_law_2450 (show 2445 + 6 = 2451 from rfl) 1 5 rfl rfl (by omega) ?_
  refine lz_callV (As := [.inl (xs (i + 1)), .inl (xs (i + 2)), .inl (xs (i + 3))]) (S := []) (q := 2454) h2 mv_L_266 kd_80 rfl (by decide) (Nat.le_of_ble_eq_true rfl) dL_law_2451 rfl ?_
  refine lz_istore (q := 2456) (L' := (6, .inl r) :: (5, .inl (K 80 3)) :: [(0, .inr (.inl 5000)), (1, .inr (.inl 0)), (2, .inr (.inl 80)), (3, .inr (.inl 5001)), (4, .inl (nI i))]) dL_law_2454 rfl (by decide) rfl ?_
  refine lz_aload (q := 2457) dL_law_2456 rfl rfl 4 rfl ?_
  refine lz_callV (As := []) (S := []) (q := 2460) h3 mv_L_133 kd_80 rfl (by decide) (Nat.le_of_ble_eq_true rfl) dL_law_2457 rfl ?_
  refine lz_iload (q := 2462) dL_law_2460 rfl 1 rfl ?_
  refine lz_icmpeq (tgt := 2467) dL_law_2462 (by decide) rfl ?_
  refine lz_iload (q := 2469) dL_law_2467 rfl 1 rfl ?_
  refine lz_ifne (tgt := 2484) (q := 2472) dL_law_2469 (by decide) rfl (fun h9 => ?_) (fun h9 => ?_)
  · refine lz_goto (q := 2591) dL_law_2484 (by decide) ?_
    refine lz_pick [2, 3, 4, 5, 6] rfl ?_
    exact kk _ _ hI
  · refine lz_long (x := r) 5 0 dL_law_2472 dL_law_2473 dL_law_2474 dL_law_2475 dL_law_2477 dL_law_2478 dL_law_2479 rfl rfl (hlong h9) ?_
    refine lz_goto (q := 2591) dL_law_2484 (by decide) ?_
    refine lz_pick [2, 3, 4, 5, 6] rfl ?_
    exact kk _ _ hI
theorem lc_years (hl : l.stackTraces = false) (hz : zo_years N Inv) {σ : sm_M} (hI0 : Inv σ) (hi : i + 6 ≤ Lx) (h7 : n + 1 ≤ 600) (kk : ∀ τ v', Inv τ → lz_W l xs Lx (n + 1) 2591 [(0, .inr (.inl 5000)), (1, .inr (.inl 0)), (2, .inr (.inl 80)), (3, .inr (.inl 5001)), (4, .inl (nI i))] [] τ v') : lz_W l xs Lx n 2487 [(0, .inr (.inl 5000)), (1, .inr (.inl 0)), (2, .inr (.inl 80)), (3, .inr (.inl 5001)), (4, .inl (nI i))] [] σ v := by
  obtain ⟨I, R⟩ := σ
  obtain ⟨y, J, r, K, g1, g2, ⟨ha, hb⟩, hI⟩ := hz I R (xs (i + 1)) (xs (i + 2)) (xs (i + 3)) hI0
  obtain ⟨v', mc, ms, hmc, hms, hv, hE⟩ := wk_years (v := v) hl g1 ha
  have h2 := e_X12_years (l := l) g2
  have h3 := e_X12_thrown (l := l) (N := N) (R := R) (a0 := 80) (I := K) (y := (K 80 3, K)) (lc_thr N R K)
  have hlong : K 80 3 = 0 → r.toInt64 = v' := fun h9 => by
    rcases y with z | E
    · rw [hb z rfl, hv z rfl]
    · rcases ha with ⟨-, q1, q2⟩ | ⟨-, q1, q2⟩
      · exact absurd (q2.symm.trans h9) q1
      · exact absurd (q2.symm.trans h9) q1
  refine lz_aload (q := 2488) dL_law_2487 rfl rfl 1 rfl ?_
  refine lz_arg (j := 1) dL_law_2488 dL_law_2489 dL_law_2491 (by decide) dL_law_2492 dL_law_2493 (show 2488 + 6 = 2494 from rfl) 0 4 rfl rfl (by omega) ?_
  refine lz_arg (j := 2) dL_law_2494 dL_law_2495 dL_law_2497 (by decide) dL_law_2498 dL_law_2499 (show 2494 + 6 = 2500 from rfl) 0 4 rfl rfl (by omega) ?_
  refine lz_arg (j := 3) dL_law_2500 dL_law_2501 dL_law_2503 (by decide) dL_law_2504 dL_law_2505 (show 2500 + 6 = 2506 from rfl) 0 4 rfl rfl (by omega) ?_
  refine lz_aload (q := 2507) dL_law_2506 rfl rfl 3 rfl ?_
  refine lz_callW (As := [.inr (.inl 0), .inl (xs (i + 1)), .inl (xs (i + 2)), .inl (xs (i + 3)), .inr (.inl 5001)]) (S := []) (q := 2510) hE ls_years rfl hmc hms (Nat.le_of_ble_eq_true rfl) dL_law_2507 rfl ?_ (by omega)
  refine lz_istore (q := 2512) (L' := (5, .inl (K 80 3)) :: [(0, .inr (.inl 5000)), (1, .inr (.inl 0)), (2, .inr (.inl 80)), (3, .inr (.inl 5001)), (4, .inl (nI i))]) dL_law_2510 rfl (by decide) rfl ?_
  refine lz_aload (q := 2513) dL_law_2512 rfl rfl 3 rfl ?_
  refine lz_arg (j := 1) dL_law_2513 dL_law_2514 dL_law_2516 (by decide) dL_law_2517 dL_law_2518 (show 2513 + 6 = 2519 from rfl) 1 5 rfl rfl (by omega) ?_
  refine lz_arg (j := 2) dL_law_2519 dL_law_2520 dL_law_2522 (by decide) dL_law_2523 dL_law_2524 (show 2519 + 6 = 2525 from rfl) 1 5 rfl rfl (by omega) ?_
  refine lz_arg (j := 3) dL_law_2525 dL_law_2526 dL_law_2528 (by decide) dL_law_2529 dL_law_2530 (show 2525 + 6 = 2531 from rfl) 1 5 rfl rfl (by omega) ?_
  refine lz_callV (As := [.inl (xs (i + 1)), .inl (xs (i + 2)), .inl (xs (i + 3))]) (S := []) (q := 2534) h2 mv_L_269 kd_80 rfl (by decide) (Nat.le_of_ble_eq_true rfl) dL_law_2531 rfl ?_
  refine lz_istore (q := 2536) (L' := (6, .inl r) :: (5, .inl (K 80 3)) :: [(0, .inr (.inl 5000)), (1, .inr (.inl 0)), (2, .inr (.inl 80)), (3, .inr (.inl 5001)), (4, .inl (nI i))]) dL_law_2534 rfl (by decide) rfl ?_
  refine lz_aload (q := 2537) dL_law_2536 rfl rfl 4 rfl ?_
  refine lz_callV (As := []) (S := []) (q := 2540) h3 mv_L_133 kd_80 rfl (by decide) (Nat.le_of_ble_eq_true rfl) dL_law_2537 rfl ?_
  refine lz_iload (q := 2542) dL_law_2540 rfl 1 rfl ?_
  refine lz_icmpeq (tgt := 2547) dL_law_2542 (by decide) rfl ?_
  refine lz_iload (q := 2549) dL_law_2547 rfl 1 rfl ?_
  refine lz_ifne (tgt := 2564) (q := 2552) dL_law_2549 (by decide) rfl (fun h9 => ?_) (fun h9 => ?_)
  · refine lz_goto (q := 2591) dL_law_2564 (by decide) ?_
    refine lz_pick [2, 3, 4, 5, 6] rfl ?_
    exact kk _ _ hI
  · refine lz_long (x := r) 5 0 dL_law_2552 dL_law_2553 dL_law_2554 dL_law_2555 dL_law_2557 dL_law_2558 dL_law_2559 rfl rfl (hlong h9) ?_
    refine lz_goto (q := 2591) dL_law_2564 (by decide) ?_
    refine lz_pick [2, 3, 4, 5, 6] rfl ?_
    exact kk _ _ hI
theorem lc_image (hl : l.stackTraces = false) (hz : zo_image N Inv) {σ : sm_M} (hI0 : Inv σ) (hi : i + 6 ≤ Lx) (h7 : n + 1 ≤ 600) (kk : ∀ τ v', Inv τ → lz_W l xs Lx (n + 1) 2591 [(0, .inr (.inl 5000)), (1, .inr (.inl 0)), (2, .inr (.inl 80)), (3, .inr (.inl 5001)), (4, .inl (nI i))] [] τ v') : lz_W l xs Lx n 2567 [(0, .inr (.inl 5000)), (1, .inr (.inl 0)), (2, .inr (.inl 80)), (3, .inr (.inl 5001)), (4, .inl (nI i))] [] σ v := by
  obtain ⟨I, R⟩ := σ
  obtain ⟨J, K, g1, g2, hI⟩ := hz I R  hI0
  have h1 := e_X11_image (l := l) g1
  have h2 := e_X12_image (l := l) g2
  refine lz_aload (q := 2568) dL_law_2567 rfl rfl 1 rfl ?_
  refine lz_callV (As := []) (S := []) (q := 2571) h1 mv_L_270 kd_0 rfl (by decide) (Nat.le_of_ble_eq_true rfl) dL_law_2568 rfl ?_
  refine lz_aload (q := 2572) dL_law_2571 rfl rfl 2 rfl ?_
  refine lz_callV (As := []) (S := []) (q := 2575) h2 mv_L_273 kd_80 rfl (by decide) (Nat.le_of_ble_eq_true rfl) dL_law_2572 rfl ?_
  refine lz_goto (q := 2591) dL_law_2575 (by decide) ?_
  exact lz_widen (by omega) h7 (kk _ _ hI)
theorem lc_restore (hl : l.stackTraces = false) (hz : zo_restore N Inv) {σ : sm_M} (hI0 : Inv σ) (hi : i + 6 ≤ Lx) (h7 : n + 1 ≤ 600) (kk : ∀ τ v', Inv τ → lz_W l xs Lx (n + 1) 2591 [(0, .inr (.inl 5000)), (1, .inr (.inl 0)), (2, .inr (.inl 80)), (3, .inr (.inl 5001)), (4, .inl (nI i))] [] τ v') : lz_W l xs Lx n 2578 [(0, .inr (.inl 5000)), (1, .inr (.inl 0)), (2, .inr (.inl 80)), (3, .inr (.inl 5001)), (4, .inl (nI i))] [] σ v := by
  obtain ⟨I, R⟩ := σ
  obtain ⟨r, J, K, g1, g2, hI⟩ := hz I R  hI0
  have h1 := e_X11_restore (l := l) g1
  have h2 := e_X12_restore (l := l) g2
  refine lz_aload (q := 2579) dL_law_2578 rfl rfl 1 rfl ?_
  refine lz_callV (As := []) (S := []) (q := 2582) h1 mv_L_274 kd_0 rfl (by decide) (Nat.le_of_ble_eq_true rfl) dL_law_2579 rfl ?_
  refine lz_aload (q := 2583) dL_law_2582 rfl rfl 2 rfl ?_
  refine lz_callV (As := []) (S := [.inl r]) (q := 2586) h2 mv_L_278 kd_80 rfl (by decide) (Nat.le_of_ble_eq_true rfl) dL_law_2583 rfl ?_
  refine lz_icmpeq (tgt := 2591) dL_law_2586 (by decide) rfl ?_
  exact lz_widen (by omega) h7 (kk _ _ hI)
end LC
