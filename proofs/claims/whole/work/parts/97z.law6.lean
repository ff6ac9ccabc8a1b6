/-! ===== the law: cases 4 to 9, acts ===== -/
section LAW8
variable {G : GG} {h : AH} {y x kp nx la k : Nat} {o : Nat → Nat} {ps : Nat → Nat → Int32} {Q : Option Value → AH → Prop}
set_option maxRecDepth 100000 in
set_option maxHeartbeats 4000000 in
theorem cs_4 (R : Rel h y x o kp nx la ps) (r : Ro G k h) (hk6 : 6 * k + 6 ≤ gL G) (hL : gL G ≤ 3072) (kc : Kc G y x k Q) : Rn G 10 mL_law 328 [(0, .ref (gb G)), (1, .ref y), (2, .ref x), (3, .int (nI (6 * k)))] [] h Q := by
  have ky := R.ky
  have kx := R.kx
  have hk5 : k < 512 := by omega
  have rm := r.rm hk5
  obtain ⟨⟨M, K, T⟩, C, A, ⟨I, B⟩, H⟩ := id R
  first | refine x_aload_n eL_law_328 rfl rfl ?_ | refine x_aload_nN eL_law_328 rfl rfl ?_
  first | refine x_aload_n eL_law_329 rfl rfl ?_ | refine x_aload_nN eL_law_329 rfl rfl ?_
  refine x_iload_n eL_law_330 rfl rfl ?_
  refine x_iconst (v := nI 1) eL_law_331 (by decide) ?_
  first | refine x_iaddN eL_law_332 (by with_reducible rfl) (by with_reducible rfl) ?_ | refine x_iadd eL_law_332 ?_
  refine x_scr eL_law_333 (by with_reducible rfl) (by omega) (by omega) ?_
  first | refine x_aload_n eL_law_334 rfl rfl ?_ | refine x_aload_nN eL_law_334 rfl rfl ?_
  refine x_iload_n eL_law_335 rfl rfl ?_
  refine x_iconst (v := nI 2) eL_law_336 (by decide) ?_
  first | refine x_iaddN eL_law_337 (by with_reducible rfl) (by with_reducible rfl) ?_ | refine x_iadd eL_law_337 ?_
  refine x_scr eL_law_338 (by with_reducible rfl) (by omega) (by omega) ?_
  first | refine x_aload_n eL_law_339 rfl rfl ?_ | refine x_aload_nN eL_law_339 rfl rfl ?_
  refine x_iload_n eL_law_340 rfl rfl ?_
  refine x_iconst (v := nI 3) eL_law_341 (by decide) ?_
  first | refine x_iaddN eL_law_342 (by with_reducible rfl) (by with_reducible rfl) ?_ | refine x_iadd eL_law_342 ?_
  refine x_scr eL_law_343 (by with_reducible rfl) (by omega) (by omega) ?_
  first | refine x_aload_n eL_law_344 rfl rfl ?_ | refine x_aload_nN eL_law_344 rfl rfl ?_
  refine x_iload_n eL_law_345 rfl rfl ?_
  refine x_iconst (v := nI 4) eL_law_346 (by decide) ?_
  first | refine x_iaddN eL_law_347 (by with_reducible rfl) (by with_reducible rfl) ?_ | refine x_iadd eL_law_347 ?_
  refine x_scr eL_law_348 (by with_reducible rfl) (by omega) (by omega) ?_
  first | refine x_aload_n eL_law_349 rfl rfl ?_ | refine x_aload_nN eL_law_349 rfl rfl ?_
  refine x_iload_n eL_law_350 rfl rfl ?_
  refine x_iconst (v := nI 5) eL_law_351 (by decide) ?_
  first | refine x_iaddN eL_law_352 (by with_reducible rfl) (by with_reducible rfl) ?_ | refine x_iadd eL_law_352 ?_
  refine x_scr eL_law_353 (by with_reducible rfl) (by omega) (by omega) ?_
  refine x_callV5 eL_law_354 lk_L_33 (by assumption) (Nat.le_of_ble_eq_true rfl) (Nat.le_of_ble_eq_true rfl) ?_
  refine Rn.deep (c_X8_sail (d := 0) C A I rm (fun z _ => ?_) (fun z h2 P x1 => ?_)) (by omega)
  · first | refine x_aload_n eL_law_357 rfl rfl ?_ | refine x_aload_nN eL_law_357 rfl rfl ?_
    first | refine x_aload_n eL_law_358 rfl rfl ?_ | refine x_aload_nN eL_law_358 rfl rfl ?_
    refine x_iload_n eL_law_359 rfl rfl ?_
    refine x_iconst (v := nI 1) eL_law_360 (by decide) ?_
    first | refine x_iaddN eL_law_361 (by with_reducible rfl) (by with_reducible rfl) ?_ | refine x_iadd eL_law_361 ?_
    refine x_scr eL_law_362 (by with_reducible rfl) (by omega) (by omega) ?_
    first | refine x_aload_n eL_law_363 rfl rfl ?_ | refine x_aload_nN eL_law_363 rfl rfl ?_
    refine x_iload_n eL_law_364 rfl rfl ?_
    refine x_iconst (v := nI 2) eL_law_365 (by decide) ?_
    first | refine x_iaddN eL_law_366 (by with_reducible rfl) (by with_reducible rfl) ?_ | refine x_iadd eL_law_366 ?_
    refine x_scr eL_law_367 (by with_reducible rfl) (by omega) (by omega) ?_
    first | refine x_aload_n eL_law_368 rfl rfl ?_ | refine x_aload_nN eL_law_368 rfl rfl ?_
    refine x_iload_n eL_law_369 rfl rfl ?_
    refine x_iconst (v := nI 3) eL_law_370 (by decide) ?_
    first | refine x_iaddN eL_law_371 (by with_reducible rfl) (by with_reducible rfl) ?_ | refine x_iadd eL_law_371 ?_
    refine x_scr eL_law_372 (by with_reducible rfl) (by omega) (by omega) ?_
    first | refine x_aload_n eL_law_373 rfl rfl ?_ | refine x_aload_nN eL_law_373 rfl rfl ?_
    refine x_iload_n eL_law_374 rfl rfl ?_
    refine x_iconst (v := nI 4) eL_law_375 (by decide) ?_
    first | refine x_iaddN eL_law_376 (by with_reducible rfl) (by with_reducible rfl) ?_ | refine x_iadd eL_law_376 ?_
    refine x_scr eL_law_377 (by with_reducible rfl) (by omega) (by omega) ?_
    first | refine x_aload_n eL_law_378 rfl rfl ?_ | refine x_aload_nN eL_law_378 rfl rfl ?_
    refine x_iload_n eL_law_379 rfl rfl ?_
    refine x_iconst (v := nI 5) eL_law_380 (by decide) ?_
    first | refine x_iaddN eL_law_381 (by with_reducible rfl) (by with_reducible rfl) ?_ | refine x_iadd eL_law_381 ?_
    refine x_scr eL_law_382 (by with_reducible rfl) (by omega) (by omega) ?_
    refine x_callV5 eL_law_383 lk_L_37 (by assumption) (Nat.le_of_ble_eq_true rfl) (Nat.le_of_ble_eq_true rfl) ?_
    refine Rn.deep (c_X9_sail_ (d := 0) M K I.gw (fun z2 _ => ?_) (fun z2 => absurd (z2.symm.trans z) (by decide))) (by omega)
    first | refine x_icmp_eqN (tgt := 1299) eL_law_386 (by decide) (by with_reducible rfl) (by with_reducible rfl) (by omega) (by omega) (fun cq1 => ?_) (fun cq1 => ?_) | refine x_icmp_eq (tgt := 1299) eL_law_386 (by decide) (fun cq1 => ?_) (fun cq1 => ?_)
    · refine Rn.weak (kc _ (St.same R r hk5)) (by repeat' first | exact fun _ h => absurd h List.not_mem_nil | refine List.forall_mem_cons.mpr ⟨rfl, ?_⟩)
    · exact absurd rfl cq1
  · obtain ⟨o2, -, -, Z, -, -⟩ := id P
    obtain ⟨M2, K2, T2, E2, kx2⟩ := R.mid Z
    have e1 : hi h2 (x + 1) = hi h (x + 1) := E2 1 (by omega)
    first | refine x_aload_n eL_law_357 rfl rfl ?_ | refine x_aload_nN eL_law_357 rfl rfl ?_
    first | refine x_aload_n eL_law_358 rfl rfl ?_ | refine x_aload_nN eL_law_358 rfl rfl ?_
    refine x_iload_n eL_law_359 rfl rfl ?_
    refine x_iconst (v := nI 1) eL_law_360 (by decide) ?_
    first | refine x_iaddN eL_law_361 (by with_reducible rfl) (by with_reducible rfl) ?_ | refine x_iadd eL_law_361 ?_
    refine x_scr eL_law_362 (by with_reducible rfl) (by omega) (by omega) ?_
    first | refine x_aload_n eL_law_363 rfl rfl ?_ | refine x_aload_nN eL_law_363 rfl rfl ?_
    refine x_iload_n eL_law_364 rfl rfl ?_
    refine x_iconst (v := nI 2) eL_law_365 (by decide) ?_
    first | refine x_iaddN eL_law_366 (by with_reducible rfl) (by with_reducible rfl) ?_ | refine x_iadd eL_law_366 ?_
    refine x_scr eL_law_367 (by with_reducible rfl) (by omega) (by omega) ?_
    first | refine x_aload_n eL_law_368 rfl rfl ?_ | refine x_aload_nN eL_law_368 rfl rfl ?_
    refine x_iload_n eL_law_369 rfl rfl ?_
    refine x_iconst (v := nI 3) eL_law_370 (by decide) ?_
    first | refine x_iaddN eL_law_371 (by with_reducible rfl) (by with_reducible rfl) ?_ | refine x_iadd eL_law_371 ?_
    refine x_scr eL_law_372 (by with_reducible rfl) (by omega) (by omega) ?_
    first | refine x_aload_n eL_law_373 rfl rfl ?_ | refine x_aload_nN eL_law_373 rfl rfl ?_
    refine x_iload_n eL_law_374 rfl rfl ?_
    refine x_iconst (v := nI 4) eL_law_375 (by decide) ?_
    first | refine x_iaddN eL_law_376 (by with_reducible rfl) (by with_reducible rfl) ?_ | refine x_iadd eL_law_376 ?_
    refine x_scr eL_law_377 (by with_reducible rfl) (by omega) (by omega) ?_
    first | refine x_aload_n eL_law_378 rfl rfl ?_ | refine x_aload_nN eL_law_378 rfl rfl ?_
    refine x_iload_n eL_law_379 rfl rfl ?_
    refine x_iconst (v := nI 5) eL_law_380 (by decide) ?_
    first | refine x_iaddN eL_law_381 (by with_reducible rfl) (by with_reducible rfl) ?_ | refine x_iadd eL_law_381 ?_
    refine x_scr eL_law_382 (by with_reducible rfl) (by omega) (by omega) ?_
    refine x_callV5 eL_law_383 lk_L_37 (by assumption) (Nat.le_of_ble_eq_true rfl) (Nat.le_of_ble_eq_true rfl) ?_
    refine Rn.deep (c_X9_sail_ (d := 0) M2 K2 (by rw [e1]; exact I.gw) (fun z2 => by rw [e1, z] at z2; cases z2) (fun z2 lt _ => ?_)) (by omega)
    rw [e1] at lt
    rw [e1]
    first | refine x_icmp_eqN (tgt := 1299) eL_law_386 (by decide) (by with_reducible rfl) (by with_reducible rfl) (by omega) (by omega) (fun cq2 => ?_) (fun cq2 => ?_) | refine x_icmp_eq (tgt := 1299) eL_law_386 (by decide) (fun cq2 => ?_) (fun cq2 => ?_)
    · refine Rn.weak (kc _ (St.act R r hk5 x1 P (GO_sail I B z lt))) (by repeat' first | exact fun _ h => absurd h List.not_mem_nil | refine List.forall_mem_cons.mpr ⟨rfl, ?_⟩)
    · exact absurd rfl cq2
set_option maxRecDepth 100000 in
set_option maxHeartbeats 4000000 in
theorem cs_5 (R : Rel h y x o kp nx la ps) (r : Ro G k h) (hk6 : 6 * k + 6 ≤ gL G) (hL : gL G ≤ 3072) (kc : Kc G y x k Q) : Rn G 10 mL_law 391 [(0, .ref (gb G)), (1, .ref y), (2, .ref x), (3, .int (nI (6 * k)))] [] h Q := by
  have ky := R.ky
  have kx := R.kx
  have hk5 : k < 512 := by omega
  have rm := r.rm hk5
  obtain ⟨⟨M, K, T⟩, C, A, ⟨I, B⟩, H⟩ := id R
  first | refine x_aload_n eL_law_391 rfl rfl ?_ | refine x_aload_nN eL_law_391 rfl rfl ?_
  first | refine x_aload_n eL_law_392 rfl rfl ?_ | refine x_aload_nN eL_law_392 rfl rfl ?_
  refine x_iload_n eL_law_393 rfl rfl ?_
  refine x_iconst (v := nI 1) eL_law_394 (by decide) ?_
  first | refine x_iaddN eL_law_395 (by with_reducible rfl) (by with_reducible rfl) ?_ | refine x_iadd eL_law_395 ?_
  refine x_scr eL_law_396 (by with_reducible rfl) (by omega) (by omega) ?_
  first | refine x_aload_n eL_law_397 rfl rfl ?_ | refine x_aload_nN eL_law_397 rfl rfl ?_
  refine x_iload_n eL_law_398 rfl rfl ?_
  refine x_iconst (v := nI 2) eL_law_399 (by decide) ?_
  first | refine x_iaddN eL_law_400 (by with_reducible rfl) (by with_reducible rfl) ?_ | refine x_iadd eL_law_400 ?_
  refine x_scr eL_law_401 (by with_reducible rfl) (by omega) (by omega) ?_
  first | refine x_aload_n eL_law_402 rfl rfl ?_ | refine x_aload_nN eL_law_402 rfl rfl ?_
  refine x_iload_n eL_law_403 rfl rfl ?_
  refine x_iconst (v := nI 3) eL_law_404 (by decide) ?_
  first | refine x_iaddN eL_law_405 (by with_reducible rfl) (by with_reducible rfl) ?_ | refine x_iadd eL_law_405 ?_
  refine x_scr eL_law_406 (by with_reducible rfl) (by omega) (by omega) ?_
  refine x_callV3 eL_law_407 lk_L_38 (by assumption) (Nat.le_of_ble_eq_true rfl) (Nat.le_of_ble_eq_true rfl) ?_
  refine Rn.deep (c_X8_edge (d := 0) C A I rm (fun z _ => ?_) (fun z h2 P x1 => ?_)) (by omega)
  · first | refine x_aload_n eL_law_410 rfl rfl ?_ | refine x_aload_nN eL_law_410 rfl rfl ?_
    first | refine x_aload_n eL_law_411 rfl rfl ?_ | refine x_aload_nN eL_law_411 rfl rfl ?_
    refine x_iload_n eL_law_412 rfl rfl ?_
    refine x_iconst (v := nI 1) eL_law_413 (by decide) ?_
    first | refine x_iaddN eL_law_414 (by with_reducible rfl) (by with_reducible rfl) ?_ | refine x_iadd eL_law_414 ?_
    refine x_scr eL_law_415 (by with_reducible rfl) (by omega) (by omega) ?_
    first | refine x_aload_n eL_law_416 rfl rfl ?_ | refine x_aload_nN eL_law_416 rfl rfl ?_
    refine x_iload_n eL_law_417 rfl rfl ?_
    refine x_iconst (v := nI 2) eL_law_418 (by decide) ?_
    first | refine x_iaddN eL_law_419 (by with_reducible rfl) (by with_reducible rfl) ?_ | refine x_iadd eL_law_419 ?_
    refine x_scr eL_law_420 (by with_reducible rfl) (by omega) (by omega) ?_
    first | refine x_aload_n eL_law_421 rfl rfl ?_ | refine x_aload_nN eL_law_421 rfl rfl ?_
    refine x_iload_n eL_law_422 rfl rfl ?_
    refine x_iconst (v := nI 3) eL_law_423 (by decide) ?_
    first | refine x_iaddN eL_law_424 (by with_reducible rfl) (by with_reducible rfl) ?_ | refine x_iadd eL_law_424 ?_
    refine x_scr eL_law_425 (by with_reducible rfl) (by omega) (by omega) ?_
    refine x_callV3 eL_law_426 lk_L_41 (by assumption) (Nat.le_of_ble_eq_true rfl) (Nat.le_of_ble_eq_true rfl) ?_
    refine Rn.deep (c_X9_edge (d := 0) M K I.gw (fun z2 _ => ?_) (fun z2 => absurd (z2.symm.trans z) (by decide))) (by omega)
    first | refine x_icmp_eqN (tgt := 1299) eL_law_429 (by decide) (by with_reducible rfl) (by with_reducible rfl) (by omega) (by omega) (fun cq1 => ?_) (fun cq1 => ?_) | refine x_icmp_eq (tgt := 1299) eL_law_429 (by decide) (fun cq1 => ?_) (fun cq1 => ?_)
    · refine Rn.weak (kc _ (St.same R r hk5)) (by repeat' first | exact fun _ h => absurd h List.not_mem_nil | refine List.forall_mem_cons.mpr ⟨rfl, ?_⟩)
    · exact absurd rfl cq1
  · obtain ⟨o2, -, -, Z, -, -⟩ := id P
    obtain ⟨M2, K2, T2, E2, kx2⟩ := R.mid Z
    have e1 : hi h2 (x + 1) = hi h (x + 1) := E2 1 (by omega)
    first | refine x_aload_n eL_law_410 rfl rfl ?_ | refine x_aload_nN eL_law_410 rfl rfl ?_
    first | refine x_aload_n eL_law_411 rfl rfl ?_ | refine x_aload_nN eL_law_411 rfl rfl ?_
    refine x_iload_n eL_law_412 rfl rfl ?_
    refine x_iconst (v := nI 1) eL_law_413 (by decide) ?_
    first | refine x_iaddN eL_law_414 (by with_reducible rfl) (by with_reducible rfl) ?_ | refine x_iadd eL_law_414 ?_
    refine x_scr eL_law_415 (by with_reducible rfl) (by omega) (by omega) ?_
    first | refine x_aload_n eL_law_416 rfl rfl ?_ | refine x_aload_nN eL_law_416 rfl rfl ?_
    refine x_iload_n eL_law_417 rfl rfl ?_
    refine x_iconst (v := nI 2) eL_law_418 (by decide) ?_
    first | refine x_iaddN eL_law_419 (by with_reducible rfl) (by with_reducible rfl) ?_ | refine x_iadd eL_law_419 ?_
    refine x_scr eL_law_420 (by with_reducible rfl) (by omega) (by omega) ?_
    first | refine x_aload_n eL_law_421 rfl rfl ?_ | refine x_aload_nN eL_law_421 rfl rfl ?_
    refine x_iload_n eL_law_422 rfl rfl ?_
    refine x_iconst (v := nI 3) eL_law_423 (by decide) ?_
    first | refine x_iaddN eL_law_424 (by with_reducible rfl) (by with_reducible rfl) ?_ | refine x_iadd eL_law_424 ?_
    refine x_scr eL_law_425 (by with_reducible rfl) (by omega) (by omega) ?_
    refine x_callV3 eL_law_426 lk_L_41 (by assumption) (Nat.le_of_ble_eq_true rfl) (Nat.le_of_ble_eq_true rfl) ?_
    refine Rn.deep (c_X9_edge (d := 0) M2 K2 (by rw [e1]; exact I.gw) (fun z2 => by rw [e1, z] at z2; cases z2) (fun z2 _ => ?_)) (by omega)
    skip
    rw [e1]
    first | refine x_icmp_eqN (tgt := 1299) eL_law_429 (by decide) (by with_reducible rfl) (by with_reducible rfl) (by omega) (by omega) (fun cq2 => ?_) (fun cq2 => ?_) | refine x_icmp_eq (tgt := 1299) eL_law_429 (by decide) (fun cq2 => ?_) (fun cq2 => ?_)
    · refine Rn.weak (kc _ (St.act R r hk5 x1 P (GO_edge I B z))) (by repeat' first | exact fun _ h => absurd h List.not_mem_nil | refine List.forall_mem_cons.mpr ⟨rfl, ?_⟩)
    · exact absurd rfl cq2
set_option maxRecDepth 100000 in
set_option maxHeartbeats 4000000 in
theorem cs_6 (R : Rel h y x o kp nx la ps) (r : Ro G k h) (hk6 : 6 * k + 6 ≤ gL G) (hL : gL G ≤ 3072) (kc : Kc G y x k Q) : Rn G 10 mL_law 434 [(0, .ref (gb G)), (1, .ref y), (2, .ref x), (3, .int (nI (6 * k)))] [] h Q := by
  have ky := R.ky
  have kx := R.kx
  have hk5 : k < 512 := by omega
  have rm := r.rm hk5
  obtain ⟨⟨M, K, T⟩, C, A, ⟨I, B⟩, H⟩ := id R
  first | refine x_aload_n eL_law_434 rfl rfl ?_ | refine x_aload_nN eL_law_434 rfl rfl ?_
  first | refine x_aload_n eL_law_435 rfl rfl ?_ | refine x_aload_nN eL_law_435 rfl rfl ?_
  refine x_iload_n eL_law_436 rfl rfl ?_
  refine x_iconst (v := nI 1) eL_law_437 (by decide) ?_
  first | refine x_iaddN eL_law_438 (by with_reducible rfl) (by with_reducible rfl) ?_ | refine x_iadd eL_law_438 ?_
  refine x_scr eL_law_439 (by with_reducible rfl) (by omega) (by omega) ?_
  first | refine x_aload_n eL_law_440 rfl rfl ?_ | refine x_aload_nN eL_law_440 rfl rfl ?_
  refine x_iload_n eL_law_441 rfl rfl ?_
  refine x_iconst (v := nI 2) eL_law_442 (by decide) ?_
  first | refine x_iaddN eL_law_443 (by with_reducible rfl) (by with_reducible rfl) ?_ | refine x_iadd eL_law_443 ?_
  refine x_scr eL_law_444 (by with_reducible rfl) (by omega) (by omega) ?_
  first | refine x_aload_n eL_law_445 rfl rfl ?_ | refine x_aload_nN eL_law_445 rfl rfl ?_
  refine x_iload_n eL_law_446 rfl rfl ?_
  refine x_iconst (v := nI 3) eL_law_447 (by decide) ?_
  first | refine x_iaddN eL_law_448 (by with_reducible rfl) (by with_reducible rfl) ?_ | refine x_iadd eL_law_448 ?_
  refine x_scr eL_law_449 (by with_reducible rfl) (by omega) (by omega) ?_
  first | refine x_aload_n eL_law_450 rfl rfl ?_ | refine x_aload_nN eL_law_450 rfl rfl ?_
  refine x_iload_n eL_law_451 rfl rfl ?_
  refine x_iconst (v := nI 4) eL_law_452 (by decide) ?_
  first | refine x_iaddN eL_law_453 (by with_reducible rfl) (by with_reducible rfl) ?_ | refine x_iadd eL_law_453 ?_
  refine x_scr eL_law_454 (by with_reducible rfl) (by omega) (by omega) ?_
  refine x_callV4 eL_law_455 lk_L_42 (by assumption) (Nat.le_of_ble_eq_true rfl) (Nat.le_of_ble_eq_true rfl) ?_
  refine Rn.deep (c_X8_stand (d := 0) C A I rm (fun z _ => ?_) (fun z h2 P x1 => ?_)) (by omega)
  · first | refine x_aload_n eL_law_458 rfl rfl ?_ | refine x_aload_nN eL_law_458 rfl rfl ?_
    first | refine x_aload_n eL_law_459 rfl rfl ?_ | refine x_aload_nN eL_law_459 rfl rfl ?_
    refine x_iload_n eL_law_460 rfl rfl ?_
    refine x_iconst (v := nI 1) eL_law_461 (by decide) ?_
    first | refine x_iaddN eL_law_462 (by with_reducible rfl) (by with_reducible rfl) ?_ | refine x_iadd eL_law_462 ?_
    refine x_scr eL_law_463 (by with_reducible rfl) (by omega) (by omega) ?_
    first | refine x_aload_n eL_law_464 rfl rfl ?_ | refine x_aload_nN eL_law_464 rfl rfl ?_
    refine x_iload_n eL_law_465 rfl rfl ?_
    refine x_iconst (v := nI 2) eL_law_466 (by decide) ?_
    first | refine x_iaddN eL_law_467 (by with_reducible rfl) (by with_reducible rfl) ?_ | refine x_iadd eL_law_467 ?_
    refine x_scr eL_law_468 (by with_reducible rfl) (by omega) (by omega) ?_
    first | refine x_aload_n eL_law_469 rfl rfl ?_ | refine x_aload_nN eL_law_469 rfl rfl ?_
    refine x_iload_n eL_law_470 rfl rfl ?_
    refine x_iconst (v := nI 3) eL_law_471 (by decide) ?_
    first | refine x_iaddN eL_law_472 (by with_reducible rfl) (by with_reducible rfl) ?_ | refine x_iadd eL_law_472 ?_
    refine x_scr eL_law_473 (by with_reducible rfl) (by omega) (by omega) ?_
    first | refine x_aload_n eL_law_474 rfl rfl ?_ | refine x_aload_nN eL_law_474 rfl rfl ?_
    refine x_iload_n eL_law_475 rfl rfl ?_
    refine x_iconst (v := nI 4) eL_law_476 (by decide) ?_
    first | refine x_iaddN eL_law_477 (by with_reducible rfl) (by with_reducible rfl) ?_ | refine x_iadd eL_law_477 ?_
    refine x_scr eL_law_478 (by with_reducible rfl) (by omega) (by omega) ?_
    refine x_callV4 eL_law_479 lk_L_46 (by assumption) (Nat.le_of_ble_eq_true rfl) (Nat.le_of_ble_eq_true rfl) ?_
    refine Rn.deep (c_X9_stand (d := 0) M K I.gw (fun z2 _ => ?_) (fun z2 => absurd (z2.symm.trans z) (by decide))) (by omega)
    first | refine x_icmp_eqN (tgt := 1299) eL_law_482 (by decide) (by with_reducible rfl) (by with_reducible rfl) (by omega) (by omega) (fun cq1 => ?_) (fun cq1 => ?_) | refine x_icmp_eq (tgt := 1299) eL_law_482 (by decide) (fun cq1 => ?_) (fun cq1 => ?_)
    · refine Rn.weak (kc _ (St.same R r hk5)) (by repeat' first | exact fun _ h => absurd h List.not_mem_nil | refine List.forall_mem_cons.mpr ⟨rfl, ?_⟩)
    · exact absurd rfl cq1
  · obtain ⟨o2, -, -, Z, -, -⟩ := id P
    obtain ⟨M2, K2, T2, E2, kx2⟩ := R.mid Z
    have e1 : hi h2 (x + 1) = hi h (x + 1) := E2 1 (by omega)
    first | refine x_aload_n eL_law_458 rfl rfl ?_ | refine x_aload_nN eL_law_458 rfl rfl ?_
    first | refine x_aload_n eL_law_459 rfl rfl ?_ | refine x_aload_nN eL_law_459 rfl rfl ?_
    refine x_iload_n eL_law_460 rfl rfl ?_
    refine x_iconst (v := nI 1) eL_law_461 (by decide) ?_
    first | refine x_iaddN eL_law_462 (by with_reducible rfl) (by with_reducible rfl) ?_ | refine x_iadd eL_law_462 ?_
    refine x_scr eL_law_463 (by with_reducible rfl) (by omega) (by omega) ?_
    first | refine x_aload_n eL_law_464 rfl rfl ?_ | refine x_aload_nN eL_law_464 rfl rfl ?_
    refine x_iload_n eL_law_465 rfl rfl ?_
    refine x_iconst (v := nI 2) eL_law_466 (by decide) ?_
    first | refine x_iaddN eL_law_467 (by with_reducible rfl) (by with_reducible rfl) ?_ | refine x_iadd eL_law_467 ?_
    refine x_scr eL_law_468 (by with_reducible rfl) (by omega) (by omega) ?_
    first | refine x_aload_n eL_law_469 rfl rfl ?_ | refine x_aload_nN eL_law_469 rfl rfl ?_
    refine x_iload_n eL_law_470 rfl rfl ?_
    refine x_iconst (v := nI 3) eL_law_471 (by decide) ?_
    first | refine x_iaddN eL_law_472 (by with_reducible rfl) (by with_reducible rfl) ?_ | refine x_iadd eL_law_472 ?_
    refine x_scr eL_law_473 (by with_reducible rfl) (by omega) (by omega) ?_
    first | refine x_aload_n eL_law_474 rfl rfl ?_ | refine x_aload_nN eL_law_474 rfl rfl ?_
    refine x_iload_n eL_law_475 rfl rfl ?_
    refine x_iconst (v := nI 4) eL_law_476 (by decide) ?_
    first | refine x_iaddN eL_law_477 (by with_reducible rfl) (by with_reducible rfl) ?_ | refine x_iadd eL_law_477 ?_
    refine x_scr eL_law_478 (by with_reducible rfl) (by omega) (by omega) ?_
    refine x_callV4 eL_law_479 lk_L_46 (by assumption) (Nat.le_of_ble_eq_true rfl) (Nat.le_of_ble_eq_true rfl) ?_
    refine Rn.deep (c_X9_stand (d := 0) M2 K2 (by rw [e1]; exact I.gw) (fun z2 => by rw [e1, z] at z2; cases z2) (fun z2 _ => ?_)) (by omega)
    skip
    rw [e1]
    first | refine x_icmp_eqN (tgt := 1299) eL_law_482 (by decide) (by with_reducible rfl) (by with_reducible rfl) (by omega) (by omega) (fun cq2 => ?_) (fun cq2 => ?_) | refine x_icmp_eq (tgt := 1299) eL_law_482 (by decide) (fun cq2 => ?_) (fun cq2 => ?_)
    · refine Rn.weak (kc _ (St.act R r hk5 x1 P (GO_stand I B z))) (by repeat' first | exact fun _ h => absurd h List.not_mem_nil | refine List.forall_mem_cons.mpr ⟨rfl, ?_⟩)
    · exact absurd rfl cq2
set_option maxRecDepth 100000 in
set_option maxHeartbeats 4000000 in
theorem cs_8 (R : Rel h y x o kp nx la ps) (r : Ro G k h) (hk6 : 6 * k + 6 ≤ gL G) (hL : gL G ≤ 3072) (kc : Kc G y x k Q) : Rn G 10 mL_law 530 [(0, .ref (gb G)), (1, .ref y), (2, .ref x), (3, .int (nI (6 * k)))] [] h Q := by
  have ky := R.ky
  have kx := R.kx
  have hk5 : k < 512 := by omega
  have rm := r.rm hk5
  obtain ⟨⟨M, K, T⟩, C, A, ⟨I, B⟩, H⟩ := id R
  first | refine x_aload_n eL_law_530 rfl rfl ?_ | refine x_aload_nN eL_law_530 rfl rfl ?_
  first | refine x_aload_n eL_law_531 rfl rfl ?_ | refine x_aload_nN eL_law_531 rfl rfl ?_
  refine x_iload_n eL_law_532 rfl rfl ?_
  refine x_iconst (v := nI 1) eL_law_533 (by decide) ?_
  first | refine x_iaddN eL_law_534 (by with_reducible rfl) (by with_reducible rfl) ?_ | refine x_iadd eL_law_534 ?_
  refine x_scr eL_law_535 (by with_reducible rfl) (by omega) (by omega) ?_
  first | refine x_aload_n eL_law_536 rfl rfl ?_ | refine x_aload_nN eL_law_536 rfl rfl ?_
  refine x_iload_n eL_law_537 rfl rfl ?_
  refine x_iconst (v := nI 2) eL_law_538 (by decide) ?_
  first | refine x_iaddN eL_law_539 (by with_reducible rfl) (by with_reducible rfl) ?_ | refine x_iadd eL_law_539 ?_
  refine x_scr eL_law_540 (by with_reducible rfl) (by omega) (by omega) ?_
  first | refine x_aload_n eL_law_541 rfl rfl ?_ | refine x_aload_nN eL_law_541 rfl rfl ?_
  refine x_iload_n eL_law_542 rfl rfl ?_
  refine x_iconst (v := nI 3) eL_law_543 (by decide) ?_
  first | refine x_iaddN eL_law_544 (by with_reducible rfl) (by with_reducible rfl) ?_ | refine x_iadd eL_law_544 ?_
  refine x_scr eL_law_545 (by with_reducible rfl) (by omega) (by omega) ?_
  refine x_callV3 eL_law_546 lk_L_51 (by assumption) (Nat.le_of_ble_eq_true rfl) (Nat.le_of_ble_eq_true rfl) ?_
  refine Rn.deep (c_X8_cut (d := 0) C A I rm (fun z _ => ?_) (fun z h2 P x1 => ?_)) (by omega)
  · first | refine x_aload_n eL_law_549 rfl rfl ?_ | refine x_aload_nN eL_law_549 rfl rfl ?_
    first | refine x_aload_n eL_law_550 rfl rfl ?_ | refine x_aload_nN eL_law_550 rfl rfl ?_
    refine x_iload_n eL_law_551 rfl rfl ?_
    refine x_iconst (v := nI 1) eL_law_552 (by decide) ?_
    first | refine x_iaddN eL_law_553 (by with_reducible rfl) (by with_reducible rfl) ?_ | refine x_iadd eL_law_553 ?_
    refine x_scr eL_law_554 (by with_reducible rfl) (by omega) (by omega) ?_
    first | refine x_aload_n eL_law_555 rfl rfl ?_ | refine x_aload_nN eL_law_555 rfl rfl ?_
    refine x_iload_n eL_law_556 rfl rfl ?_
    refine x_iconst (v := nI 2) eL_law_557 (by decide) ?_
    first | refine x_iaddN eL_law_558 (by with_reducible rfl) (by with_reducible rfl) ?_ | refine x_iadd eL_law_558 ?_
    refine x_scr eL_law_559 (by with_reducible rfl) (by omega) (by omega) ?_
    first | refine x_aload_n eL_law_560 rfl rfl ?_ | refine x_aload_nN eL_law_560 rfl rfl ?_
    refine x_iload_n eL_law_561 rfl rfl ?_
    refine x_iconst (v := nI 3) eL_law_562 (by decide) ?_
    first | refine x_iaddN eL_law_563 (by with_reducible rfl) (by with_reducible rfl) ?_ | refine x_iadd eL_law_563 ?_
    refine x_scr eL_law_564 (by with_reducible rfl) (by omega) (by omega) ?_
    refine x_callV3 eL_law_565 lk_L_54 (by assumption) (Nat.le_of_ble_eq_true rfl) (Nat.le_of_ble_eq_true rfl) ?_
    refine Rn.deep (c_X9_cut (d := 0) M K I.gw (fun z2 _ => ?_) (fun z2 => absurd (z2.symm.trans z) (by decide))) (by omega)
    first | refine x_icmp_eqN (tgt := 1299) eL_law_568 (by decide) (by with_reducible rfl) (by with_reducible rfl) (by omega) (by omega) (fun cq1 => ?_) (fun cq1 => ?_) | refine x_icmp_eq (tgt := 1299) eL_law_568 (by decide) (fun cq1 => ?_) (fun cq1 => ?_)
    · refine Rn.weak (kc _ (St.same R r hk5)) (by repeat' first | exact fun _ h => absurd h List.not_mem_nil | refine List.forall_mem_cons.mpr ⟨rfl, ?_⟩)
    · exact absurd rfl cq1
  · obtain ⟨o2, -, -, Z, -, -⟩ := id P
    obtain ⟨M2, K2, T2, E2, kx2⟩ := R.mid Z
    have e1 : hi h2 (x + 1) = hi h (x + 1) := E2 1 (by omega)
    first | refine x_aload_n eL_law_549 rfl rfl ?_ | refine x_aload_nN eL_law_549 rfl rfl ?_
    first | refine x_aload_n eL_law_550 rfl rfl ?_ | refine x_aload_nN eL_law_550 rfl rfl ?_
    refine x_iload_n eL_law_551 rfl rfl ?_
    refine x_iconst (v := nI 1) eL_law_552 (by decide) ?_
    first | refine x_iaddN eL_law_553 (by with_reducible rfl) (by with_reducible rfl) ?_ | refine x_iadd eL_law_553 ?_
    refine x_scr eL_law_554 (by with_reducible rfl) (by omega) (by omega) ?_
    first | refine x_aload_n eL_law_555 rfl rfl ?_ | refine x_aload_nN eL_law_555 rfl rfl ?_
    refine x_iload_n eL_law_556 rfl rfl ?_
    refine x_iconst (v := nI 2) eL_law_557 (by decide) ?_
    first | refine x_iaddN eL_law_558 (by with_reducible rfl) (by with_reducible rfl) ?_ | refine x_iadd eL_law_558 ?_
    refine x_scr eL_law_559 (by with_reducible rfl) (by omega) (by omega) ?_
    first | refine x_aload_n eL_law_560 rfl rfl ?_ | refine x_aload_nN eL_law_560 rfl rfl ?_
    refine x_iload_n eL_law_561 rfl rfl ?_
    refine x_iconst (v := nI 3) eL_law_562 (by decide) ?_
    first | refine x_iaddN eL_law_563 (by with_reducible rfl) (by with_reducible rfl) ?_ | refine x_iadd eL_law_563 ?_
    refine x_scr eL_law_564 (by with_reducible rfl) (by omega) (by omega) ?_
    refine x_callV3 eL_law_565 lk_L_54 (by assumption) (Nat.le_of_ble_eq_true rfl) (Nat.le_of_ble_eq_true rfl) ?_
    refine Rn.deep (c_X9_cut (d := 0) M2 K2 (by rw [e1]; exact I.gw) (fun z2 => by rw [e1, z] at z2; cases z2) (fun z2 _ => ?_)) (by omega)
    skip
    rw [e1]
    first | refine x_icmp_eqN (tgt := 1299) eL_law_568 (by decide) (by with_reducible rfl) (by with_reducible rfl) (by omega) (by omega) (fun cq2 => ?_) (fun cq2 => ?_) | refine x_icmp_eq (tgt := 1299) eL_law_568 (by decide) (fun cq2 => ?_) (fun cq2 => ?_)
    · refine Rn.weak (kc _ (St.act R r hk5 x1 P (GO_cut I B z))) (by repeat' first | exact fun _ h => absurd h List.not_mem_nil | refine List.forall_mem_cons.mpr ⟨rfl, ?_⟩)
    · exact absurd rfl cq2
set_option maxRecDepth 100000 in
set_option maxHeartbeats 4000000 in
theorem cs_9 (R : Rel h y x o kp nx la ps) (r : Ro G k h) (hk6 : 6 * k + 6 ≤ gL G) (hL : gL G ≤ 3072) (kc : Kc G y x k Q) : Rn G 10 mL_law 573 [(0, .ref (gb G)), (1, .ref y), (2, .ref x), (3, .int (nI (6 * k)))] [] h Q := by
  have ky := R.ky
  have kx := R.kx
  have hk5 : k < 512 := by omega
  have rm := r.rm hk5
  obtain ⟨⟨M, K, T⟩, C, A, ⟨I, B⟩, H⟩ := id R
  first | refine x_aload_n eL_law_573 rfl rfl ?_ | refine x_aload_nN eL_law_573 rfl rfl ?_
  first | refine x_aload_n eL_law_574 rfl rfl ?_ | refine x_aload_nN eL_law_574 rfl rfl ?_
  refine x_iload_n eL_law_575 rfl rfl ?_
  refine x_iconst (v := nI 1) eL_law_576 (by decide) ?_
  first | refine x_iaddN eL_law_577 (by with_reducible rfl) (by with_reducible rfl) ?_ | refine x_iadd eL_law_577 ?_
  refine x_scr eL_law_578 (by with_reducible rfl) (by omega) (by omega) ?_
  first | refine x_aload_n eL_law_579 rfl rfl ?_ | refine x_aload_nN eL_law_579 rfl rfl ?_
  refine x_iload_n eL_law_580 rfl rfl ?_
  refine x_iconst (v := nI 2) eL_law_581 (by decide) ?_
  first | refine x_iaddN eL_law_582 (by with_reducible rfl) (by with_reducible rfl) ?_ | refine x_iadd eL_law_582 ?_
  refine x_scr eL_law_583 (by with_reducible rfl) (by omega) (by omega) ?_
  first | refine x_aload_n eL_law_584 rfl rfl ?_ | refine x_aload_nN eL_law_584 rfl rfl ?_
  refine x_iload_n eL_law_585 rfl rfl ?_
  refine x_iconst (v := nI 3) eL_law_586 (by decide) ?_
  first | refine x_iaddN eL_law_587 (by with_reducible rfl) (by with_reducible rfl) ?_ | refine x_iadd eL_law_587 ?_
  refine x_scr eL_law_588 (by with_reducible rfl) (by omega) (by omega) ?_
  refine x_callV3 eL_law_589 lk_L_55 (by assumption) (Nat.le_of_ble_eq_true rfl) (Nat.le_of_ble_eq_true rfl) ?_
  refine Rn.deep (c_X8_narrow (d := 0) C A I rm (fun z _ => ?_) (fun z h2 P x1 => ?_)) (by omega)
  · first | refine x_aload_n eL_law_592 rfl rfl ?_ | refine x_aload_nN eL_law_592 rfl rfl ?_
    first | refine x_aload_n eL_law_593 rfl rfl ?_ | refine x_aload_nN eL_law_593 rfl rfl ?_
    refine x_iload_n eL_law_594 rfl rfl ?_
    refine x_iconst (v := nI 1) eL_law_595 (by decide) ?_
    first | refine x_iaddN eL_law_596 (by with_reducible rfl) (by with_reducible rfl) ?_ | refine x_iadd eL_law_596 ?_
    refine x_scr eL_law_597 (by with_reducible rfl) (by omega) (by omega) ?_
    first | refine x_aload_n eL_law_598 rfl rfl ?_ | refine x_aload_nN eL_law_598 rfl rfl ?_
    refine x_iload_n eL_law_599 rfl rfl ?_
    refine x_iconst (v := nI 2) eL_law_600 (by decide) ?_
    first | refine x_iaddN eL_law_601 (by with_reducible rfl) (by with_reducible rfl) ?_ | refine x_iadd eL_law_601 ?_
    refine x_scr eL_law_602 (by with_reducible rfl) (by omega) (by omega) ?_
    first | refine x_aload_n eL_law_603 rfl rfl ?_ | refine x_aload_nN eL_law_603 rfl rfl ?_
    refine x_iload_n eL_law_604 rfl rfl ?_
    refine x_iconst (v := nI 3) eL_law_605 (by decide) ?_
    first | refine x_iaddN eL_law_606 (by with_reducible rfl) (by with_reducible rfl) ?_ | refine x_iadd eL_law_606 ?_
    refine x_scr eL_law_607 (by with_reducible rfl) (by omega) (by omega) ?_
    refine x_callV3 eL_law_608 lk_L_58 (by assumption) (Nat.le_of_ble_eq_true rfl) (Nat.le_of_ble_eq_true rfl) ?_
    refine Rn.deep (c_X9_narrow (d := 0) M K I.gw (fun z2 _ => ?_) (fun z2 => absurd (z2.symm.trans z) (by decide))) (by omega)
    first | refine x_icmp_eqN (tgt := 1299) eL_law_611 (by decide) (by with_reducible rfl) (by with_reducible rfl) (by omega) (by omega) (fun cq1 => ?_) (fun cq1 => ?_) | refine x_icmp_eq (tgt := 1299) eL_law_611 (by decide) (fun cq1 => ?_) (fun cq1 => ?_)
    · refine Rn.weak (kc _ (St.same R r hk5)) (by repeat' first | exact fun _ h => absurd h List.not_mem_nil | refine List.forall_mem_cons.mpr ⟨rfl, ?_⟩)
    · exact absurd rfl cq1
  · obtain ⟨o2, -, -, Z, -, -⟩ := id P
    obtain ⟨M2, K2, T2, E2, kx2⟩ := R.mid Z
    have e1 : hi h2 (x + 1) = hi h (x + 1) := E2 1 (by omega)
    first | refine x_aload_n eL_law_592 rfl rfl ?_ | refine x_aload_nN eL_law_592 rfl rfl ?_
    first | refine x_aload_n eL_law_593 rfl rfl ?_ | refine x_aload_nN eL_law_593 rfl rfl ?_
    refine x_iload_n eL_law_594 rfl rfl ?_
    refine x_iconst (v := nI 1) eL_law_595 (by decide) ?_
    first | refine x_iaddN eL_law_596 (by with_reducible rfl) (by with_reducible rfl) ?_ | refine x_iadd eL_law_596 ?_
    refine x_scr eL_law_597 (by with_reducible rfl) (by omega) (by omega) ?_
    first | refine x_aload_n eL_law_598 rfl rfl ?_ | refine x_aload_nN eL_law_598 rfl rfl ?_
    refine x_iload_n eL_law_599 rfl rfl ?_
    refine x_iconst (v := nI 2) eL_law_600 (by decide) ?_
    first | refine x_iaddN eL_law_601 (by with_reducible rfl) (by with_reducible rfl) ?_ | refine x_iadd eL_law_601 ?_
    refine x_scr eL_law_602 (by with_reducible rfl) (by omega) (by omega) ?_
    first | refine x_aload_n eL_law_603 rfl rfl ?_ | refine x_aload_nN eL_law_603 rfl rfl ?_
    refine x_iload_n eL_law_604 rfl rfl ?_
    refine x_iconst (v := nI 3) eL_law_605 (by decide) ?_
    first | refine x_iaddN eL_law_606 (by with_reducible rfl) (by with_reducible rfl) ?_ | refine x_iadd eL_law_606 ?_
    refine x_scr eL_law_607 (by with_reducible rfl) (by omega) (by omega) ?_
    refine x_callV3 eL_law_608 lk_L_58 (by assumption) (Nat.le_of_ble_eq_true rfl) (Nat.le_of_ble_eq_true rfl) ?_
    refine Rn.deep (c_X9_narrow (d := 0) M2 K2 (by rw [e1]; exact I.gw) (fun z2 => by rw [e1, z] at z2; cases z2) (fun z2 _ => ?_)) (by omega)
    skip
    rw [e1]
    first | refine x_icmp_eqN (tgt := 1299) eL_law_611 (by decide) (by with_reducible rfl) (by with_reducible rfl) (by omega) (by omega) (fun cq2 => ?_) (fun cq2 => ?_) | refine x_icmp_eq (tgt := 1299) eL_law_611 (by decide) (fun cq2 => ?_) (fun cq2 => ?_)
    · refine Rn.weak (kc _ (St.act R r hk5 x1 P (GO_nar I B z))) (by repeat' first | exact fun _ h => absurd h List.not_mem_nil | refine List.forall_mem_cons.mpr ⟨rfl, ?_⟩)
    · exact absurd rfl cq2
end LAW8

