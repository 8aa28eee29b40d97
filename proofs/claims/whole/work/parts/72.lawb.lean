section LAW
variable {p : Program} {l : Launch} {e : Env} {s : State} {m : MethodId} {below : List Frame} {meth : Method} {c : Code} {b L : Nat} {xs : Nat → Int32} {X Y : fw_X} {σ τ : fw_S} {H : Heap} {locs : List Loc} {ls : Array Slot} {n i pc : Nat}
set_option maxHeartbeats 4000000 in
set_option maxRecDepth 100000 in
theorem lc_deny (hL : L ≤ 2048) (C0 : lw_At p s m meth c b L xs) (hI : lw_I X Y s) (h : re_all n σ τ) (hn : n + 1 ≤ 512) (hi : i + 4 ≤ L) (hWx : fw_W fw_cl csh cV X σ H) (hWy : fw_W fw_cl msh mV Y τ H) (hS : va_S (fun q => s.heap.size ≤ q) s.heap H locs) (hl : lv_has ls 4 [(0, .ref b), (1, .ref (X.2.2 (0, 0, 0))), (2, .ref (Y.2.2 (0, 0, 0))), (3, .int (nI i))])
    (kk : ∀ (σ1 τ1 : fw_S) (H1 : Heap) (locs1 : List Loc), re_all (n + 1) σ1 τ1 → fw_W fw_cl csh cV X σ1 H1 → fw_W fw_cl msh mV Y τ1 H1 → va_S (fun q => s.heap.size ≤ q) s.heap H1 locs1 → W p l e room_1 s m #[Value.ref b] below meth c H1 locs1 105 13082 (lw_Z below #[Value.ref b] s) (F0 m 634 ls [])) : W p l e room_1 s m #[Value.ref b] below meth c H locs 105 13082 (lw_Z below #[Value.ref b] s) (F0 m 387 ls []) := by
  obtain ⟨hx, hb, hr, hml, hown, hts0, hX, hbl, hlocks, hgv⟩ := C0
  obtain ⟨hIx, hIy, hKx, hKy, hnb, hAx, hAy, hXY, tb, hz, hT⟩ := id hI
  have hts := lw_ts hts0
  refine lv_aload_n hx hb dl_387 rfl (lv_at hl 1 rfl) ?_
  refine la_arg hx hb hX hbl hS (lv_at hl 0 rfl) (lv_at hl 3 rfl) 1 (by omega) hL (by decide) dl_388 dl_389 dl_390 dl_391 dl_392 ?_
  refine la_arg hx hb hX hbl hS (lv_at hl 0 rfl) (lv_at hl 3 rfl) 2 (by omega) hL (by decide) dl_393 dl_394 dl_395 dl_396 dl_397 ?_
  refine la_bool hx hb dl_398 dl_401 dl_402 dl_405 ?_
  refine lw_c1 (τ := τ) (out := (cs_deny σ (xs (i + 1)) (if xs (i + 2) = 0 then 0 else 1))) (va_runV (As := [.int (xs (i + 1)), .int (if xs (i + 2) = 0 then 0 else 1)]) (rest := []) ⟨hx, hb, hml, hown, hts⟩ (c_deny l X hIx σ (xs (i + 1)) (if xs (i + 2) = 0 then 0 else 1)) (cwV 2 hts (tb_V m_342 m_339 m_340 m_341 m_25) rfl rfl rfl (by decide +kernel) ⟨Nat.le_of_ble_eq_true rfl, Nat.le_of_ble_eq_true rfl⟩) (fw_preV (X := X) hKx hnb hWx (0, 0, 0) cv0 rfl rfl [.int (xs (i + 1)), .int (if xs (i + 2) = 0 then 0 else 1)]) rfl rfl hl.1 rfl (lv_room (Nat.le_of_ble_eq_true rfl)) dl_406 ⟨Nat.le_of_ble_eq_true rfl, Nat.le_of_ble_eq_true rfl⟩) hI hWy hS (fun H locs hWx hWy hS => ?_)
  refine lv_aload_n hx hb dl_409 rfl (lv_at hl 2 rfl) ?_
  refine la_arg hx hb hX hbl hS (lv_at hl 0 rfl) (lv_at hl 3 rfl) 1 (by omega) hL (by decide) dl_410 dl_411 dl_412 dl_413 dl_414 ?_
  refine la_arg hx hb hX hbl hS (lv_at hl 0 rfl) (lv_at hl 3 rfl) 2 (by omega) hL (by decide) dl_415 dl_416 dl_417 dl_418 dl_419 ?_
  refine la_bool hx hb dl_420 dl_423 dl_424 dl_427 ?_
  refine lw_c2 (out := (ms_deny τ (xs (i + 1)) (if xs (i + 2) = 0 then 0 else 1))) (va_runV (As := [.int (xs (i + 1)), .int (if xs (i + 2) = 0 then 0 else 1)]) (rest := [.int (cs_deny σ (xs (i + 1)) (if xs (i + 2) = 0 then 0 else 1)).1]) ⟨hx, hb, hml, hown, hts⟩ (cm_deny l Y hIy τ (xs (i + 1)) (if xs (i + 2) = 0 then 0 else 1) (lx_b _)) (cwV 2 hts (tb_V m_539 m_536 m_537 m_538 m_31) rfl rfl rfl (by decide +kernel) ⟨Nat.le_of_ble_eq_true rfl, Nat.le_of_ble_eq_true rfl⟩) (fw_preV (X := Y) hKy hnb hWy (0, 0, 0) mv0 rfl rfl [.int (xs (i + 1)), .int (if xs (i + 2) = 0 then 0 else 1)]) rfl rfl hl.1 rfl (lv_room (Nat.le_of_ble_eq_true rfl)) dl_428 ⟨Nat.le_of_ble_eq_true rfl, Nat.le_of_ble_eq_true rfl⟩) hI hWx hS (fun H locs hWx hWy hS => ?_)
  refine lv_icmp_eq (tgt := 634) hx hb dl_431 (by decide) (fun _ => ?_) (fun c1 => ?_)
  · exact kk _ _ _ _ (si_deny h (xs (i + 1)) (if xs (i + 2) = 0 then 0 else 1) (lx_b _)).2 hWx hWy hS
  · exact absurd (si_deny h (xs (i + 1)) (if xs (i + 2) = 0 then 0 else 1) (lx_b _)).1 c1
set_option maxHeartbeats 4000000 in
set_option maxRecDepth 100000 in
theorem lc_word (hL : L ≤ 2048) (C0 : lw_At p s m meth c b L xs) (hI : lw_I X Y s) (h : re_all n σ τ) (hn : n + 1 ≤ 512) (hi : i + 4 ≤ L) (hWx : fw_W fw_cl csh cV X σ H) (hWy : fw_W fw_cl msh mV Y τ H) (hS : va_S (fun q => s.heap.size ≤ q) s.heap H locs) (hl : lv_has ls 4 [(0, .ref b), (1, .ref (X.2.2 (0, 0, 0))), (2, .ref (Y.2.2 (0, 0, 0))), (3, .int (nI i))])
    (kk : ∀ (σ1 τ1 : fw_S) (H1 : Heap) (locs1 : List Loc), re_all (n + 1) σ1 τ1 → fw_W fw_cl csh cV X σ1 H1 → fw_W fw_cl msh mV Y τ1 H1 → va_S (fun q => s.heap.size ≤ q) s.heap H1 locs1 → W p l e room_1 s m #[Value.ref b] below meth c H1 locs1 105 13082 (lw_Z below #[Value.ref b] s) (F0 m 634 ls [])) : W p l e room_1 s m #[Value.ref b] below meth c H locs 105 13082 (lw_Z below #[Value.ref b] s) (F0 m 436 ls []) := by
  obtain ⟨hx, hb, hr, hml, hown, hts0, hX, hbl, hlocks, hgv⟩ := C0
  obtain ⟨hIx, hIy, hKx, hKy, hnb, hAx, hAy, hXY, tb, hz, hT⟩ := id hI
  have hts := lw_ts hts0
  refine lv_aload_n hx hb dl_436 rfl (lv_at hl 1 rfl) ?_
  refine la_arg hx hb hX hbl hS (lv_at hl 0 rfl) (lv_at hl 3 rfl) 1 (by omega) hL (by decide) dl_437 dl_438 dl_439 dl_440 dl_441 ?_
  refine la_arg hx hb hX hbl hS (lv_at hl 0 rfl) (lv_at hl 3 rfl) 2 (by omega) hL (by decide) dl_442 dl_443 dl_444 dl_445 dl_446 ?_
  refine la_arg hx hb hX hbl hS (lv_at hl 0 rfl) (lv_at hl 3 rfl) 3 (by omega) hL (by decide) dl_447 dl_448 dl_449 dl_450 dl_451 ?_
  refine lw_c1 (τ := τ) (out := (cs_word σ (xs (i + 1)) (xs (i + 2)) (xs (i + 3)), σ)) (va_runV (As := [.int (xs (i + 1)), .int (xs (i + 2)), .int (xs (i + 3))]) (rest := []) ⟨hx, hb, hml, hown, hts⟩ (c_word l X hIx σ (xs (i + 1)) (xs (i + 2)) (xs (i + 3))) (cwV 3 hts (tb_V m_346 m_343 m_344 m_345 m_25) rfl rfl rfl (by decide +kernel) ⟨Nat.le_of_ble_eq_true rfl, Nat.le_of_ble_eq_true rfl⟩) (fw_preV (X := X) hKx hnb hWx (0, 0, 0) cv0 rfl rfl [.int (xs (i + 1)), .int (xs (i + 2)), .int (xs (i + 3))]) rfl rfl hl.1 rfl (lv_room (Nat.le_of_ble_eq_true rfl)) dl_452 ⟨Nat.le_of_ble_eq_true rfl, Nat.le_of_ble_eq_true rfl⟩) hI hWy hS (fun H locs hWx hWy hS => ?_)
  refine lv_aload_n hx hb dl_455 rfl (lv_at hl 2 rfl) ?_
  refine la_arg hx hb hX hbl hS (lv_at hl 0 rfl) (lv_at hl 3 rfl) 1 (by omega) hL (by decide) dl_456 dl_457 dl_458 dl_459 dl_460 ?_
  refine la_arg hx hb hX hbl hS (lv_at hl 0 rfl) (lv_at hl 3 rfl) 2 (by omega) hL (by decide) dl_461 dl_462 dl_463 dl_464 dl_465 ?_
  refine la_arg hx hb hX hbl hS (lv_at hl 0 rfl) (lv_at hl 3 rfl) 3 (by omega) hL (by decide) dl_466 dl_467 dl_468 dl_469 dl_470 ?_
  refine lw_c2 (out := (ms_word τ (xs (i + 1)) (xs (i + 2)) (xs (i + 3)), τ)) (va_runV (As := [.int (xs (i + 1)), .int (xs (i + 2)), .int (xs (i + 3))]) (rest := [.int (cs_word σ (xs (i + 1)) (xs (i + 2)) (xs (i + 3)), σ).1]) ⟨hx, hb, hml, hown, hts⟩ (cm_word l Y hIy τ (xs (i + 1)) (xs (i + 2)) (xs (i + 3))) (cwV 3 hts (tb_V m_543 m_540 m_541 m_542 m_31) rfl rfl rfl (by decide +kernel) ⟨Nat.le_of_ble_eq_true rfl, Nat.le_of_ble_eq_true rfl⟩) (fw_preV (X := Y) hKy hnb hWy (0, 0, 0) mv0 rfl rfl [.int (xs (i + 1)), .int (xs (i + 2)), .int (xs (i + 3))]) rfl rfl hl.1 rfl (lv_room (Nat.le_of_ble_eq_true rfl)) dl_471 ⟨Nat.le_of_ble_eq_true rfl, Nat.le_of_ble_eq_true rfl⟩) hI hWx hS (fun H locs hWx hWy hS => ?_)
  refine lv_icmp_eq (tgt := 634) hx hb dl_474 (by decide) (fun _ => ?_) (fun c1 => ?_)
  · exact kk _ _ _ _ (re_up h) hWx hWy hS
  · exact absurd (si_word h (xs (i + 1)) (xs (i + 2)) (xs (i + 3))) c1
set_option maxHeartbeats 4000000 in
set_option maxRecDepth 100000 in
theorem lc_card (hL : L ≤ 2048) (C0 : lw_At p s m meth c b L xs) (hI : lw_I X Y s) (h : re_all n σ τ) (hn : n + 1 ≤ 512) (hi : i + 4 ≤ L) (hWx : fw_W fw_cl csh cV X σ H) (hWy : fw_W fw_cl msh mV Y τ H) (hS : va_S (fun q => s.heap.size ≤ q) s.heap H locs) (hl : lv_has ls 4 [(0, .ref b), (1, .ref (X.2.2 (0, 0, 0))), (2, .ref (Y.2.2 (0, 0, 0))), (3, .int (nI i))])
    (kk : ∀ (σ1 τ1 : fw_S) (H1 : Heap) (locs1 : List Loc), re_all (n + 1) σ1 τ1 → fw_W fw_cl csh cV X σ1 H1 → fw_W fw_cl msh mV Y τ1 H1 → va_S (fun q => s.heap.size ≤ q) s.heap H1 locs1 → W p l e room_1 s m #[Value.ref b] below meth c H1 locs1 105 13082 (lw_Z below #[Value.ref b] s) (F0 m 634 ls [])) : W p l e room_1 s m #[Value.ref b] below meth c H locs 105 13082 (lw_Z below #[Value.ref b] s) (F0 m 479 ls []) := by
  obtain ⟨hx, hb, hr, hml, hown, hts0, hX, hbl, hlocks, hgv⟩ := C0
  obtain ⟨hIx, hIy, hKx, hKy, hnb, hAx, hAy, hXY, tb, hz, hT⟩ := id hI
  have hts := lw_ts hts0
  refine lv_aload_n hx hb dl_479 rfl (lv_at hl 1 rfl) ?_
  refine la_arg hx hb hX hbl hS (lv_at hl 0 rfl) (lv_at hl 3 rfl) 1 (by omega) hL (by decide) dl_480 dl_481 dl_482 dl_483 dl_484 ?_
  refine la_arg hx hb hX hbl hS (lv_at hl 0 rfl) (lv_at hl 3 rfl) 2 (by omega) hL (by decide) dl_485 dl_486 dl_487 dl_488 dl_489 ?_
  refine lw_c1 (τ := τ) (out := (cs_card σ (xs (i + 1)) (xs (i + 2)), σ)) (va_runV (As := [.int (xs (i + 1)), .int (xs (i + 2))]) (rest := []) ⟨hx, hb, hml, hown, hts⟩ (c_card l X hIx σ (xs (i + 1)) (xs (i + 2))) (cwV 2 hts (tb_V m_354 m_351 m_352 m_353 m_25) rfl rfl rfl (by decide +kernel) ⟨Nat.le_of_ble_eq_true rfl, Nat.le_of_ble_eq_true rfl⟩) (fw_preV (X := X) hKx hnb hWx (0, 0, 0) cv0 rfl rfl [.int (xs (i + 1)), .int (xs (i + 2))]) rfl rfl hl.1 rfl (lv_room (Nat.le_of_ble_eq_true rfl)) dl_490 ⟨Nat.le_of_ble_eq_true rfl, Nat.le_of_ble_eq_true rfl⟩) hI hWy hS (fun H locs hWx hWy hS => ?_)
  refine lv_aload_n hx hb dl_493 rfl (lv_at hl 2 rfl) ?_
  refine la_arg hx hb hX hbl hS (lv_at hl 0 rfl) (lv_at hl 3 rfl) 1 (by omega) hL (by decide) dl_494 dl_495 dl_496 dl_497 dl_498 ?_
  refine la_arg hx hb hX hbl hS (lv_at hl 0 rfl) (lv_at hl 3 rfl) 2 (by omega) hL (by decide) dl_499 dl_500 dl_501 dl_502 dl_503 ?_
  refine lw_c2 (out := (ms_card τ (xs (i + 1)) (xs (i + 2)), τ)) (va_runV (As := [.int (xs (i + 1)), .int (xs (i + 2))]) (rest := [.int (cs_card σ (xs (i + 1)) (xs (i + 2)), σ).1]) ⟨hx, hb, hml, hown, hts⟩ (cm_card l Y hIy τ (xs (i + 1)) (xs (i + 2))) (cwV 2 hts (tb_V m_547 m_544 m_545 m_546 m_31) rfl rfl rfl (by decide +kernel) ⟨Nat.le_of_ble_eq_true rfl, Nat.le_of_ble_eq_true rfl⟩) (fw_preV (X := Y) hKy hnb hWy (0, 0, 0) mv0 rfl rfl [.int (xs (i + 1)), .int (xs (i + 2))]) rfl rfl hl.1 rfl (lv_room (Nat.le_of_ble_eq_true rfl)) dl_504 ⟨Nat.le_of_ble_eq_true rfl, Nat.le_of_ble_eq_true rfl⟩) hI hWx hS (fun H locs hWx hWy hS => ?_)
  refine lv_icmp_eq (tgt := 634) hx hb dl_507 (by decide) (fun _ => ?_) (fun c1 => ?_)
  · exact kk _ _ _ _ (re_up h) hWx hWy hS
  · exact absurd (si_card h (xs (i + 1)) (xs (i + 2))) c1
set_option maxHeartbeats 4000000 in
set_option maxRecDepth 100000 in
theorem lc_logged (hL : L ≤ 2048) (C0 : lw_At p s m meth c b L xs) (hI : lw_I X Y s) (h : re_all n σ τ) (hn : n + 1 ≤ 512) (hi : i + 4 ≤ L) (hWx : fw_W fw_cl csh cV X σ H) (hWy : fw_W fw_cl msh mV Y τ H) (hS : va_S (fun q => s.heap.size ≤ q) s.heap H locs) (hl : lv_has ls 4 [(0, .ref b), (1, .ref (X.2.2 (0, 0, 0))), (2, .ref (Y.2.2 (0, 0, 0))), (3, .int (nI i))])
    (kk : ∀ (σ1 τ1 : fw_S) (H1 : Heap) (locs1 : List Loc), re_all (n + 1) σ1 τ1 → fw_W fw_cl csh cV X σ1 H1 → fw_W fw_cl msh mV Y τ1 H1 → va_S (fun q => s.heap.size ≤ q) s.heap H1 locs1 → W p l e room_1 s m #[Value.ref b] below meth c H1 locs1 105 13082 (lw_Z below #[Value.ref b] s) (F0 m 634 ls [])) : W p l e room_1 s m #[Value.ref b] below meth c H locs 105 13082 (lw_Z below #[Value.ref b] s) (F0 m 512 ls []) := by
  obtain ⟨hx, hb, hr, hml, hown, hts0, hX, hbl, hlocks, hgv⟩ := C0
  obtain ⟨hIx, hIy, hKx, hKy, hnb, hAx, hAy, hXY, tb, hz, hT⟩ := id hI
  have hts := lw_ts hts0
  refine lv_aload_n hx hb dl_512 rfl (lv_at hl 1 rfl) ?_
  refine la_arg hx hb hX hbl hS (lv_at hl 0 rfl) (lv_at hl 3 rfl) 1 (by omega) hL (by decide) dl_513 dl_514 dl_515 dl_516 dl_517 ?_
  refine la_arg hx hb hX hbl hS (lv_at hl 0 rfl) (lv_at hl 3 rfl) 2 (by omega) hL (by decide) dl_518 dl_519 dl_520 dl_521 dl_522 ?_
  refine la_arg hx hb hX hbl hS (lv_at hl 0 rfl) (lv_at hl 3 rfl) 3 (by omega) hL (by decide) dl_523 dl_524 dl_525 dl_526 dl_527 ?_
  refine lw_c1 (τ := τ) (out := (cs_logged σ (xs (i + 1)) (xs (i + 2)) (xs (i + 3)), σ)) (va_runV (As := [.int (xs (i + 1)), .int (xs (i + 2)), .int (xs (i + 3))]) (rest := []) ⟨hx, hb, hml, hown, hts⟩ (c_logged l X hIx σ (xs (i + 1)) (xs (i + 2)) (xs (i + 3)) (lx_8 h)) (cwV 3 hts (tb_V m_359 m_356 m_357 m_358 m_25) rfl rfl rfl (by decide +kernel) ⟨Nat.le_of_ble_eq_true rfl, Nat.le_of_ble_eq_true rfl⟩) (fw_preV (X := X) hKx hnb hWx (0, 0, 0) cv0 rfl rfl [.int (xs (i + 1)), .int (xs (i + 2)), .int (xs (i + 3))]) rfl rfl hl.1 rfl (lv_room (Nat.le_of_ble_eq_true rfl)) dl_528 ⟨Nat.le_of_ble_eq_true rfl, Nat.le_of_ble_eq_true rfl⟩) hI hWy hS (fun H locs hWx hWy hS => ?_)
  refine lv_aload_n hx hb dl_531 rfl (lv_at hl 2 rfl) ?_
  refine la_arg hx hb hX hbl hS (lv_at hl 0 rfl) (lv_at hl 3 rfl) 1 (by omega) hL (by decide) dl_532 dl_533 dl_534 dl_535 dl_536 ?_
  refine la_arg hx hb hX hbl hS (lv_at hl 0 rfl) (lv_at hl 3 rfl) 2 (by omega) hL (by decide) dl_537 dl_538 dl_539 dl_540 dl_541 ?_
  refine la_arg hx hb hX hbl hS (lv_at hl 0 rfl) (lv_at hl 3 rfl) 3 (by omega) hL (by decide) dl_542 dl_543 dl_544 dl_545 dl_546 ?_
  refine lw_c2 (out := (ms_logged τ (xs (i + 1)) (xs (i + 2)) (xs (i + 3)), τ)) (va_runV (As := [.int (xs (i + 1)), .int (xs (i + 2)), .int (xs (i + 3))]) (rest := [.int (cs_logged σ (xs (i + 1)) (xs (i + 2)) (xs (i + 3)), σ).1]) ⟨hx, hb, hml, hown, hts⟩ (cm_logged l Y hIy τ (xs (i + 1)) (xs (i + 2)) (xs (i + 3)) (lx_lg h)) (cwV 3 hts (tb_V m_551 m_548 m_549 m_550 m_31) rfl rfl rfl (by decide +kernel) ⟨Nat.le_of_ble_eq_true rfl, Nat.le_of_ble_eq_true rfl⟩) (fw_preV (X := Y) hKy hnb hWy (0, 0, 0) mv0 rfl rfl [.int (xs (i + 1)), .int (xs (i + 2)), .int (xs (i + 3))]) rfl rfl hl.1 rfl (lv_room (Nat.le_of_ble_eq_true rfl)) dl_547 ⟨Nat.le_of_ble_eq_true rfl, Nat.le_of_ble_eq_true rfl⟩) hI hWx hS (fun H locs hWx hWy hS => ?_)
  refine lv_icmp_eq (tgt := 634) hx hb dl_550 (by decide) (fun _ => ?_) (fun c1 => ?_)
  · exact kk _ _ _ _ (re_up h) hWx hWy hS
  · exact absurd (si_logged h (xs (i + 1)) (xs (i + 2)) (xs (i + 3))) c1
set_option maxHeartbeats 4000000 in
set_option maxRecDepth 100000 in
theorem lc_office (hL : L ≤ 2048) (C0 : lw_At p s m meth c b L xs) (hI : lw_I X Y s) (h : re_all n σ τ) (hn : n + 1 ≤ 512) (hi : i + 4 ≤ L) (hWx : fw_W fw_cl csh cV X σ H) (hWy : fw_W fw_cl msh mV Y τ H) (hS : va_S (fun q => s.heap.size ≤ q) s.heap H locs) (hl : lv_has ls 4 [(0, .ref b), (1, .ref (X.2.2 (0, 0, 0))), (2, .ref (Y.2.2 (0, 0, 0))), (3, .int (nI i))])
    (kk : ∀ (σ1 τ1 : fw_S) (H1 : Heap) (locs1 : List Loc), re_all (n + 1) σ1 τ1 → fw_W fw_cl csh cV X σ1 H1 → fw_W fw_cl msh mV Y τ1 H1 → va_S (fun q => s.heap.size ≤ q) s.heap H1 locs1 → W p l e room_1 s m #[Value.ref b] below meth c H1 locs1 105 13082 (lw_Z below #[Value.ref b] s) (F0 m 634 ls [])) : W p l e room_1 s m #[Value.ref b] below meth c H locs 105 13082 (lw_Z below #[Value.ref b] s) (F0 m 555 ls []) := by
  obtain ⟨hx, hb, hr, hml, hown, hts0, hX, hbl, hlocks, hgv⟩ := C0
  obtain ⟨hIx, hIy, hKx, hKy, hnb, hAx, hAy, hXY, tb, hz, hT⟩ := id hI
  have hts := lw_ts hts0
  refine lv_aload_n hx hb dl_555 rfl (lv_at hl 1 rfl) ?_
  refine la_arg hx hb hX hbl hS (lv_at hl 0 rfl) (lv_at hl 3 rfl) 1 (by omega) hL (by decide) dl_556 dl_557 dl_558 dl_559 dl_560 ?_
  refine la_arg hx hb hX hbl hS (lv_at hl 0 rfl) (lv_at hl 3 rfl) 2 (by omega) hL (by decide) dl_561 dl_562 dl_563 dl_564 dl_565 ?_
  refine lw_c1 (τ := τ) (out := (cs_office σ (xs (i + 1)) (xs (i + 2)), σ)) (va_runV (As := [.int (xs (i + 1)), .int (xs (i + 2))]) (rest := []) ⟨hx, hb, hml, hown, hts⟩ (c_office l X hIx σ (xs (i + 1)) (xs (i + 2))) (cwV 2 hts (tb_V m_363 m_360 m_361 m_362 m_25) rfl rfl rfl (by decide +kernel) ⟨Nat.le_of_ble_eq_true rfl, Nat.le_of_ble_eq_true rfl⟩) (fw_preV (X := X) hKx hnb hWx (0, 0, 0) cv0 rfl rfl [.int (xs (i + 1)), .int (xs (i + 2))]) rfl rfl hl.1 rfl (lv_room (Nat.le_of_ble_eq_true rfl)) dl_566 ⟨Nat.le_of_ble_eq_true rfl, Nat.le_of_ble_eq_true rfl⟩) hI hWy hS (fun H locs hWx hWy hS => ?_)
  refine lv_aload_n hx hb dl_569 rfl (lv_at hl 2 rfl) ?_
  refine la_arg hx hb hX hbl hS (lv_at hl 0 rfl) (lv_at hl 3 rfl) 1 (by omega) hL (by decide) dl_570 dl_571 dl_572 dl_573 dl_574 ?_
  refine la_arg hx hb hX hbl hS (lv_at hl 0 rfl) (lv_at hl 3 rfl) 2 (by omega) hL (by decide) dl_575 dl_576 dl_577 dl_578 dl_579 ?_
  refine lw_c2 (out := (ms_office τ (xs (i + 1)) (xs (i + 2)), τ)) (va_runV (As := [.int (xs (i + 1)), .int (xs (i + 2))]) (rest := [.int (cs_office σ (xs (i + 1)) (xs (i + 2)), σ).1]) ⟨hx, hb, hml, hown, hts⟩ (cm_office l Y hIy τ (xs (i + 1)) (xs (i + 2))) (cwV 2 hts (tb_V m_555 m_552 m_553 m_554 m_31) rfl rfl rfl (by decide +kernel) ⟨Nat.le_of_ble_eq_true rfl, Nat.le_of_ble_eq_true rfl⟩) (fw_preV (X := Y) hKy hnb hWy (0, 0, 0) mv0 rfl rfl [.int (xs (i + 1)), .int (xs (i + 2))]) rfl rfl hl.1 rfl (lv_room (Nat.le_of_ble_eq_true rfl)) dl_580 ⟨Nat.le_of_ble_eq_true rfl, Nat.le_of_ble_eq_true rfl⟩) hI hWx hS (fun H locs hWx hWy hS => ?_)
  refine lv_icmp_eq (tgt := 634) hx hb dl_583 (by decide) (fun _ => ?_) (fun c1 => ?_)
  · exact kk _ _ _ _ (re_up h) hWx hWy hS
  · exact absurd (si_office h (by omega) (xs (i + 1)) (xs (i + 2))) c1
set_option maxHeartbeats 4000000 in
set_option maxRecDepth 100000 in
theorem lc_income (hL : L ≤ 2048) (C0 : lw_At p s m meth c b L xs) (hI : lw_I X Y s) (h : re_all n σ τ) (hn : n + 1 ≤ 512) (hi : i + 4 ≤ L) (hWx : fw_W fw_cl csh cV X σ H) (hWy : fw_W fw_cl msh mV Y τ H) (hS : va_S (fun q => s.heap.size ≤ q) s.heap H locs) (hl : lv_has ls 4 [(0, .ref b), (1, .ref (X.2.2 (0, 0, 0))), (2, .ref (Y.2.2 (0, 0, 0))), (3, .int (nI i))])
    (kk : ∀ (σ1 τ1 : fw_S) (H1 : Heap) (locs1 : List Loc), re_all (n + 1) σ1 τ1 → fw_W fw_cl csh cV X σ1 H1 → fw_W fw_cl msh mV Y τ1 H1 → va_S (fun q => s.heap.size ≤ q) s.heap H1 locs1 → W p l e room_1 s m #[Value.ref b] below meth c H1 locs1 105 13082 (lw_Z below #[Value.ref b] s) (F0 m 634 ls [])) : W p l e room_1 s m #[Value.ref b] below meth c H locs 105 13082 (lw_Z below #[Value.ref b] s) (F0 m 588 ls []) := by
  obtain ⟨hx, hb, hr, hml, hown, hts0, hX, hbl, hlocks, hgv⟩ := C0
  obtain ⟨hIx, hIy, hKx, hKy, hnb, hAx, hAy, hXY, tb, hz, hT⟩ := id hI
  have hts := lw_ts hts0
  refine lv_aload_n hx hb dl_588 rfl (lv_at hl 1 rfl) ?_
  refine la_arg hx hb hX hbl hS (lv_at hl 0 rfl) (lv_at hl 3 rfl) 1 (by omega) hL (by decide) dl_589 dl_590 dl_591 dl_592 dl_593 ?_
  refine lw_c1 (τ := τ) (out := (cs_income σ (xs (i + 1)), σ)) (va_runV (As := [.int (xs (i + 1))]) (rest := []) ⟨hx, hb, hml, hown, hts⟩ (c_income l X hIx σ (xs (i + 1))) (cwV 1 hts (tb_V m_391 m_388 m_389 m_390 m_25) rfl rfl rfl (by decide +kernel) ⟨Nat.le_of_ble_eq_true rfl, Nat.le_of_ble_eq_true rfl⟩) (fw_preV (X := X) hKx hnb hWx (0, 0, 0) cv0 rfl rfl [.int (xs (i + 1))]) rfl rfl hl.1 rfl (lv_room (Nat.le_of_ble_eq_true rfl)) dl_594 ⟨Nat.le_of_ble_eq_true rfl, Nat.le_of_ble_eq_true rfl⟩) hI hWy hS (fun H locs hWx hWy hS => ?_)
  refine lv_aload_n hx hb dl_597 rfl (lv_at hl 2 rfl) ?_
  refine la_arg hx hb hX hbl hS (lv_at hl 0 rfl) (lv_at hl 3 rfl) 1 (by omega) hL (by decide) dl_598 dl_599 dl_600 dl_601 dl_602 ?_
  refine lw_c2 (out := (ms_income τ (xs (i + 1)), τ)) (va_runV (As := [.int (xs (i + 1))]) (rest := [.int (cs_income σ (xs (i + 1)), σ).1]) ⟨hx, hb, hml, hown, hts⟩ (cm_income l Y hIy τ (xs (i + 1))) (cwV 1 hts (tb_V m_575 m_572 m_573 m_574 m_31) rfl rfl rfl (by decide +kernel) ⟨Nat.le_of_ble_eq_true rfl, Nat.le_of_ble_eq_true rfl⟩) (fw_preV (X := Y) hKy hnb hWy (0, 0, 0) mv0 rfl rfl [.int (xs (i + 1))]) rfl rfl hl.1 rfl (lv_room (Nat.le_of_ble_eq_true rfl)) dl_603 ⟨Nat.le_of_ble_eq_true rfl, Nat.le_of_ble_eq_true rfl⟩) hI hWx hS (fun H locs hWx hWy hS => ?_)
  refine lv_icmp_eq (tgt := 634) hx hb dl_606 (by decide) (fun _ => ?_) (fun c1 => ?_)
  · exact kk _ _ _ _ (re_up h) hWx hWy hS
  · exact absurd (si_income h (xs (i + 1))) c1
set_option maxHeartbeats 4000000 in
set_option maxRecDepth 100000 in
theorem lc_count (hL : L ≤ 2048) (C0 : lw_At p s m meth c b L xs) (hI : lw_I X Y s) (h : re_all n σ τ) (hn : n + 1 ≤ 512) (hi : i + 4 ≤ L) (hWx : fw_W fw_cl csh cV X σ H) (hWy : fw_W fw_cl msh mV Y τ H) (hS : va_S (fun q => s.heap.size ≤ q) s.heap H locs) (hl : lv_has ls 4 [(0, .ref b), (1, .ref (X.2.2 (0, 0, 0))), (2, .ref (Y.2.2 (0, 0, 0))), (3, .int (nI i))])
    (kk : ∀ (σ1 τ1 : fw_S) (H1 : Heap) (locs1 : List Loc), re_all (n + 1) σ1 τ1 → fw_W fw_cl csh cV X σ1 H1 → fw_W fw_cl msh mV Y τ1 H1 → va_S (fun q => s.heap.size ≤ q) s.heap H1 locs1 → W p l e room_1 s m #[Value.ref b] below meth c H1 locs1 105 13082 (lw_Z below #[Value.ref b] s) (F0 m 634 ls [])) : W p l e room_1 s m #[Value.ref b] below meth c H locs 105 13082 (lw_Z below #[Value.ref b] s) (F0 m 611 ls []) := by
  obtain ⟨hx, hb, hr, hml, hown, hts0, hX, hbl, hlocks, hgv⟩ := C0
  obtain ⟨hIx, hIy, hKx, hKy, hnb, hAx, hAy, hXY, tb, hz, hT⟩ := id hI
  have hts := lw_ts hts0
  refine lv_aload_n hx hb dl_611 rfl (lv_at hl 1 rfl) ?_
  refine la_arg hx hb hX hbl hS (lv_at hl 0 rfl) (lv_at hl 3 rfl) 1 (by omega) hL (by decide) dl_612 dl_613 dl_614 dl_615 dl_616 ?_
  refine lw_c1 (τ := τ) (out := (cs_count σ (xs (i + 1)), σ)) (va_runV (As := [.int (xs (i + 1))]) (rest := []) ⟨hx, hb, hml, hown, hts⟩ (c_count l X hIx σ (xs (i + 1))) (cwV 1 hts (tb_V m_395 m_392 m_393 m_394 m_25) rfl rfl rfl (by decide +kernel) ⟨Nat.le_of_ble_eq_true rfl, Nat.le_of_ble_eq_true rfl⟩) (fw_preV (X := X) hKx hnb hWx (0, 0, 0) cv0 rfl rfl [.int (xs (i + 1))]) rfl rfl hl.1 rfl (lv_room (Nat.le_of_ble_eq_true rfl)) dl_617 ⟨Nat.le_of_ble_eq_true rfl, Nat.le_of_ble_eq_true rfl⟩) hI hWy hS (fun H locs hWx hWy hS => ?_)
  refine lv_aload_n hx hb dl_620 rfl (lv_at hl 2 rfl) ?_
  refine la_arg hx hb hX hbl hS (lv_at hl 0 rfl) (lv_at hl 3 rfl) 1 (by omega) hL (by decide) dl_621 dl_622 dl_623 dl_624 dl_625 ?_
  refine lw_c2 (out := (ms_count τ (xs (i + 1)), τ)) (va_runV (As := [.int (xs (i + 1))]) (rest := [.int (cs_count σ (xs (i + 1)), σ).1]) ⟨hx, hb, hml, hown, hts⟩ (cm_count l Y hIy τ (xs (i + 1))) (cwV 1 hts (tb_V m_579 m_576 m_577 m_578 m_31) rfl rfl rfl (by decide +kernel) ⟨Nat.le_of_ble_eq_true rfl, Nat.le_of_ble_eq_true rfl⟩) (fw_preV (X := Y) hKy hnb hWy (0, 0, 0) mv0 rfl rfl [.int (xs (i + 1))]) rfl rfl hl.1 rfl (lv_room (Nat.le_of_ble_eq_true rfl)) dl_626 ⟨Nat.le_of_ble_eq_true rfl, Nat.le_of_ble_eq_true rfl⟩) hI hWx hS (fun H locs hWx hWy hS => ?_)
  refine lv_icmp_eq (tgt := 634) hx hb dl_629 (by decide) (fun _ => ?_) (fun c1 => ?_)
  · exact kk _ _ _ _ (re_up h) hWx hWy hS
  · exact absurd (si_count h (xs (i + 1))) c1
end LAW
