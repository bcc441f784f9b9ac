/-! ===== the law, case by case, 2 ===== -/
section ZCA1
variable {G : zG} {p : Program} {e : Env} {s : State} {m : MethodId} {below : List Frame} {meth : Method} {c : Code} {b L i cells slots : Nat} {xs : Nat → Int32} {phC phR : Nat → Nat → Nat} {C R : zH} {H : Heap} {locs : List Loc} {la : Array Slot} {Q : State → Prop}
theorem lc_9 (X : LX G p s m meth c b L xs) (hw : WW G s.heap.size phC C phR R H) (hS : va_S (fun q => s.heap.size ≤ q) s.heap H locs) (I : Inv C R) (ha : lv_has la 4 [(0, .ref b), (1, .ref (phC 0 0)), (2, .ref (phR 40 0)), (3, .int (nI i))]) (hi : i + 7 ≤ L) (hL : L ≤ 3584) (hc : cells ≤ 10000) (hs : slots ≤ 2000000) (K : KO G p e s m below meth c b Q la (phC 0 0) (phR 40 0) cells slots) : W p G.1 e room_1 s m #[Value.ref b] below meth c H locs cells slots Q (F0 m 458 la []) := by
  have hx := X.1
  have hb := X.2.1
  have z0 : 0 < zN C 0 := (J_al I).2.2.2.1
  have z40 : 0 < zN R 40 := (J_al I).2.2.2.2
  refine lv_aload_n hx hb dl_458 rfl (lv_at ha 1 rfl) ?_
  refine lk_rd (k := 1) X hS ha hi hL (by decide) dl_459 dl_460 dl_461 dl_462 dl_463 ?_
  obtain ⟨r0, C1, R1, e1, e2, I1⟩ := t_sum I (xs (i + 1))
  refine lk_callV (n := 1) (q := 0) (i := 0) (D := 5) (kc' := 0) (ks' := 0) (As := [vI (xs (i + 1))]) (M' := M_X9_sum) (rest := []) X fok_C dl_464 mk_X9_sum ll_464 li_464 ls_464 pc_0 rfl (by simp [Value.category]) (by simp [zo]) z0 (c_X9_sum e1) (by decide) (by omega) (by omega) hw hS ha.1 (fun r S1 ph1 H1 locs1 hP _ hw1 hS1 hl1 hn1 => ?_)
  obtain ⟨rfl, rfl⟩ := hP
  show W p G.1 e room_1 s m #[Value.ref b] below meth c H1 locs1 _ _ Q (F0 m 467 la (.long r0 :: []))
  have q1 := hl1 0 0 z0
  clear hl1 hn1
  refine lv_aload_n hx hb dl_467 rfl (lv_at ha 2 rfl) ?_
  refine lk_rd (k := 1) X hS1 ha hi hL (by decide) dl_468 dl_469 dl_470 dl_471 dl_472 ?_
  refine lk_callV (n := 1) (q := 40) (i := 0) (D := 2) (kc' := 0) (ks' := 0) (As := [vI (xs (i + 1))]) (M' := M_X10_sum) (rest := [.long r0]) X fok_R dl_473 mk_X10_sum ll_473 li_473 ls_473 pc_40 rfl (by simp [Value.category]) (by simp [zo]) z40 (c_X10_sum e2) (by decide) (by omega) (by omega) hw1.symm hS1 ha.1 (fun r S1 ph1 H1 locs1 hP _ hw2 hS2 hl1 hn1 => ?_)
  obtain ⟨rfl, rfl⟩ := hP
  show W p G.1 e room_1 s m #[Value.ref b] below meth c H1 locs1 _ _ Q (F0 m 476 la (.long r0 :: [.long r0]))
  have q2 := hl1 40 0 z40
  clear hl1 hn1
  refine W.lcmp hx hb dl_476 ?_
  refine lv_if_eq (tgt := 1251) hx hb dl_477 (by decide) (fun _ => ?_) (fun h => absurd ((lc_eq _ _).mpr rfl) h)
  refine W.widen (k := cells + 10) (n := slots + 2000) (by omega) (by omega) ?_
  exact K _ _ _ _ _ _ hw2.symm hS2 (Inv_cut I1) q1 q2
theorem lc_10 (X : LX G p s m meth c b L xs) (hw : WW G s.heap.size phC C phR R H) (hS : va_S (fun q => s.heap.size ≤ q) s.heap H locs) (I : Inv C R) (ha : lv_has la 4 [(0, .ref b), (1, .ref (phC 0 0)), (2, .ref (phR 40 0)), (3, .int (nI i))]) (hi : i + 7 ≤ L) (hL : L ≤ 3584) (hc : cells ≤ 10000) (hs : slots ≤ 2000000) (K : KO G p e s m below meth c b Q la (phC 0 0) (phR 40 0) cells slots) : W p G.1 e room_1 s m #[Value.ref b] below meth c H locs cells slots Q (F0 m 482 la []) := by
  have hx := X.1
  have hb := X.2.1
  have z0 : 0 < zN C 0 := (J_al I).2.2.2.1
  have z40 : 0 < zN R 40 := (J_al I).2.2.2.2
  refine lv_aload_n hx hb dl_482 rfl (lv_at ha 1 rfl) ?_
  refine lk_rd (k := 1) X hS ha hi hL (by decide) dl_483 dl_484 dl_485 dl_486 dl_487 ?_
  refine lk_rd (k := 2) X hS ha hi hL (by decide) dl_488 dl_489 dl_490 dl_491 dl_492 ?_
  obtain ⟨r0, C1, R1, e1, e2, I1⟩ := t_was I (xs (i + 1)) (xs (i + 2))
  refine lk_callV (n := 2) (q := 0) (i := 0) (D := 5) (kc' := 0) (ks' := 0) (As := [vI (xs (i + 1)), vI (xs (i + 2))]) (M' := M_X9_was) (rest := []) X fok_C dl_493 mk_X9_was ll_493 li_493 ls_493 pc_0 rfl (by simp [Value.category]) (by simp [zo]) z0 (c_X9_was e1) (by decide) (by omega) (by omega) hw hS ha.1 (fun r S1 ph1 H1 locs1 hP _ hw1 hS1 hl1 hn1 => ?_)
  obtain ⟨rfl, rfl⟩ := hP
  show W p G.1 e room_1 s m #[Value.ref b] below meth c H1 locs1 _ _ Q (F0 m 496 la (.long r0 :: []))
  have q1 := hl1 0 0 z0
  clear hl1 hn1
  refine lv_aload_n hx hb dl_496 rfl (lv_at ha 2 rfl) ?_
  refine lk_rd (k := 1) X hS1 ha hi hL (by decide) dl_497 dl_498 dl_499 dl_500 dl_501 ?_
  refine lk_rd (k := 2) X hS1 ha hi hL (by decide) dl_502 dl_503 dl_504 dl_505 dl_506 ?_
  refine lk_callV (n := 2) (q := 40) (i := 0) (D := 2) (kc' := 0) (ks' := 0) (As := [vI (xs (i + 1)), vI (xs (i + 2))]) (M' := M_X10_was) (rest := [.long r0]) X fok_R dl_507 mk_X10_was ll_507 li_507 ls_507 pc_40 rfl (by simp [Value.category]) (by simp [zo]) z40 (c_X10_was e2) (by decide) (by omega) (by omega) hw1.symm hS1 ha.1 (fun r S1 ph1 H1 locs1 hP _ hw2 hS2 hl1 hn1 => ?_)
  obtain ⟨rfl, rfl⟩ := hP
  show W p G.1 e room_1 s m #[Value.ref b] below meth c H1 locs1 _ _ Q (F0 m 510 la (.long r0 :: [.long r0]))
  have q2 := hl1 40 0 z40
  clear hl1 hn1
  refine W.lcmp hx hb dl_510 ?_
  refine lv_if_eq (tgt := 1251) hx hb dl_511 (by decide) (fun _ => ?_) (fun h => absurd ((lc_eq _ _).mpr rfl) h)
  refine W.widen (k := cells + 10) (n := slots + 2000) (by omega) (by omega) ?_
  exact K _ _ _ _ _ _ hw2.symm hS2 (Inv_cut I1) q1 q2
theorem lc_11 (X : LX G p s m meth c b L xs) (hw : WW G s.heap.size phC C phR R H) (hS : va_S (fun q => s.heap.size ≤ q) s.heap H locs) (I : Inv C R) (ha : lv_has la 4 [(0, .ref b), (1, .ref (phC 0 0)), (2, .ref (phR 40 0)), (3, .int (nI i))]) (hi : i + 7 ≤ L) (hL : L ≤ 3584) (hc : cells ≤ 10000) (hs : slots ≤ 2000000) (K : KO G p e s m below meth c b Q la (phC 0 0) (phR 40 0) cells slots) : W p G.1 e room_1 s m #[Value.ref b] below meth c H locs cells slots Q (F0 m 516 la []) := by
  have hx := X.1
  have hb := X.2.1
  have z0 : 0 < zN C 0 := (J_al I).2.2.2.1
  have z40 : 0 < zN R 40 := (J_al I).2.2.2.2
  refine lv_aload_n hx hb dl_516 rfl (lv_at ha 1 rfl) ?_
  refine lk_rd (k := 1) X hS ha hi hL (by decide) dl_517 dl_518 dl_519 dl_520 dl_521 ?_
  refine lk_rd (k := 2) X hS ha hi hL (by decide) dl_522 dl_523 dl_524 dl_525 dl_526 ?_
  obtain ⟨r0, C1, R1, e1, e2, I1⟩ := t_accountOf I (xs (i + 1)) (xs (i + 2))
  refine lk_callV (n := 2) (q := 0) (i := 0) (D := 5) (kc' := 0) (ks' := 0) (As := [vI (xs (i + 1)), vI (xs (i + 2))]) (M' := M_X9_accountOf) (rest := []) X fok_C dl_527 mk_X9_accountOf ll_527 li_527 ls_527 pc_0 rfl (by simp [Value.category]) (by simp [zo]) z0 (c_X9_accountOf e1) (by decide) (by omega) (by omega) hw hS ha.1 (fun r S1 ph1 H1 locs1 hP _ hw1 hS1 hl1 hn1 => ?_)
  obtain ⟨rfl, rfl⟩ := hP
  show W p G.1 e room_1 s m #[Value.ref b] below meth c H1 locs1 _ _ Q (F0 m 530 la (.int r0 :: []))
  have q1 := hl1 0 0 z0
  clear hl1 hn1
  refine lv_aload_n hx hb dl_530 rfl (lv_at ha 2 rfl) ?_
  refine lk_rd (k := 1) X hS1 ha hi hL (by decide) dl_531 dl_532 dl_533 dl_534 dl_535 ?_
  refine lk_rd (k := 2) X hS1 ha hi hL (by decide) dl_536 dl_537 dl_538 dl_539 dl_540 ?_
  refine lk_callV (n := 2) (q := 40) (i := 0) (D := 2) (kc' := 0) (ks' := 0) (As := [vI (xs (i + 1)), vI (xs (i + 2))]) (M' := M_X10_accountOf) (rest := [.int r0]) X fok_R dl_541 mk_X10_accountOf ll_541 li_541 ls_541 pc_40 rfl (by simp [Value.category]) (by simp [zo]) z40 (c_X10_accountOf e2) (by decide) (by omega) (by omega) hw1.symm hS1 ha.1 (fun r S1 ph1 H1 locs1 hP _ hw2 hS2 hl1 hn1 => ?_)
  obtain ⟨rfl, rfl⟩ := hP
  show W p G.1 e room_1 s m #[Value.ref b] below meth c H1 locs1 _ _ Q (F0 m 544 la (.int r0 :: [.int r0]))
  have q2 := hl1 40 0 z40
  clear hl1 hn1
  refine lv_icmp_eq (tgt := 1251) hx hb dl_544 (by decide) (fun _ => ?_) (fun h => absurd rfl h)
  refine W.widen (k := cells + 10) (n := slots + 2000) (by omega) (by omega) ?_
  exact K _ _ _ _ _ _ hw2.symm hS2 (Inv_cut I1) q1 q2
theorem lc_12 (X : LX G p s m meth c b L xs) (hw : WW G s.heap.size phC C phR R H) (hS : va_S (fun q => s.heap.size ≤ q) s.heap H locs) (I : Inv C R) (ha : lv_has la 4 [(0, .ref b), (1, .ref (phC 0 0)), (2, .ref (phR 40 0)), (3, .int (nI i))]) (hi : i + 7 ≤ L) (hL : L ≤ 3584) (hc : cells ≤ 10000) (hs : slots ≤ 2000000) (K : KO G p e s m below meth c b Q la (phC 0 0) (phR 40 0) cells slots) : W p G.1 e room_1 s m #[Value.ref b] below meth c H locs cells slots Q (F0 m 549 la []) := by
  have hx := X.1
  have hb := X.2.1
  have z0 : 0 < zN C 0 := (J_al I).2.2.2.1
  have z40 : 0 < zN R 40 := (J_al I).2.2.2.2
  refine lv_aload_n hx hb dl_549 rfl (lv_at ha 1 rfl) ?_
  refine lk_rd (k := 1) X hS ha hi hL (by decide) dl_550 dl_551 dl_552 dl_553 dl_554 ?_
  refine lk_rd (k := 2) X hS ha hi hL (by decide) dl_555 dl_556 dl_557 dl_558 dl_559 ?_
  obtain ⟨r0, C1, R1, e1, e2, I1⟩ := t_sends I (xs (i + 1)) (xs (i + 2))
  refine lk_callV (n := 2) (q := 0) (i := 0) (D := 6) (kc' := 0) (ks' := 0) (As := [vI (xs (i + 1)), vI (xs (i + 2))]) (M' := M_X9_sends) (rest := []) X fok_C dl_560 mk_X9_sends ll_560 li_560 ls_560 pc_0 rfl (by simp [Value.category]) (by simp [zo]) z0 (c_X9_sends e1) (by decide) (by omega) (by omega) hw hS ha.1 (fun r S1 ph1 H1 locs1 hP _ hw1 hS1 hl1 hn1 => ?_)
  obtain ⟨rfl, rfl⟩ := hP
  show W p G.1 e room_1 s m #[Value.ref b] below meth c H1 locs1 _ _ Q (F0 m 563 la (.int r0 :: []))
  have q1 := hl1 0 0 z0
  clear hl1 hn1
  refine lv_aload_n hx hb dl_563 rfl (lv_at ha 2 rfl) ?_
  refine lk_rd (k := 1) X hS1 ha hi hL (by decide) dl_564 dl_565 dl_566 dl_567 dl_568 ?_
  refine lk_rd (k := 2) X hS1 ha hi hL (by decide) dl_569 dl_570 dl_571 dl_572 dl_573 ?_
  refine lk_callV (n := 2) (q := 40) (i := 0) (D := 64) (kc' := 0) (ks' := 0) (As := [vI (xs (i + 1)), vI (xs (i + 2))]) (M' := M_X10_sends) (rest := [.int r0]) X fok_R dl_574 mk_X10_sends ll_574 li_574 ls_574 pc_40 rfl (by simp [Value.category]) (by simp [zo]) z40 (c_X10_sends e2) (by decide) (by omega) (by omega) hw1.symm hS1 ha.1 (fun r S1 ph1 H1 locs1 hP _ hw2 hS2 hl1 hn1 => ?_)
  obtain ⟨rfl, rfl⟩ := hP
  show W p G.1 e room_1 s m #[Value.ref b] below meth c H1 locs1 _ _ Q (F0 m 577 la (.int r0 :: [.int r0]))
  have q2 := hl1 40 0 z40
  clear hl1 hn1
  refine lv_icmp_eq (tgt := 1251) hx hb dl_577 (by decide) (fun _ => ?_) (fun h => absurd rfl h)
  refine W.widen (k := cells + 10) (n := slots + 2000) (by omega) (by omega) ?_
  exact K _ _ _ _ _ _ hw2.symm hS2 (Inv_cut I1) q1 q2
theorem lc_13 (X : LX G p s m meth c b L xs) (hw : WW G s.heap.size phC C phR R H) (hS : va_S (fun q => s.heap.size ≤ q) s.heap H locs) (I : Inv C R) (ha : lv_has la 4 [(0, .ref b), (1, .ref (phC 0 0)), (2, .ref (phR 40 0)), (3, .int (nI i))]) (hi : i + 7 ≤ L) (hL : L ≤ 3584) (hc : cells ≤ 10000) (hs : slots ≤ 2000000) (K : KO G p e s m below meth c b Q la (phC 0 0) (phR 40 0) cells slots) : W p G.1 e room_1 s m #[Value.ref b] below meth c H locs cells slots Q (F0 m 582 la []) := by
  have hx := X.1
  have hb := X.2.1
  have z0 : 0 < zN C 0 := (J_al I).2.2.2.1
  have z40 : 0 < zN R 40 := (J_al I).2.2.2.2
  refine lv_aload_n hx hb dl_582 rfl (lv_at ha 1 rfl) ?_
  refine lk_rd (k := 1) X hS ha hi hL (by decide) dl_583 dl_584 dl_585 dl_586 dl_587 ?_
  refine lk_rd (k := 2) X hS ha hi hL (by decide) dl_588 dl_589 dl_590 dl_591 dl_592 ?_
  refine lv_i2l hx hb dl_593 rfl ?_
  refine lv_bipush (v := 32) hx hb dl_594 (by decide) ?_
  refine lv_lshl hx hb dl_596 rfl ?_
  refine lk_rd (k := 3) X hS ha hi hL (by decide) dl_597 dl_598 dl_599 dl_600 dl_601 ?_
  refine lv_i2l hx hb dl_602 rfl ?_
  refine lv_ldc2 (v := 4294967295) hx hb X.2.2.2.2.1 (X.2.2.2.2.2.1 _ w2_law) dl_603 ?_
  refine lv_land hx hb dl_606 ?_
  refine lv_lor hx hb dl_607 ?_
  obtain ⟨r0, C1, R1, e1, e2, I1⟩ := t_feed I (xs (i + 1)) ((((xs (i + 2)).toInt64 <<< ((32 : Int32).toInt64 &&& 63)) ||| ((xs (i + 3)).toInt64 &&& (4294967295 : Int64))))
  refine lk_callV (n := 2) (q := 0) (i := 0) (D := 1) (kc' := 0) (ks' := 0) (As := [vI (xs (i + 1)), vJ ((((xs (i + 2)).toInt64 <<< ((32 : Int32).toInt64 &&& 63)) ||| ((xs (i + 3)).toInt64 &&& (4294967295 : Int64))))]) (M' := M_X9_feed) (rest := []) X fok_C dl_608 mk_X9_feed ll_608 li_608 ls_608 pc_0 rfl (by simp [Value.category]) (by simp [zo]) z0 (c_X9_feed e1) (by decide) (by omega) (by omega) hw hS ha.1 (fun r S1 ph1 H1 locs1 hP _ hw1 hS1 hl1 hn1 => ?_)
  obtain ⟨rfl, rfl⟩ := hP
  show W p G.1 e room_1 s m #[Value.ref b] below meth c H1 locs1 _ _ Q (F0 m 611 la (.int r0 :: []))
  have q1 := hl1 0 0 z0
  clear hl1 hn1
  refine lv_aload_n hx hb dl_611 rfl (lv_at ha 2 rfl) ?_
  refine lk_rd (k := 1) X hS1 ha hi hL (by decide) dl_612 dl_613 dl_614 dl_615 dl_616 ?_
  refine lk_rd (k := 2) X hS1 ha hi hL (by decide) dl_617 dl_618 dl_619 dl_620 dl_621 ?_
  refine lv_i2l hx hb dl_622 rfl ?_
  refine lv_bipush (v := 32) hx hb dl_623 (by decide) ?_
  refine lv_lshl hx hb dl_625 rfl ?_
  refine lk_rd (k := 3) X hS1 ha hi hL (by decide) dl_626 dl_627 dl_628 dl_629 dl_630 ?_
  refine lv_i2l hx hb dl_631 rfl ?_
  refine lv_ldc2 (v := 4294967295) hx hb X.2.2.2.2.1 (X.2.2.2.2.2.1 _ w2_law) dl_632 ?_
  refine lv_land hx hb dl_635 ?_
  refine lv_lor hx hb dl_636 ?_
  refine lk_callV (n := 2) (q := 40) (i := 0) (D := 1) (kc' := 0) (ks' := 0) (As := [vI (xs (i + 1)), vJ ((((xs (i + 2)).toInt64 <<< ((32 : Int32).toInt64 &&& 63)) ||| ((xs (i + 3)).toInt64 &&& (4294967295 : Int64))))]) (M' := M_X10_feed) (rest := [.int r0]) X fok_R dl_637 mk_X10_feed ll_637 li_637 ls_637 pc_40 rfl (by simp [Value.category]) (by simp [zo]) z40 (c_X10_feed e2) (by decide) (by omega) (by omega) hw1.symm hS1 ha.1 (fun r S1 ph1 H1 locs1 hP _ hw2 hS2 hl1 hn1 => ?_)
  obtain ⟨rfl, rfl⟩ := hP
  show W p G.1 e room_1 s m #[Value.ref b] below meth c H1 locs1 _ _ Q (F0 m 640 la (.int r0 :: [.int r0]))
  have q2 := hl1 40 0 z40
  clear hl1 hn1
  refine lv_icmp_eq (tgt := 1251) hx hb dl_640 (by decide) (fun _ => ?_) (fun h => absurd rfl h)
  refine W.widen (k := cells + 10) (n := slots + 2000) (by omega) (by omega) ?_
  exact K _ _ _ _ _ _ hw2.symm hS2 (Inv_cut I1) q1 q2
theorem lc_14 (X : LX G p s m meth c b L xs) (hw : WW G s.heap.size phC C phR R H) (hS : va_S (fun q => s.heap.size ≤ q) s.heap H locs) (I : Inv C R) (ha : lv_has la 4 [(0, .ref b), (1, .ref (phC 0 0)), (2, .ref (phR 40 0)), (3, .int (nI i))]) (hi : i + 7 ≤ L) (hL : L ≤ 3584) (hc : cells ≤ 10000) (hs : slots ≤ 2000000) (K : KO G p e s m below meth c b Q la (phC 0 0) (phR 40 0) cells slots) : W p G.1 e room_1 s m #[Value.ref b] below meth c H locs cells slots Q (F0 m 645 la []) := by
  have hx := X.1
  have hb := X.2.1
  have z0 : 0 < zN C 0 := (J_al I).2.2.2.1
  have z40 : 0 < zN R 40 := (J_al I).2.2.2.2
  refine lv_aload_n hx hb dl_645 rfl (lv_at ha 1 rfl) ?_
  refine lk_rd (k := 1) X hS ha hi hL (by decide) dl_646 dl_647 dl_648 dl_649 dl_650 ?_
  refine lk_rd (k := 2) X hS ha hi hL (by decide) dl_651 dl_652 dl_653 dl_654 dl_655 ?_
  obtain ⟨r0, C1, R1, e1, e2, I1⟩ := t_rule I (xs (i + 1)) (xs (i + 2))
  refine lk_callV (n := 2) (q := 0) (i := 0) (D := 62) (kc' := 3) (ks' := 143) (As := [vI (xs (i + 1)), vI (xs (i + 2))]) (M' := M_X9_rule) (rest := []) X fok_C dl_656 mk_X9_rule ll_656 li_656 ls_656 pc_0 rfl (by simp [Value.category]) (by simp [zo]) z0 (c_X9_rule e1) (by decide) (by omega) (by omega) hw hS ha.1 (fun r S1 ph1 H1 locs1 hP _ hw1 hS1 hl1 hn1 => ?_)
  obtain ⟨rfl, rfl⟩ := hP
  show W p G.1 e room_1 s m #[Value.ref b] below meth c H1 locs1 _ _ Q (F0 m 659 la (.int r0 :: []))
  have q1 := hl1 0 0 z0
  clear hl1 hn1
  refine lv_aload_n hx hb dl_659 rfl (lv_at ha 2 rfl) ?_
  refine lk_rd (k := 1) X hS1 ha hi hL (by decide) dl_660 dl_661 dl_662 dl_663 dl_664 ?_
  refine lk_rd (k := 2) X hS1 ha hi hL (by decide) dl_665 dl_666 dl_667 dl_668 dl_669 ?_
  refine lk_callV (n := 2) (q := 40) (i := 0) (D := 62) (kc' := 0) (ks' := 0) (As := [vI (xs (i + 1)), vI (xs (i + 2))]) (M' := M_X10_rule) (rest := [.int r0]) X fok_R dl_670 mk_X10_rule ll_670 li_670 ls_670 pc_40 rfl (by simp [Value.category]) (by simp [zo]) z40 (c_X10_rule e2) (by decide) (by omega) (by omega) hw1.symm hS1 ha.1 (fun r S1 ph1 H1 locs1 hP _ hw2 hS2 hl1 hn1 => ?_)
  obtain ⟨rfl, rfl⟩ := hP
  show W p G.1 e room_1 s m #[Value.ref b] below meth c H1 locs1 _ _ Q (F0 m 673 la (.int r0 :: [.int r0]))
  have q2 := hl1 40 0 z40
  clear hl1 hn1
  refine lv_icmp_eq (tgt := 1251) hx hb dl_673 (by decide) (fun _ => ?_) (fun h => absurd rfl h)
  refine W.widen (k := cells + 10) (n := slots + 2000) (by omega) (by omega) ?_
  exact K _ _ _ _ _ _ hw2.symm hS2 (Inv_cut I1) q1 q2
theorem lc_15 (X : LX G p s m meth c b L xs) (hw : WW G s.heap.size phC C phR R H) (hS : va_S (fun q => s.heap.size ≤ q) s.heap H locs) (I : Inv C R) (ha : lv_has la 4 [(0, .ref b), (1, .ref (phC 0 0)), (2, .ref (phR 40 0)), (3, .int (nI i))]) (hi : i + 7 ≤ L) (hL : L ≤ 3584) (hc : cells ≤ 10000) (hs : slots ≤ 2000000) (K : KO G p e s m below meth c b Q la (phC 0 0) (phR 40 0) cells slots) : W p G.1 e room_1 s m #[Value.ref b] below meth c H locs cells slots Q (F0 m 678 la []) := by
  have hx := X.1
  have hb := X.2.1
  have z0 : 0 < zN C 0 := (J_al I).2.2.2.1
  have z40 : 0 < zN R 40 := (J_al I).2.2.2.2
  refine lv_aload_n hx hb dl_678 rfl (lv_at ha 1 rfl) ?_
  refine lk_rd (k := 1) X hS ha hi hL (by decide) dl_679 dl_680 dl_681 dl_682 dl_683 ?_
  refine lk_rd (k := 2) X hS ha hi hL (by decide) dl_684 dl_685 dl_686 dl_687 dl_688 ?_
  refine lk_rd (k := 3) X hS ha hi hL (by decide) dl_689 dl_690 dl_691 dl_692 dl_693 ?_
  refine lk_rd (k := 4) X hS ha hi hL (by decide) dl_694 dl_695 dl_696 dl_697 dl_698 ?_
  refine lk_rd (k := 5) X hS ha hi hL (by decide) dl_699 dl_700 dl_701 dl_702 dl_703 ?_
  refine lk_rdb (k := 6) X hS ha hi hL (by decide) dl_704 dl_705 dl_706 dl_708 dl_709 ?_
  obtain ⟨r0, C1, R1, e1, e2, I1⟩ := t_line I (xs (i + 1)) (xs (i + 2)) (xs (i + 3)) (xs (i + 4)) (xs (i + 5)) (xs (i + 6))
  refine lk_callV (n := 6) (q := 0) (i := 0) (D := 10) (kc' := 3) (ks' := 96) (As := [vI (xs (i + 1)), vI (xs (i + 2)), vI (xs (i + 3)), vI (xs (i + 4)), vI (xs (i + 5)), vI (xs (i + 6))]) (M' := M_X9_line) (rest := []) X fok_C dl_710 mk_X9_line ll_710 li_710 ls_710 pc_0 rfl (by simp [Value.category]) (by simp [zo]) z0 (c_X9_line e1) (by decide) (by omega) (by omega) hw hS ha.1 (fun r S1 ph1 H1 locs1 hP _ hw1 hS1 hl1 hn1 => ?_)
  obtain ⟨rfl, rfl⟩ := hP
  show W p G.1 e room_1 s m #[Value.ref b] below meth c H1 locs1 _ _ Q (F0 m 713 la (.int r0 :: []))
  have q1 := hl1 0 0 z0
  clear hl1 hn1
  refine lv_aload_n hx hb dl_713 rfl (lv_at ha 2 rfl) ?_
  refine lk_rd (k := 1) X hS1 ha hi hL (by decide) dl_714 dl_715 dl_716 dl_717 dl_718 ?_
  refine lk_rd (k := 2) X hS1 ha hi hL (by decide) dl_719 dl_720 dl_721 dl_722 dl_723 ?_
  refine lk_rd (k := 3) X hS1 ha hi hL (by decide) dl_724 dl_725 dl_726 dl_727 dl_728 ?_
  refine lk_rd (k := 4) X hS1 ha hi hL (by decide) dl_729 dl_730 dl_731 dl_732 dl_733 ?_
  refine lk_rd (k := 5) X hS1 ha hi hL (by decide) dl_734 dl_735 dl_736 dl_737 dl_738 ?_
  refine lk_rdb (k := 6) X hS1 ha hi hL (by decide) dl_739 dl_740 dl_741 dl_743 dl_744 ?_
  refine lk_callV (n := 6) (q := 40) (i := 0) (D := 2) (kc' := 0) (ks' := 0) (As := [vI (xs (i + 1)), vI (xs (i + 2)), vI (xs (i + 3)), vI (xs (i + 4)), vI (xs (i + 5)), vI (xs (i + 6))]) (M' := M_X10_line) (rest := [.int r0]) X fok_R dl_745 mk_X10_line ll_745 li_745 ls_745 pc_40 rfl (by simp [Value.category]) (by simp [zo]) z40 (c_X10_line e2) (by decide) (by omega) (by omega) hw1.symm hS1 ha.1 (fun r S1 ph1 H1 locs1 hP _ hw2 hS2 hl1 hn1 => ?_)
  obtain ⟨rfl, rfl⟩ := hP
  show W p G.1 e room_1 s m #[Value.ref b] below meth c H1 locs1 _ _ Q (F0 m 748 la (.int r0 :: [.int r0]))
  have q2 := hl1 40 0 z40
  clear hl1 hn1
  refine lv_icmp_eq (tgt := 1251) hx hb dl_748 (by decide) (fun _ => ?_) (fun h => absurd rfl h)
  refine W.widen (k := cells + 10) (n := slots + 2000) (by omega) (by omega) ?_
  exact K _ _ _ _ _ _ hw2.symm hS2 (Inv_cut I1) q1 q2
theorem lc_16 (X : LX G p s m meth c b L xs) (hw : WW G s.heap.size phC C phR R H) (hS : va_S (fun q => s.heap.size ≤ q) s.heap H locs) (I : Inv C R) (ha : lv_has la 4 [(0, .ref b), (1, .ref (phC 0 0)), (2, .ref (phR 40 0)), (3, .int (nI i))]) (hi : i + 7 ≤ L) (hL : L ≤ 3584) (hc : cells ≤ 10000) (hs : slots ≤ 2000000) (K : KO G p e s m below meth c b Q la (phC 0 0) (phR 40 0) cells slots) : W p G.1 e room_1 s m #[Value.ref b] below meth c H locs cells slots Q (F0 m 753 la []) := by
  have hx := X.1
  have hb := X.2.1
  have z0 : 0 < zN C 0 := (J_al I).2.2.2.1
  have z40 : 0 < zN R 40 := (J_al I).2.2.2.2
  refine lv_aload_n hx hb dl_753 rfl (lv_at ha 1 rfl) ?_
  refine lk_rd (k := 1) X hS ha hi hL (by decide) dl_754 dl_755 dl_756 dl_757 dl_758 ?_
  obtain ⟨r0, C1, R1, e1, e2, I1⟩ := t_end I (xs (i + 1))
  refine lk_callV (n := 1) (q := 0) (i := 0) (D := 5) (kc' := 0) (ks' := 0) (As := [vI (xs (i + 1))]) (M' := M_X9_end) (rest := []) X fok_C dl_759 mk_X9_end ll_759 li_759 ls_759 pc_0 rfl (by simp [Value.category]) (by simp [zo]) z0 (c_X9_end e1) (by decide) (by omega) (by omega) hw hS ha.1 (fun r S1 ph1 H1 locs1 hP _ hw1 hS1 hl1 hn1 => ?_)
  obtain ⟨rfl, rfl⟩ := hP
  show W p G.1 e room_1 s m #[Value.ref b] below meth c H1 locs1 _ _ Q (F0 m 762 la (.int r0 :: []))
  have q1 := hl1 0 0 z0
  clear hl1 hn1
  refine lv_aload_n hx hb dl_762 rfl (lv_at ha 2 rfl) ?_
  refine lk_rd (k := 1) X hS1 ha hi hL (by decide) dl_763 dl_764 dl_765 dl_766 dl_767 ?_
  refine lk_callV (n := 1) (q := 40) (i := 0) (D := 2) (kc' := 0) (ks' := 0) (As := [vI (xs (i + 1))]) (M' := M_X10_end) (rest := [.int r0]) X fok_R dl_768 mk_X10_end ll_768 li_768 ls_768 pc_40 rfl (by simp [Value.category]) (by simp [zo]) z40 (c_X10_end e2) (by decide) (by omega) (by omega) hw1.symm hS1 ha.1 (fun r S1 ph1 H1 locs1 hP _ hw2 hS2 hl1 hn1 => ?_)
  obtain ⟨rfl, rfl⟩ := hP
  show W p G.1 e room_1 s m #[Value.ref b] below meth c H1 locs1 _ _ Q (F0 m 771 la (.int r0 :: [.int r0]))
  have q2 := hl1 40 0 z40
  clear hl1 hn1
  refine lv_icmp_eq (tgt := 1251) hx hb dl_771 (by decide) (fun _ => ?_) (fun h => absurd rfl h)
  refine W.widen (k := cells + 10) (n := slots + 2000) (by omega) (by omega) ?_
  exact K _ _ _ _ _ _ hw2.symm hS2 (Inv_cut I1) q1 q2
theorem lc_17 (X : LX G p s m meth c b L xs) (hw : WW G s.heap.size phC C phR R H) (hS : va_S (fun q => s.heap.size ≤ q) s.heap H locs) (I : Inv C R) (ha : lv_has la 4 [(0, .ref b), (1, .ref (phC 0 0)), (2, .ref (phR 40 0)), (3, .int (nI i))]) (hi : i + 7 ≤ L) (hL : L ≤ 3584) (hc : cells ≤ 10000) (hs : slots ≤ 2000000) (K : KO G p e s m below meth c b Q la (phC 0 0) (phR 40 0) cells slots) : W p G.1 e room_1 s m #[Value.ref b] below meth c H locs cells slots Q (F0 m 776 la []) := by
  have hx := X.1
  have hb := X.2.1
  have z0 : 0 < zN C 0 := (J_al I).2.2.2.1
  have z40 : 0 < zN R 40 := (J_al I).2.2.2.2
  refine lv_aload_n hx hb dl_776 rfl (lv_at ha 1 rfl) ?_
  refine lk_rd (k := 1) X hS ha hi hL (by decide) dl_777 dl_778 dl_779 dl_780 dl_781 ?_
  refine lk_rd (k := 2) X hS ha hi hL (by decide) dl_782 dl_783 dl_784 dl_785 dl_786 ?_
  obtain ⟨r0, C1, R1, e1, e2, I1⟩ := t_lineOf I (xs (i + 1)) (xs (i + 2))
  refine lk_callV (n := 2) (q := 0) (i := 0) (D := 5) (kc' := 0) (ks' := 0) (As := [vI (xs (i + 1)), vI (xs (i + 2))]) (M' := M_X9_lineOf) (rest := []) X fok_C dl_787 mk_X9_lineOf ll_787 li_787 ls_787 pc_0 rfl (by simp [Value.category]) (by simp [zo]) z0 (c_X9_lineOf e1) (by decide) (by omega) (by omega) hw hS ha.1 (fun r S1 ph1 H1 locs1 hP _ hw1 hS1 hl1 hn1 => ?_)
  obtain ⟨rfl, rfl⟩ := hP
  show W p G.1 e room_1 s m #[Value.ref b] below meth c H1 locs1 _ _ Q (F0 m 790 la (.int r0 :: []))
  have q1 := hl1 0 0 z0
  clear hl1 hn1
  refine lv_aload_n hx hb dl_790 rfl (lv_at ha 2 rfl) ?_
  refine lk_rd (k := 1) X hS1 ha hi hL (by decide) dl_791 dl_792 dl_793 dl_794 dl_795 ?_
  refine lk_rd (k := 2) X hS1 ha hi hL (by decide) dl_796 dl_797 dl_798 dl_799 dl_800 ?_
  refine lk_callV (n := 2) (q := 40) (i := 0) (D := 2) (kc' := 0) (ks' := 0) (As := [vI (xs (i + 1)), vI (xs (i + 2))]) (M' := M_X10_lineOf) (rest := [.int r0]) X fok_R dl_801 mk_X10_lineOf ll_801 li_801 ls_801 pc_40 rfl (by simp [Value.category]) (by simp [zo]) z40 (c_X10_lineOf e2) (by decide) (by omega) (by omega) hw1.symm hS1 ha.1 (fun r S1 ph1 H1 locs1 hP _ hw2 hS2 hl1 hn1 => ?_)
  obtain ⟨rfl, rfl⟩ := hP
  show W p G.1 e room_1 s m #[Value.ref b] below meth c H1 locs1 _ _ Q (F0 m 804 la (.int r0 :: [.int r0]))
  have q2 := hl1 40 0 z40
  clear hl1 hn1
  refine lv_icmp_eq (tgt := 1251) hx hb dl_804 (by decide) (fun _ => ?_) (fun h => absurd rfl h)
  refine W.widen (k := cells + 10) (n := slots + 2000) (by omega) (by omega) ?_
  exact K _ _ _ _ _ _ hw2.symm hS2 (Inv_cut I1) q1 q2
end ZCA1
