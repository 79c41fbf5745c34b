theorem dL_law_400 : decode cL_law 400 = .ok (.aload_n 1, 1) := by decide +kernel
theorem dL_law_401 : decode cL_law 401 = .ok (.aload_n 0, 1) := by decide +kernel
theorem dL_law_402 : decode cL_law 402 = .ok (.iload 5, 2) := by decide +kernel
theorem dL_law_404 : decode cL_law 404 = .ok (.iconst 1, 1) := by decide +kernel
theorem dL_law_405 : decode cL_law 405 = .ok (.iadd, 1) := by decide +kernel
theorem dL_law_406 : decode cL_law 406 = .ok (.iaload, 1) := by decide +kernel
theorem dL_law_407 : decode cL_law 407 = .ok (.aload_n 0, 1) := by decide +kernel
theorem dL_law_408 : decode cL_law 408 = .ok (.iload 5, 2) := by decide +kernel
theorem dL_law_410 : decode cL_law 410 = .ok (.iconst 2, 1) := by decide +kernel
theorem dL_law_411 : decode cL_law 411 = .ok (.iadd, 1) := by decide +kernel
theorem dL_law_412 : decode cL_law 412 = .ok (.iaload, 1) := by decide +kernel
theorem dL_law_413 : decode cL_law 413 = .ok (.ifCond .eq 7, 3) := by decide +kernel
theorem dL_law_416 : decode cL_law 416 = .ok (.iconst 1, 1) := by decide +kernel
theorem dL_law_417 : decode cL_law 417 = .ok (.goto 4, 3) := by decide +kernel
theorem dL_law_420 : decode cL_law 420 = .ok (.iconst 0, 1) := by decide +kernel
theorem dL_law_421 : decode cL_law 421 = .ok (.aload_n 3, 1) := by decide +kernel
theorem dL_law_422 : decode cL_law 422 = .ok (.invokestatic 136, 3) := by decide +kernel
theorem dL_law_425 : decode cL_law 425 = .ok (.istore 6, 2) := by decide +kernel
theorem dL_law_427 : decode cL_law 427 = .ok (.aload_n 2, 1) := by decide +kernel
theorem dL_law_428 : decode cL_law 428 = .ok (.aload_n 0, 1) := by decide +kernel
theorem dL_law_429 : decode cL_law 429 = .ok (.iload 5, 2) := by decide +kernel
theorem dL_law_431 : decode cL_law 431 = .ok (.iconst 1, 1) := by decide +kernel
theorem dL_law_432 : decode cL_law 432 = .ok (.iadd, 1) := by decide +kernel
theorem dL_law_433 : decode cL_law 433 = .ok (.iaload, 1) := by decide +kernel
theorem dL_law_434 : decode cL_law 434 = .ok (.aload_n 0, 1) := by decide +kernel
theorem dL_law_435 : decode cL_law 435 = .ok (.iload 5, 2) := by decide +kernel
theorem dL_law_437 : decode cL_law 437 = .ok (.iconst 2, 1) := by decide +kernel
theorem dL_law_438 : decode cL_law 438 = .ok (.iadd, 1) := by decide +kernel
theorem dL_law_439 : decode cL_law 439 = .ok (.iaload, 1) := by decide +kernel
theorem dL_law_440 : decode cL_law 440 = .ok (.ifCond .eq 7, 3) := by decide +kernel
theorem dL_law_443 : decode cL_law 443 = .ok (.iconst 1, 1) := by decide +kernel
theorem dL_law_444 : decode cL_law 444 = .ok (.goto 4, 3) := by decide +kernel
theorem dL_law_447 : decode cL_law 447 = .ok (.iconst 0, 1) := by decide +kernel
theorem dL_law_448 : decode cL_law 448 = .ok (.invokevirtual 139, 3) := by decide +kernel
theorem dL_law_451 : decode cL_law 451 = .ok (.istore 7, 2) := by decide +kernel
theorem dL_law_453 : decode cL_law 453 = .ok (.goto 782, 3) := by decide +kernel
set_option maxHeartbeats 4000000 in
set_option maxRecDepth 100000 in
theorem kcase_setBlocked {p : Program} {l : Launch} {e : Env} {s : State} {m : MethodId} {below : List Frame} {meth : Method} {c : Code} {b L : Nat} {xs : Nat → Int32} {g : kG} {e0 : Nat} {z w : Nat → Nat} {S M O : wPS} {o od : Nat} {H : Heap} {locs : List Loc} {k0 n0 t : Nat} {Q : State → Prop} {ls : Array Slot} {i n1 n2 n3 n4 : Int32} (hl0 : l.stackTraces = false) (C : kLc p s m c b L xs g e0 z w S M O o od H locs) (hi : kIx L xs i n1 n2 n3 n4) (hR : kRel z w t S M) (ht : t < 512) (hk0 : k0 + 3 ≤ 601024) (hn0 : n0 + 27 ≤ 7293034) (hl : lv_has ls 8 [(5, .int i), (4, .ref od), (3, .ref o), (2, .ref (w 0)), (1, .ref (z 0)), (0, .ref b)])
    (kk : ∀ (S1 M1 O1 : wPS) (H1 : Heap) (locs1 : List Loc) (ls1 : Array Slot), kLc p s m c b L xs g e0 z w S1 M1 O1 o od H1 locs1 → kRel z w (t + 1) S1 M1 → lv_has ls1 8 [(5, .int i), (4, .ref od), (3, .ref o), (2, .ref (w 0)), (1, .ref (z 0)), (0, .ref b)] → W p l e room_1 s m #[Value.ref b] below meth c H1 locs1 (k0 + 3) (n0 + 27) Q (F0 m 1235 ls1 [])) :
    W p l e room_1 s m #[Value.ref b] below meth c H locs k0 n0 Q (F0 m 400 ls []) := by
  obtain ⟨⟨F, hK, hE, hNc, hX, hbl⟩, ⟨hP, hM, hO⟩, ⟨hD, hDM, hDO⟩, ⟨hdSO, hdSM, hdOM⟩, hS, ho, hI, hMI⟩ := C
  obtain ⟨⟨i1, i2, i3, i4⟩, v1, v2, v3, v4⟩ := hi
  have hx := F.1
  have hb := F.2.1
  have hbA : ¬ kAs s b := Nat.not_le.mpr hbl
  have hA : ∀ q : Nat, s.heap.size ≤ q → kAs s q := fun _ h => h
  obtain ⟨cn, hcn, hc⟩ := hR.2.2.2.2.2
  refine lv_aload_n hx hb dL_law_400 rfl (lv_at hl 4 rfl) ?_
  refine lv_aload_n hx hb dL_law_401 rfl (lv_at hl 5 rfl) ?_
  refine lv_iload hx hb dL_law_402 (lv_at hl 0 rfl) ?_
  refine lv_iconst (v := 1) hx hb dL_law_404 (by decide) ?_
  refine lv_iadd hx hb dL_law_405 ?_
  refine ksld hx hb hX hbl hbA hS i1 v1 dL_law_406 ?_
  refine lv_aload_n hx hb dL_law_407 rfl (lv_at hl 5 rfl) ?_
  refine lv_iload hx hb dL_law_408 (lv_at hl 0 rfl) ?_
  refine lv_iconst (v := 2) hx hb dL_law_410 (by decide) ?_
  refine lv_iadd hx hb dL_law_411 ?_
  refine ksld hx hb hX hbl hbA hS i2 v2 dL_law_412 ?_
  refine lv_if_eq (tgt := 420) hx hb dL_law_413 (by decide) (fun c1 => ?_) (fun c1 => ?_)
  · refine lv_iconst (v := 0) hx hb dL_law_420 (by decide) ?_
    refine lv_aload_n hx hb dL_law_421 rfl (lv_at hl 2 rfl) ?_
    refine kcallw (kStw (n := 4) (As := [.ref (z 0), .int n1, .int 0, .ref o]) (rest := []) F hE hNc hK hP hO hD hDO hdSO hS hA (kw_setBlocked_ l g e0 S O H.size (z 0) o n1 0 _ _ (hI.ob0) ho.1 ho.2.1 (c_X5_setBlocked l hl0 g e0 z S H.size hI n1 0 (Or.inl rfl)) (fun E h => by rcases h with ⟨rfl, -⟩ <;> simp)) kw_305 kw_306 kw_87 kw_307 (by decide +kernel) ⟨Nat.le_of_ble_eq_true rfl, Nat.le_of_ble_eq_true rfl⟩ rfl hl.1 rfl (Nat.le_of_ble_eq_true rfl) dL_law_422 ⟨(by show k0 + 1 ≤ 601024; omega), (by show n0 + 6 ≤ 7293034; omega)⟩) rfl hD hDO hS hA (fun r S1 O1 H1 locs1 hp hP1 hO1 hDs1 hDa1 hD1 hDO1 hdis1 _ hf1 hS1 => ?_)
    have hM1 := kM_keep hM hdSM hdOM hf1
    have hMO1 := kdis_symm (kdis_keepM hM hdSM hdOM hDa1)
    have hMS1 := kdis_symm (kdis_keepM hM hdSM hdOM hDs1)
    refine lv_istore (lv' := [(6, .int r), (5, .int i), (4, .ref od), (3, .ref o), (2, .ref (w 0)), (1, .ref (z 0)), (0, .ref b)]) hx hb dL_law_425 hl (by decide) rfl (fun ls hl => ?_)
    refine lv_aload_n hx hb dL_law_427 rfl (lv_at hl 4 rfl) ?_
    refine lv_aload_n hx hb dL_law_428 rfl (lv_at hl 6 rfl) ?_
    refine lv_iload hx hb dL_law_429 (lv_at hl 1 rfl) ?_
    refine lv_iconst (v := 1) hx hb dL_law_431 (by decide) ?_
    refine lv_iadd hx hb dL_law_432 ?_
    refine ksld hx hb hX hbl hbA hS1 i1 v1 dL_law_433 ?_
    refine lv_aload_n hx hb dL_law_434 rfl (lv_at hl 6 rfl) ?_
    refine lv_iload hx hb dL_law_435 (lv_at hl 1 rfl) ?_
    refine lv_iconst (v := 2) hx hb dL_law_437 (by decide) ?_
    refine lv_iadd hx hb dL_law_438 ?_
    refine ksld hx hb hX hbl hbA hS1 i2 v2 dL_law_439 ?_
    refine lv_if_eq (tgt := 447) hx hb dL_law_440 (by decide) (fun c2 => ?_) (fun c2 => ?_)
    · refine lv_iconst (v := 0) hx hb dL_law_447 (by decide) ?_
      refine kcallWI (kV (n := 2) (As := [.int n1, .int 0]) (rest := []) (b := (w 0)) (C := RX6) F hE hK hM1 hDM hS1 hA (c_X6_setBlocked l hl0 g e0 w M H1.size hMI n1 0 (Or.inl rfl) cn hc (by omega)) (rr_Model hK hM1 (hMI.ob (i := 0) (by decide))) kw_331 kw_332 kw_333 kw_5 kw_334 (by decide +kernel) ⟨Nat.le_of_ble_eq_true rfl, Nat.le_of_ble_eq_true rfl⟩ rfl hl.1 rfl (Nat.le_of_ble_eq_true rfl) dL_law_448 ⟨(by show k0 + 1 + 0 ≤ 601024; omega), (by show n0 + 6 + 0 ≤ 7293034; omega)⟩) rfl hDM hS1 hA (fun _ _ _ _ _ h => False.elim h) (fun r2 M1 H2 locs2 hm2 hP2_ hDx2 hDM1 _ hf2 hS2 => ?_)
      have hO2 := kO_keep hO1 hMO1 hf2
      have hOM2 := kdis_keep hO1 hMO1 hDx2
      have hQ2 := kO_keep hP1 hMS1 hf2
      have hSM2 := kdis_keep hP1 hMS1 hDx2
      have hq := kg_setBlocked (n1 := n1) (n2 := 0) (r2 := r2) (Or.inl rfl) hI hMI hR hcn hc ho hp hm2
      refine lv_istore (lv' := [(7, .int r2), (6, .int r), (5, .int i), (4, .ref od), (3, .ref o), (2, .ref (w 0)), (1, .ref (z 0)), (0, .ref b)]) hx hb dL_law_451 hl (by decide) rfl (fun ls hl => ?_)
      refine lv_goto (tgt := 1235) hx hb dL_law_453 (by decide) ?_
      refine W.widen (k := k0 + 3) (n := n0 + 27) (by omega) (by omega) ?_
      exact kk _ _ _ _ _ ls ⟨⟨F, hK, hE, hNc, hX, hbl⟩, ⟨hQ2, hP2_, hO2⟩, ⟨hD1, hDM1, hDO1⟩, ⟨hdis1, (kdis_symm hSM2), (kdis_symm hOM2)⟩, hS2, hq.2, hq.1.1, hq.1.2.1⟩ hq.1.2.2 (lv_sub hl [2, 3, 4, 5, 6, 7] rfl)
    · exact absurd c1 c2
  · refine lv_iconst (v := 1) hx hb dL_law_416 (by decide) ?_
    refine lv_goto (tgt := 421) hx hb dL_law_417 (by decide) ?_
    refine lv_aload_n hx hb dL_law_421 rfl (lv_at hl 2 rfl) ?_
    refine kcallw (kStw (n := 4) (As := [.ref (z 0), .int n1, .int 1, .ref o]) (rest := []) F hE hNc hK hP hO hD hDO hdSO hS hA (kw_setBlocked_ l g e0 S O H.size (z 0) o n1 1 _ _ (hI.ob0) ho.1 ho.2.1 (c_X5_setBlocked l hl0 g e0 z S H.size hI n1 1 (Or.inr rfl)) (fun E h => by rcases h with ⟨rfl, -⟩ <;> simp)) kw_305 kw_306 kw_87 kw_307 (by decide +kernel) ⟨Nat.le_of_ble_eq_true rfl, Nat.le_of_ble_eq_true rfl⟩ rfl hl.1 rfl (Nat.le_of_ble_eq_true rfl) dL_law_422 ⟨(by show k0 + 1 ≤ 601024; omega), (by show n0 + 6 ≤ 7293034; omega)⟩) rfl hD hDO hS hA (fun r S1 O1 H1 locs1 hp hP1 hO1 hDs1 hDa1 hD1 hDO1 hdis1 _ hf1 hS1 => ?_)
    have hM1 := kM_keep hM hdSM hdOM hf1
    have hMO1 := kdis_symm (kdis_keepM hM hdSM hdOM hDa1)
    have hMS1 := kdis_symm (kdis_keepM hM hdSM hdOM hDs1)
    refine lv_istore (lv' := [(6, .int r), (5, .int i), (4, .ref od), (3, .ref o), (2, .ref (w 0)), (1, .ref (z 0)), (0, .ref b)]) hx hb dL_law_425 hl (by decide) rfl (fun ls hl => ?_)
    refine lv_aload_n hx hb dL_law_427 rfl (lv_at hl 4 rfl) ?_
    refine lv_aload_n hx hb dL_law_428 rfl (lv_at hl 6 rfl) ?_
    refine lv_iload hx hb dL_law_429 (lv_at hl 1 rfl) ?_
    refine lv_iconst (v := 1) hx hb dL_law_431 (by decide) ?_
    refine lv_iadd hx hb dL_law_432 ?_
    refine ksld hx hb hX hbl hbA hS1 i1 v1 dL_law_433 ?_
    refine lv_aload_n hx hb dL_law_434 rfl (lv_at hl 6 rfl) ?_
    refine lv_iload hx hb dL_law_435 (lv_at hl 1 rfl) ?_
    refine lv_iconst (v := 2) hx hb dL_law_437 (by decide) ?_
    refine lv_iadd hx hb dL_law_438 ?_
    refine ksld hx hb hX hbl hbA hS1 i2 v2 dL_law_439 ?_
    refine lv_if_eq (tgt := 447) hx hb dL_law_440 (by decide) (fun c3 => ?_) (fun c3 => ?_)
    · exact absurd c3 c1
    · refine lv_iconst (v := 1) hx hb dL_law_443 (by decide) ?_
      refine lv_goto (tgt := 448) hx hb dL_law_444 (by decide) ?_
      refine kcallWI (kV (n := 2) (As := [.int n1, .int 1]) (rest := []) (b := (w 0)) (C := RX6) F hE hK hM1 hDM hS1 hA (c_X6_setBlocked l hl0 g e0 w M H1.size hMI n1 1 (Or.inr rfl) cn hc (by omega)) (rr_Model hK hM1 (hMI.ob (i := 0) (by decide))) kw_331 kw_332 kw_333 kw_5 kw_334 (by decide +kernel) ⟨Nat.le_of_ble_eq_true rfl, Nat.le_of_ble_eq_true rfl⟩ rfl hl.1 rfl (Nat.le_of_ble_eq_true rfl) dL_law_448 ⟨(by show k0 + 1 + 0 ≤ 601024; omega), (by show n0 + 6 + 0 ≤ 7293034; omega)⟩) rfl hDM hS1 hA (fun _ _ _ _ _ h => False.elim h) (fun r2 M1 H2 locs2 hm2 hP2_ hDx2 hDM1 _ hf2 hS2 => ?_)
      have hO2 := kO_keep hO1 hMO1 hf2
      have hOM2 := kdis_keep hO1 hMO1 hDx2
      have hQ2 := kO_keep hP1 hMS1 hf2
      have hSM2 := kdis_keep hP1 hMS1 hDx2
      have hq := kg_setBlocked (n1 := n1) (n2 := 1) (r2 := r2) (Or.inr rfl) hI hMI hR hcn hc ho hp hm2
      refine lv_istore (lv' := [(7, .int r2), (6, .int r), (5, .int i), (4, .ref od), (3, .ref o), (2, .ref (w 0)), (1, .ref (z 0)), (0, .ref b)]) hx hb dL_law_451 hl (by decide) rfl (fun ls hl => ?_)
      refine lv_goto (tgt := 1235) hx hb dL_law_453 (by decide) ?_
      refine W.widen (k := k0 + 3) (n := n0 + 27) (by omega) (by omega) ?_
      exact kk _ _ _ _ _ ls ⟨⟨F, hK, hE, hNc, hX, hbl⟩, ⟨hQ2, hP2_, hO2⟩, ⟨hD1, hDM1, hDO1⟩, ⟨hdis1, (kdis_symm hSM2), (kdis_symm hOM2)⟩, hS2, hq.2, hq.1.1, hq.1.2.1⟩ hq.1.2.2 (lv_sub hl [2, 3, 4, 5, 6, 7] rfl)
theorem dL_law_456 : decode cL_law 456 = .ok (.aload_n 1, 1) := by decide +kernel
theorem dL_law_457 : decode cL_law 457 = .ok (.aload_n 0, 1) := by decide +kernel
theorem dL_law_458 : decode cL_law 458 = .ok (.iload 5, 2) := by decide +kernel
theorem dL_law_460 : decode cL_law 460 = .ok (.iconst 1, 1) := by decide +kernel
theorem dL_law_461 : decode cL_law 461 = .ok (.iadd, 1) := by decide +kernel
theorem dL_law_462 : decode cL_law 462 = .ok (.iaload, 1) := by decide +kernel
theorem dL_law_463 : decode cL_law 463 = .ok (.aload_n 0, 1) := by decide +kernel
theorem dL_law_464 : decode cL_law 464 = .ok (.iload 5, 2) := by decide +kernel
theorem dL_law_466 : decode cL_law 466 = .ok (.iconst 2, 1) := by decide +kernel
theorem dL_law_467 : decode cL_law 467 = .ok (.iadd, 1) := by decide +kernel
theorem dL_law_468 : decode cL_law 468 = .ok (.iaload, 1) := by decide +kernel
theorem dL_law_469 : decode cL_law 469 = .ok (.aload_n 3, 1) := by decide +kernel
theorem dL_law_470 : decode cL_law 470 = .ok (.invokestatic 140, 3) := by decide +kernel
theorem dL_law_473 : decode cL_law 473 = .ok (.istore 6, 2) := by decide +kernel
theorem dL_law_475 : decode cL_law 475 = .ok (.aload_n 2, 1) := by decide +kernel
theorem dL_law_476 : decode cL_law 476 = .ok (.aload_n 0, 1) := by decide +kernel
theorem dL_law_477 : decode cL_law 477 = .ok (.iload 5, 2) := by decide +kernel
theorem dL_law_479 : decode cL_law 479 = .ok (.iconst 1, 1) := by decide +kernel
theorem dL_law_480 : decode cL_law 480 = .ok (.iadd, 1) := by decide +kernel
theorem dL_law_481 : decode cL_law 481 = .ok (.iaload, 1) := by decide +kernel
theorem dL_law_482 : decode cL_law 482 = .ok (.aload_n 0, 1) := by decide +kernel
theorem dL_law_483 : decode cL_law 483 = .ok (.iload 5, 2) := by decide +kernel
theorem dL_law_485 : decode cL_law 485 = .ok (.iconst 2, 1) := by decide +kernel
theorem dL_law_486 : decode cL_law 486 = .ok (.iadd, 1) := by decide +kernel
theorem dL_law_487 : decode cL_law 487 = .ok (.iaload, 1) := by decide +kernel
theorem dL_law_488 : decode cL_law 488 = .ok (.invokevirtual 143, 3) := by decide +kernel
theorem dL_law_491 : decode cL_law 491 = .ok (.istore 7, 2) := by decide +kernel
theorem dL_law_493 : decode cL_law 493 = .ok (.aload_n 2, 1) := by decide +kernel
theorem dL_law_494 : decode cL_law 494 = .ok (.invokevirtual 144, 3) := by decide +kernel
theorem dL_law_497 : decode cL_law 497 = .ok (.iload 6, 2) := by decide +kernel
theorem dL_law_499 : decode cL_law 499 = .ok (.if_icmp .eq 5, 3) := by decide +kernel
theorem dL_law_502 : decode cL_law 502 = .ok (.iconst 0, 1) := by decide +kernel
theorem dL_law_503 : decode cL_law 503 = .ok (.ireturn, 1) := by decide +kernel
theorem dL_law_504 : decode cL_law 504 = .ok (.iload 6, 2) := by decide +kernel
theorem dL_law_506 : decode cL_law 506 = .ok (.ifCond .ne 15, 3) := by decide +kernel
theorem dL_law_509 : decode cL_law 509 = .ok (.aload_n 3, 1) := by decide +kernel
theorem dL_law_510 : decode cL_law 510 = .ok (.iconst 0, 1) := by decide +kernel
theorem dL_law_511 : decode cL_law 511 = .ok (.laload, 1) := by decide +kernel
theorem dL_law_512 : decode cL_law 512 = .ok (.iload 7, 2) := by decide +kernel
theorem dL_law_514 : decode cL_law 514 = .ok (.i2l, 1) := by decide +kernel
theorem dL_law_515 : decode cL_law 515 = .ok (.lcmp, 1) := by decide +kernel
theorem dL_law_516 : decode cL_law 516 = .ok (.ifCond .eq 5, 3) := by decide +kernel
theorem dL_law_519 : decode cL_law 519 = .ok (.iconst 0, 1) := by decide +kernel
theorem dL_law_520 : decode cL_law 520 = .ok (.ireturn, 1) := by decide +kernel
theorem dL_law_521 : decode cL_law 521 = .ok (.goto 714, 3) := by decide +kernel
set_option maxHeartbeats 4000000 in
set_option maxRecDepth 100000 in
theorem kcase_setPickers {p : Program} {l : Launch} {e : Env} {s : State} {m : MethodId} {below : List Frame} {meth : Method} {c : Code} {b L : Nat} {xs : Nat → Int32} {g : kG} {e0 : Nat} {z w : Nat → Nat} {S M O : wPS} {o od : Nat} {H : Heap} {locs : List Loc} {k0 n0 t : Nat} {Q : State → Prop} {ls : Array Slot} {i n1 n2 n3 n4 : Int32} (hl0 : l.stackTraces = false) (C : kLc p s m c b L xs g e0 z w S M O o od H locs) (hi : kIx L xs i n1 n2 n3 n4) (hR : kRel z w t S M) (ht : t < 512) (hk0 : k0 + 3 ≤ 601024) (hn0 : n0 + 27 ≤ 7293034) (hl : lv_has ls 8 [(5, .int i), (4, .ref od), (3, .ref o), (2, .ref (w 0)), (1, .ref (z 0)), (0, .ref b)])
    (kk : ∀ (S1 M1 O1 : wPS) (H1 : Heap) (locs1 : List Loc) (ls1 : Array Slot), kLc p s m c b L xs g e0 z w S1 M1 O1 o od H1 locs1 → kRel z w (t + 1) S1 M1 → lv_has ls1 8 [(5, .int i), (4, .ref od), (3, .ref o), (2, .ref (w 0)), (1, .ref (z 0)), (0, .ref b)] → W p l e room_1 s m #[Value.ref b] below meth c H1 locs1 (k0 + 3) (n0 + 27) Q (F0 m 1235 ls1 [])) :
    W p l e room_1 s m #[Value.ref b] below meth c H locs k0 n0 Q (F0 m 456 ls []) := by
  obtain ⟨⟨F, hK, hE, hNc, hX, hbl⟩, ⟨hP, hM, hO⟩, ⟨hD, hDM, hDO⟩, ⟨hdSO, hdSM, hdOM⟩, hS, ho, hI, hMI⟩ := C
  obtain ⟨⟨i1, i2, i3, i4⟩, v1, v2, v3, v4⟩ := hi
  have hx := F.1
  have hb := F.2.1
  have hbA : ¬ kAs s b := Nat.not_le.mpr hbl
  have hA : ∀ q : Nat, s.heap.size ≤ q → kAs s q := fun _ h => h
  obtain ⟨cn, hcn, hc⟩ := hR.2.2.2.2.2
  refine lv_aload_n hx hb dL_law_456 rfl (lv_at hl 4 rfl) ?_
  refine lv_aload_n hx hb dL_law_457 rfl (lv_at hl 5 rfl) ?_
  refine lv_iload hx hb dL_law_458 (lv_at hl 0 rfl) ?_
  refine lv_iconst (v := 1) hx hb dL_law_460 (by decide) ?_
  refine lv_iadd hx hb dL_law_461 ?_
  refine ksld hx hb hX hbl hbA hS i1 v1 dL_law_462 ?_
  refine lv_aload_n hx hb dL_law_463 rfl (lv_at hl 5 rfl) ?_
  refine lv_iload hx hb dL_law_464 (lv_at hl 0 rfl) ?_
  refine lv_iconst (v := 2) hx hb dL_law_466 (by decide) ?_
  refine lv_iadd hx hb dL_law_467 ?_
  refine ksld hx hb hX hbl hbA hS i2 v2 dL_law_468 ?_
  refine lv_aload_n hx hb dL_law_469 rfl (lv_at hl 2 rfl) ?_
  refine kcallw (kStw (n := 4) (As := [.ref (z 0), .int n1, .int n2, .ref o]) (rest := []) F hE hNc hK hP hO hD hDO hdSO hS hA (kw_setPickers_ l g e0 S O H.size (z 0) o n1 n2 _ _ (hI.ob0) ho.1 ho.2.1 (c_X5_setPickers l hl0 g e0 z S H.size hI n1 n2) (fun E h => by rcases h with ⟨rfl, -⟩ | ⟨rfl, -⟩ <;> simp)) kw_348 kw_349 kw_87 kw_350 (by decide +kernel) ⟨Nat.le_of_ble_eq_true rfl, Nat.le_of_ble_eq_true rfl⟩ rfl hl.1 rfl (Nat.le_of_ble_eq_true rfl) dL_law_470 ⟨(by show k0 + 2 ≤ 601024; omega), (by show n0 + 12 ≤ 7293034; omega)⟩) rfl hD hDO hS hA (fun r S1 O1 H1 locs1 hp hP1 hO1 hDs1 hDa1 hD1 hDO1 hdis1 _ hf1 hS1 => ?_)
  have hM1 := kM_keep hM hdSM hdOM hf1
  have hMO1 := kdis_symm (kdis_keepM hM hdSM hdOM hDa1)
  have hMS1 := kdis_symm (kdis_keepM hM hdSM hdOM hDs1)
  refine lv_istore (lv' := [(6, .int r), (5, .int i), (4, .ref od), (3, .ref o), (2, .ref (w 0)), (1, .ref (z 0)), (0, .ref b)]) hx hb dL_law_473 hl (by decide) rfl (fun ls hl => ?_)
  refine lv_aload_n hx hb dL_law_475 rfl (lv_at hl 4 rfl) ?_
  refine lv_aload_n hx hb dL_law_476 rfl (lv_at hl 6 rfl) ?_
  refine lv_iload hx hb dL_law_477 (lv_at hl 1 rfl) ?_
  refine lv_iconst (v := 1) hx hb dL_law_479 (by decide) ?_
  refine lv_iadd hx hb dL_law_480 ?_
  refine ksld hx hb hX hbl hbA hS1 i1 v1 dL_law_481 ?_
  refine lv_aload_n hx hb dL_law_482 rfl (lv_at hl 6 rfl) ?_
  refine lv_iload hx hb dL_law_483 (lv_at hl 1 rfl) ?_
  refine lv_iconst (v := 2) hx hb dL_law_485 (by decide) ?_
  refine lv_iadd hx hb dL_law_486 ?_
  refine ksld hx hb hX hbl hbA hS1 i2 v2 dL_law_487 ?_
  refine kcallWI (kV (n := 2) (As := [.int n1, .int n2]) (rest := []) (b := (w 0)) (C := RX6) F hE hK hM1 hDM hS1 hA (c_X6_setPickers l hl0 g e0 w M H1.size hMI n1 n2) (rr_Model hK hM1 (hMI.ob (i := 0) (by decide))) kw_356 kw_357 kw_358 kw_5 kw_359 (by decide +kernel) ⟨Nat.le_of_ble_eq_true rfl, Nat.le_of_ble_eq_true rfl⟩ rfl hl.1 rfl (Nat.le_of_ble_eq_true rfl) dL_law_488 ⟨(by show k0 + 2 + 0 ≤ 601024; omega), (by show n0 + 12 + 0 ≤ 7293034; omega)⟩) rfl hDM hS1 hA (fun _ _ _ _ _ h => False.elim h) (fun r2 M1 H2 locs2 hm2 hP2_ hDx2 hDM1 _ hf2 hS2 => ?_)
  have hO2 := kO_keep hO1 hMO1 hf2
  have hOM2 := kdis_keep hO1 hMO1 hDx2
  have hQ2 := kO_keep hP1 hMS1 hf2
  have hSM2 := kdis_keep hP1 hMS1 hDx2
  have hq := kg_setPickers (n1 := n1) (n2 := n2) (r2 := r2) hI hMI hR hcn hc ho hp hm2
  refine lv_istore (lv' := [(7, .int r2), (6, .int r), (5, .int i), (4, .ref od), (3, .ref o), (2, .ref (w 0)), (1, .ref (z 0)), (0, .ref b)]) hx hb dL_law_491 hl (by decide) rfl (fun ls hl => ?_)
  refine lv_aload_n hx hb dL_law_493 rfl (lv_at hl 5 rfl) ?_
  refine kcallWI (kV (n := 0) (As := []) (rest := []) (b := (w 0)) (C := RX6) F hE hK hP2_ hDM1 hS2 hA (c_X6_thrown l hl0 g e0 M1 H2.size (w 0) (hq.1.2.1.ob (i := 0) (by decide))) (rr_Model hK hP2_ (hq.1.2.1.ob (i := 0) (by decide))) kw_360 kw_361 kw_362 kw_5 kw_363 (by decide +kernel) ⟨Nat.le_of_ble_eq_true rfl, Nat.le_of_ble_eq_true rfl⟩ rfl hl.1 rfl (Nat.le_of_ble_eq_true rfl) dL_law_494 ⟨(by show k0 + 2 + 0 + 0 ≤ 601024; omega), (by show n0 + 12 + 0 + 0 ≤ 7293034; omega)⟩) rfl hDM1 hS2 hA (fun _ _ _ _ _ h => False.elim h) (fun r3 M2 H3 locs3 hm3 hP3_ hDx3 _ _ hf3 hS3 => ?_)
  obtain ⟨rfl, e3⟩ := hm3
  have hO3 := kO_keep hO2 hOM2 hf3
  have hQ3 := kO_keep hQ2 hSM2 hf3
  refine lv_iload hx hb dL_law_497 (lv_at hl 1 rfl) ?_
  refine lv_icmp_eq (tgt := 504) hx hb dL_law_499 (by decide) (fun c1 => ?_) (fun c1 => ?_)
  · refine lv_iload hx hb dL_law_504 (lv_at hl 1 rfl) ?_
    refine lv_if_ne (tgt := 521) hx hb dL_law_506 (by decide) (fun c2 => ?_) (fun c2 => ?_)
    · refine lv_goto (tgt := 1235) hx hb dL_law_521 (by decide) ?_
      refine W.widen (k := k0 + 3) (n := n0 + 27) (by omega) (by omega) ?_
      exact kk _ _ _ _ _ ls ⟨⟨F, hK, hE, hNc, hX, hbl⟩, ⟨hQ3, hP3_, hO3⟩, ⟨hD1, hDM1, hDO1⟩, ⟨hdis1, (kdis_symm hSM2), (kdis_symm hOM2)⟩, hS3, hq.2.1, hq.1.1, hq.1.2.1⟩ hq.1.2.2 (lv_sub hl [2, 3, 4, 5, 6, 7] rfl)
    · refine lv_aload_n hx hb dL_law_509 rfl (lv_at hl 4 rfl) ?_
      refine lv_iconst (v := 0) hx hb dL_law_510 (by decide) ?_
      refine rd_J F hK hO3 hq.2.1.1 hq.2.1.2.1 dL_law_511 ?_
      refine lv_iload hx hb dL_law_512 (lv_at hl 0 rfl) ?_
      refine lv_i2l (v := r2.toInt64) hx hb dL_law_514 rfl ?_
      refine W.lcmp hx hb dL_law_515 ?_
      refine lv_if_eq (tgt := 521) hx hb dL_law_516 (by decide) (fun c3 => ?_) (fun c3 => ?_)
      · refine lv_goto (tgt := 1235) hx hb dL_law_521 (by decide) ?_
        refine W.widen (k := k0 + 3) (n := n0 + 27) (by omega) (by omega) ?_
        exact kk _ _ _ _ _ ls ⟨⟨F, hK, hE, hNc, hX, hbl⟩, ⟨hQ3, hP3_, hO3⟩, ⟨hD1, hDM1, hDO1⟩, ⟨hdis1, (kdis_symm hSM2), (kdis_symm hOM2)⟩, hS3, hq.2.1, hq.1.1, hq.1.2.1⟩ hq.1.2.2 (lv_sub hl [2, 3, 4, 5, 6, 7] rfl)
      · exact absurd ((lg_cmp_eq _ _).mpr (hq.2.2.2 c2)) c3
  · exact absurd (show r3 = r from e3.trans hq.2.2.1) c1
theorem dL_law_524 : decode cL_law 524 = .ok (.aload_n 1, 1) := by decide +kernel
theorem dL_law_525 : decode cL_law 525 = .ok (.aload_n 0, 1) := by decide +kernel
theorem dL_law_526 : decode cL_law 526 = .ok (.iload 5, 2) := by decide +kernel
theorem dL_law_528 : decode cL_law 528 = .ok (.iconst 1, 1) := by decide +kernel
theorem dL_law_529 : decode cL_law 529 = .ok (.iadd, 1) := by decide +kernel
theorem dL_law_530 : decode cL_law 530 = .ok (.iaload, 1) := by decide +kernel
theorem dL_law_531 : decode cL_law 531 = .ok (.aload_n 0, 1) := by decide +kernel
theorem dL_law_532 : decode cL_law 532 = .ok (.iload 5, 2) := by decide +kernel
theorem dL_law_534 : decode cL_law 534 = .ok (.iconst 2, 1) := by decide +kernel
theorem dL_law_535 : decode cL_law 535 = .ok (.iadd, 1) := by decide +kernel
theorem dL_law_536 : decode cL_law 536 = .ok (.iaload, 1) := by decide +kernel
theorem dL_law_537 : decode cL_law 537 = .ok (.aload_n 0, 1) := by decide +kernel
theorem dL_law_538 : decode cL_law 538 = .ok (.iload 5, 2) := by decide +kernel
theorem dL_law_540 : decode cL_law 540 = .ok (.iconst 3, 1) := by decide +kernel
theorem dL_law_541 : decode cL_law 541 = .ok (.iadd, 1) := by decide +kernel
theorem dL_law_542 : decode cL_law 542 = .ok (.iaload, 1) := by decide +kernel
theorem dL_law_543 : decode cL_law 543 = .ok (.aload_n 3, 1) := by decide +kernel
theorem dL_law_544 : decode cL_law 544 = .ok (.invokestatic 148, 3) := by decide +kernel
theorem dL_law_547 : decode cL_law 547 = .ok (.istore 6, 2) := by decide +kernel
theorem dL_law_549 : decode cL_law 549 = .ok (.aload_n 2, 1) := by decide +kernel
theorem dL_law_550 : decode cL_law 550 = .ok (.aload_n 0, 1) := by decide +kernel
theorem dL_law_551 : decode cL_law 551 = .ok (.iload 5, 2) := by decide +kernel
theorem dL_law_553 : decode cL_law 553 = .ok (.iconst 1, 1) := by decide +kernel
theorem dL_law_554 : decode cL_law 554 = .ok (.iadd, 1) := by decide +kernel
theorem dL_law_555 : decode cL_law 555 = .ok (.iaload, 1) := by decide +kernel
theorem dL_law_556 : decode cL_law 556 = .ok (.aload_n 0, 1) := by decide +kernel
theorem dL_law_557 : decode cL_law 557 = .ok (.iload 5, 2) := by decide +kernel
theorem dL_law_559 : decode cL_law 559 = .ok (.iconst 2, 1) := by decide +kernel
theorem dL_law_560 : decode cL_law 560 = .ok (.iadd, 1) := by decide +kernel
theorem dL_law_561 : decode cL_law 561 = .ok (.iaload, 1) := by decide +kernel
theorem dL_law_562 : decode cL_law 562 = .ok (.aload_n 0, 1) := by decide +kernel
theorem dL_law_563 : decode cL_law 563 = .ok (.iload 5, 2) := by decide +kernel
theorem dL_law_565 : decode cL_law 565 = .ok (.iconst 3, 1) := by decide +kernel
theorem dL_law_566 : decode cL_law 566 = .ok (.iadd, 1) := by decide +kernel
theorem dL_law_567 : decode cL_law 567 = .ok (.iaload, 1) := by decide +kernel
theorem dL_law_568 : decode cL_law 568 = .ok (.invokevirtual 151, 3) := by decide +kernel
theorem dL_law_571 : decode cL_law 571 = .ok (.istore 7, 2) := by decide +kernel
theorem dL_law_573 : decode cL_law 573 = .ok (.goto 662, 3) := by decide +kernel
set_option maxHeartbeats 4000000 in
set_option maxRecDepth 100000 in
theorem kcase_giveBack {p : Program} {l : Launch} {e : Env} {s : State} {m : MethodId} {below : List Frame} {meth : Method} {c : Code} {b L : Nat} {xs : Nat → Int32} {g : kG} {e0 : Nat} {z w : Nat → Nat} {S M O : wPS} {o od : Nat} {H : Heap} {locs : List Loc} {k0 n0 t : Nat} {Q : State → Prop} {ls : Array Slot} {i n1 n2 n3 n4 : Int32} (hl0 : l.stackTraces = false) (C : kLc p s m c b L xs g e0 z w S M O o od H locs) (hi : kIx L xs i n1 n2 n3 n4) (hR : kRel z w t S M) (ht : t < 512) (hk0 : k0 + 3 ≤ 601024) (hn0 : n0 + 27 ≤ 7293034) (hl : lv_has ls 8 [(5, .int i), (4, .ref od), (3, .ref o), (2, .ref (w 0)), (1, .ref (z 0)), (0, .ref b)])
    (kk : ∀ (S1 M1 O1 : wPS) (H1 : Heap) (locs1 : List Loc) (ls1 : Array Slot), kLc p s m c b L xs g e0 z w S1 M1 O1 o od H1 locs1 → kRel z w (t + 1) S1 M1 → lv_has ls1 8 [(5, .int i), (4, .ref od), (3, .ref o), (2, .ref (w 0)), (1, .ref (z 0)), (0, .ref b)] → W p l e room_1 s m #[Value.ref b] below meth c H1 locs1 (k0 + 3) (n0 + 27) Q (F0 m 1235 ls1 [])) :
    W p l e room_1 s m #[Value.ref b] below meth c H locs k0 n0 Q (F0 m 524 ls []) := by
  obtain ⟨⟨F, hK, hE, hNc, hX, hbl⟩, ⟨hP, hM, hO⟩, ⟨hD, hDM, hDO⟩, ⟨hdSO, hdSM, hdOM⟩, hS, ho, hI, hMI⟩ := C
  obtain ⟨⟨i1, i2, i3, i4⟩, v1, v2, v3, v4⟩ := hi
  have hx := F.1
  have hb := F.2.1
  have hbA : ¬ kAs s b := Nat.not_le.mpr hbl
  have hA : ∀ q : Nat, s.heap.size ≤ q → kAs s q := fun _ h => h
  obtain ⟨cn, hcn, hc⟩ := hR.2.2.2.2.2
  refine lv_aload_n hx hb dL_law_524 rfl (lv_at hl 4 rfl) ?_
  refine lv_aload_n hx hb dL_law_525 rfl (lv_at hl 5 rfl) ?_
  refine lv_iload hx hb dL_law_526 (lv_at hl 0 rfl) ?_
  refine lv_iconst (v := 1) hx hb dL_law_528 (by decide) ?_
  refine lv_iadd hx hb dL_law_529 ?_
  refine ksld hx hb hX hbl hbA hS i1 v1 dL_law_530 ?_
  refine lv_aload_n hx hb dL_law_531 rfl (lv_at hl 5 rfl) ?_
  refine lv_iload hx hb dL_law_532 (lv_at hl 0 rfl) ?_
  refine lv_iconst (v := 2) hx hb dL_law_534 (by decide) ?_
  refine lv_iadd hx hb dL_law_535 ?_
  refine ksld hx hb hX hbl hbA hS i2 v2 dL_law_536 ?_
  refine lv_aload_n hx hb dL_law_537 rfl (lv_at hl 5 rfl) ?_
  refine lv_iload hx hb dL_law_538 (lv_at hl 0 rfl) ?_
  refine lv_iconst (v := 3) hx hb dL_law_540 (by decide) ?_
  refine lv_iadd hx hb dL_law_541 ?_
  refine ksld hx hb hX hbl hbA hS i3 v3 dL_law_542 ?_
  refine lv_aload_n hx hb dL_law_543 rfl (lv_at hl 2 rfl) ?_
  refine kcallw (kStw (n := 5) (As := [.ref (z 0), .int n1, .int n2, .int n3, .ref o]) (rest := []) F hE hNc hK hP hO hD hDO hdSO hS hA (kw_giveBack_ l g e0 S O H.size (z 0) o n1 n2 n3 _ _ (hI.ob0) ho.1 ho.2.1 (c_X5_giveBack l hl0 g e0 z S H.size hI n1 n2 n3) (fun E h => by rcases h with ⟨rfl, -⟩ | ⟨rfl | rfl, -⟩ <;> simp)) kw_364 kw_365 kw_87 kw_366 (by decide +kernel) ⟨Nat.le_of_ble_eq_true rfl, Nat.le_of_ble_eq_true rfl⟩ rfl hl.1 rfl (Nat.le_of_ble_eq_true rfl) dL_law_544 ⟨(by show k0 + 2 ≤ 601024; omega), (by show n0 + 12 ≤ 7293034; omega)⟩) rfl hD hDO hS hA (fun r S1 O1 H1 locs1 hp hP1 hO1 hDs1 hDa1 hD1 hDO1 hdis1 _ hf1 hS1 => ?_)
  have hM1 := kM_keep hM hdSM hdOM hf1
  have hMO1 := kdis_symm (kdis_keepM hM hdSM hdOM hDa1)
  have hMS1 := kdis_symm (kdis_keepM hM hdSM hdOM hDs1)
  refine lv_istore (lv' := [(6, .int r), (5, .int i), (4, .ref od), (3, .ref o), (2, .ref (w 0)), (1, .ref (z 0)), (0, .ref b)]) hx hb dL_law_547 hl (by decide) rfl (fun ls hl => ?_)
  refine lv_aload_n hx hb dL_law_549 rfl (lv_at hl 4 rfl) ?_
  refine lv_aload_n hx hb dL_law_550 rfl (lv_at hl 6 rfl) ?_
  refine lv_iload hx hb dL_law_551 (lv_at hl 1 rfl) ?_
  refine lv_iconst (v := 1) hx hb dL_law_553 (by decide) ?_
  refine lv_iadd hx hb dL_law_554 ?_
  refine ksld hx hb hX hbl hbA hS1 i1 v1 dL_law_555 ?_
  refine lv_aload_n hx hb dL_law_556 rfl (lv_at hl 6 rfl) ?_
  refine lv_iload hx hb dL_law_557 (lv_at hl 1 rfl) ?_
  refine lv_iconst (v := 2) hx hb dL_law_559 (by decide) ?_
  refine lv_iadd hx hb dL_law_560 ?_
  refine ksld hx hb hX hbl hbA hS1 i2 v2 dL_law_561 ?_
  refine lv_aload_n hx hb dL_law_562 rfl (lv_at hl 6 rfl) ?_
  refine lv_iload hx hb dL_law_563 (lv_at hl 1 rfl) ?_
  refine lv_iconst (v := 3) hx hb dL_law_565 (by decide) ?_
  refine lv_iadd hx hb dL_law_566 ?_
  refine ksld hx hb hX hbl hbA hS1 i3 v3 dL_law_567 ?_
  refine kcallWI (kV (n := 3) (As := [.int n1, .int n2, .int n3]) (rest := []) (b := (w 0)) (C := RX6) F hE hK hM1 hDM hS1 hA (c_X6_giveBack l hl0 g e0 w M H1.size hMI n1 n2 n3) (rr_Model hK hM1 (hMI.ob (i := 0) (by decide))) kw_383 kw_384 kw_385 kw_5 kw_386 (by decide +kernel) ⟨Nat.le_of_ble_eq_true rfl, Nat.le_of_ble_eq_true rfl⟩ rfl hl.1 rfl (Nat.le_of_ble_eq_true rfl) dL_law_568 ⟨(by show k0 + 2 + 0 ≤ 601024; omega), (by show n0 + 12 + 0 ≤ 7293034; omega)⟩) rfl hDM hS1 hA (fun _ _ _ _ _ h => False.elim h) (fun r2 M1 H2 locs2 hm2 hP2_ hDx2 hDM1 _ hf2 hS2 => ?_)
  have hO2 := kO_keep hO1 hMO1 hf2
  have hOM2 := kdis_keep hO1 hMO1 hDx2
  have hQ2 := kO_keep hP1 hMS1 hf2
  have hSM2 := kdis_keep hP1 hMS1 hDx2
  have hq := kg_giveBack (n1 := n1) (n2 := n2) (n3 := n3) hI hMI hR hcn hc ho hp hm2
  refine lv_istore (lv' := [(7, .int r2), (6, .int r), (5, .int i), (4, .ref od), (3, .ref o), (2, .ref (w 0)), (1, .ref (z 0)), (0, .ref b)]) hx hb dL_law_571 hl (by decide) rfl (fun ls hl => ?_)
  refine lv_goto (tgt := 1235) hx hb dL_law_573 (by decide) ?_
  refine W.widen (k := k0 + 3) (n := n0 + 27) (by omega) (by omega) ?_
  exact kk _ _ _ _ _ ls ⟨⟨F, hK, hE, hNc, hX, hbl⟩, ⟨hQ2, hP2_, hO2⟩, ⟨hD1, hDM1, hDO1⟩, ⟨hdis1, (kdis_symm hSM2), (kdis_symm hOM2)⟩, hS2, hq.2, hq.1.1, hq.1.2.1⟩ hq.1.2.2 (lv_sub hl [2, 3, 4, 5, 6, 7] rfl)
theorem dL_law_576 : decode cL_law 576 = .ok (.aload_n 1, 1) := by decide +kernel
theorem dL_law_577 : decode cL_law 577 = .ok (.invokevirtual 152, 3) := by decide +kernel
theorem dL_law_580 : decode cL_law 580 = .ok (.pop, 1) := by decide +kernel
theorem dL_law_581 : decode cL_law 581 = .ok (.aload_n 2, 1) := by decide +kernel
theorem dL_law_582 : decode cL_law 582 = .ok (.invokevirtual 155, 3) := by decide +kernel
theorem dL_law_585 : decode cL_law 585 = .ok (.pop, 1) := by decide +kernel
theorem dL_law_586 : decode cL_law 586 = .ok (.goto 649, 3) := by decide +kernel
set_option maxHeartbeats 4000000 in
set_option maxRecDepth 100000 in
theorem kcase_writtenOff {p : Program} {l : Launch} {e : Env} {s : State} {m : MethodId} {below : List Frame} {meth : Method} {c : Code} {b L : Nat} {xs : Nat → Int32} {g : kG} {e0 : Nat} {z w : Nat → Nat} {S M O : wPS} {o od : Nat} {H : Heap} {locs : List Loc} {k0 n0 t : Nat} {Q : State → Prop} {ls : Array Slot} {i n1 n2 n3 n4 : Int32} (hl0 : l.stackTraces = false) (C : kLc p s m c b L xs g e0 z w S M O o od H locs) (hi : kIx L xs i n1 n2 n3 n4) (hR : kRel z w t S M) (ht : t < 512) (hk0 : k0 + 3 ≤ 601024) (hn0 : n0 + 27 ≤ 7293034) (hl : lv_has ls 8 [(5, .int i), (4, .ref od), (3, .ref o), (2, .ref (w 0)), (1, .ref (z 0)), (0, .ref b)])
    (kk : ∀ (S1 M1 O1 : wPS) (H1 : Heap) (locs1 : List Loc) (ls1 : Array Slot), kLc p s m c b L xs g e0 z w S1 M1 O1 o od H1 locs1 → kRel z w (t + 1) S1 M1 → lv_has ls1 8 [(5, .int i), (4, .ref od), (3, .ref o), (2, .ref (w 0)), (1, .ref (z 0)), (0, .ref b)] → W p l e room_1 s m #[Value.ref b] below meth c H1 locs1 (k0 + 3) (n0 + 27) Q (F0 m 1235 ls1 [])) :
    W p l e room_1 s m #[Value.ref b] below meth c H locs k0 n0 Q (F0 m 576 ls []) := by
  obtain ⟨⟨F, hK, hE, hNc, hX, hbl⟩, ⟨hP, hM, hO⟩, ⟨hD, hDM, hDO⟩, ⟨hdSO, hdSM, hdOM⟩, hS, ho, hI, hMI⟩ := C
  obtain ⟨⟨i1, i2, i3, i4⟩, v1, v2, v3, v4⟩ := hi
  have hx := F.1
  have hb := F.2.1
  have hbA : ¬ kAs s b := Nat.not_le.mpr hbl
  have hA : ∀ q : Nat, s.heap.size ≤ q → kAs s q := fun _ h => h
  obtain ⟨cn, hcn, hc⟩ := hR.2.2.2.2.2
  refine lv_aload_n hx hb dL_law_576 rfl (lv_at hl 4 rfl) ?_
  refine kcallWI (kV (n := 0) (As := []) (rest := []) (b := (z 0)) (C := RX5) F hE hK hP hD hS hA (c_X5_writtenOff l hl0 g e0 z S H.size hI) (rr_Pickwave hK hP hI.ob0) kw_392 kw_393 kw_394 kw_2 kw_395 (by decide +kernel) ⟨Nat.le_of_ble_eq_true rfl, Nat.le_of_ble_eq_true rfl⟩ rfl hl.1 rfl (Nat.le_of_ble_eq_true rfl) dL_law_577 ⟨(by show k0 + 0 ≤ 601024; omega), (by show n0 + 0 ≤ 7293034; omega)⟩) rfl hD hS hA (fun _ _ _ _ _ h => False.elim h) (fun r2 S1 H2 locs2 hp hP2_ hDx2 hD1 _ hf2 hS2 => ?_)
  have hM2 := kO_keep hM hdSM hf2
  have hO2 := kO_keep hO hdSO hf2
  have hMS1 := kdis_symm (kdis_keep hM hdSM hDx2)
  have hdis1 := kdis_keep hO hdSO hDx2
  refine lv_pop hx hb dL_law_580 rfl ?_
  refine lv_aload_n hx hb dL_law_581 rfl (lv_at hl 3 rfl) ?_
  refine kcallWI (kV (n := 0) (As := []) (rest := []) (b := (w 0)) (C := RX6) F hE hK hM2 hDM hS2 hA (c_X6_writtenOff l hl0 g e0 w M H2.size hMI) (rr_Model hK hM2 (hMI.ob (i := 0) (by decide))) kw_396 kw_397 kw_398 kw_5 kw_399 (by decide +kernel) ⟨Nat.le_of_ble_eq_true rfl, Nat.le_of_ble_eq_true rfl⟩ rfl hl.1 rfl (Nat.le_of_ble_eq_true rfl) dL_law_582 ⟨(by show k0 + 0 + 0 ≤ 601024; omega), (by show n0 + 0 + 0 ≤ 7293034; omega)⟩) rfl hDM hS2 hA (fun _ _ _ _ _ h => False.elim h) (fun r3 M1 H3 locs3 hm3 hP3_ hDx3 hDM1 _ hf3 hS3 => ?_)
  have hO3 := kO_keep hO2 (kdis_symm hdOM) hf3
  have hOM3 := kdis_keep hO2 (kdis_symm hdOM) hDx3
  have hQ3 := kO_keep hP2_ hMS1 hf3
  have hSM3 := kdis_keep hP2_ hMS1 hDx3
  have hq := kg_writtenOff (r2 := r3) hI hMI hR hcn hc hp hm3
  refine lv_pop hx hb dL_law_585 rfl ?_
  refine lv_goto (tgt := 1235) hx hb dL_law_586 (by decide) ?_
  refine W.widen (k := k0 + 3) (n := n0 + 27) (by omega) (by omega) ?_
  exact kk _ _ _ _ _ ls ⟨⟨F, hK, hE, hNc, hX, hbl⟩, ⟨hQ3, hP3_, hO3⟩, ⟨hD1, hDM1, hDO⟩, ⟨hdis1, (kdis_symm hSM3), (kdis_symm hOM3)⟩, hS3, ho, hq.1, hq.2.1⟩ hq.2.2 (lv_sub hl [0, 1, 2, 3, 4, 5] rfl)
theorem dL_law_589 : decode cL_law 589 = .ok (.aload_n 1, 1) := by decide +kernel
theorem dL_law_590 : decode cL_law 590 = .ok (.aload_n 0, 1) := by decide +kernel
theorem dL_law_591 : decode cL_law 591 = .ok (.iload 5, 2) := by decide +kernel
theorem dL_law_593 : decode cL_law 593 = .ok (.iconst 1, 1) := by decide +kernel
theorem dL_law_594 : decode cL_law 594 = .ok (.iadd, 1) := by decide +kernel
theorem dL_law_595 : decode cL_law 595 = .ok (.iaload, 1) := by decide +kernel
theorem dL_law_596 : decode cL_law 596 = .ok (.aload_n 0, 1) := by decide +kernel
theorem dL_law_597 : decode cL_law 597 = .ok (.iload 5, 2) := by decide +kernel
theorem dL_law_599 : decode cL_law 599 = .ok (.iconst 2, 1) := by decide +kernel
theorem dL_law_600 : decode cL_law 600 = .ok (.iadd, 1) := by decide +kernel
theorem dL_law_601 : decode cL_law 601 = .ok (.iaload, 1) := by decide +kernel
theorem dL_law_602 : decode cL_law 602 = .ok (.aload_n 0, 1) := by decide +kernel
theorem dL_law_603 : decode cL_law 603 = .ok (.iload 5, 2) := by decide +kernel
theorem dL_law_605 : decode cL_law 605 = .ok (.iconst 3, 1) := by decide +kernel
theorem dL_law_606 : decode cL_law 606 = .ok (.iadd, 1) := by decide +kernel
theorem dL_law_607 : decode cL_law 607 = .ok (.iaload, 1) := by decide +kernel
theorem dL_law_608 : decode cL_law 608 = .ok (.aload_n 3, 1) := by decide +kernel
theorem dL_law_609 : decode cL_law 609 = .ok (.invokestatic 156, 3) := by decide +kernel
theorem dL_law_612 : decode cL_law 612 = .ok (.istore 6, 2) := by decide +kernel
theorem dL_law_614 : decode cL_law 614 = .ok (.aload_n 2, 1) := by decide +kernel
theorem dL_law_615 : decode cL_law 615 = .ok (.aload_n 0, 1) := by decide +kernel
theorem dL_law_616 : decode cL_law 616 = .ok (.iload 5, 2) := by decide +kernel
theorem dL_law_618 : decode cL_law 618 = .ok (.iconst 1, 1) := by decide +kernel
theorem dL_law_619 : decode cL_law 619 = .ok (.iadd, 1) := by decide +kernel
theorem dL_law_620 : decode cL_law 620 = .ok (.iaload, 1) := by decide +kernel
theorem dL_law_621 : decode cL_law 621 = .ok (.aload_n 0, 1) := by decide +kernel
theorem dL_law_622 : decode cL_law 622 = .ok (.iload 5, 2) := by decide +kernel
theorem dL_law_624 : decode cL_law 624 = .ok (.iconst 2, 1) := by decide +kernel
theorem dL_law_625 : decode cL_law 625 = .ok (.iadd, 1) := by decide +kernel
theorem dL_law_626 : decode cL_law 626 = .ok (.iaload, 1) := by decide +kernel
theorem dL_law_627 : decode cL_law 627 = .ok (.aload_n 0, 1) := by decide +kernel
theorem dL_law_628 : decode cL_law 628 = .ok (.iload 5, 2) := by decide +kernel
theorem dL_law_630 : decode cL_law 630 = .ok (.iconst 3, 1) := by decide +kernel
theorem dL_law_631 : decode cL_law 631 = .ok (.iadd, 1) := by decide +kernel
theorem dL_law_632 : decode cL_law 632 = .ok (.iaload, 1) := by decide +kernel
theorem dL_law_633 : decode cL_law 633 = .ok (.invokevirtual 158, 3) := by decide +kernel
theorem dL_law_636 : decode cL_law 636 = .ok (.istore 7, 2) := by decide +kernel
theorem dL_law_638 : decode cL_law 638 = .ok (.goto 597, 3) := by decide +kernel
set_option maxHeartbeats 4000000 in
set_option maxRecDepth 100000 in
theorem kcase_order {p : Program} {l : Launch} {e : Env} {s : State} {m : MethodId} {below : List Frame} {meth : Method} {c : Code} {b L : Nat} {xs : Nat → Int32} {g : kG} {e0 : Nat} {z w : Nat → Nat} {S M O : wPS} {o od : Nat} {H : Heap} {locs : List Loc} {k0 n0 t : Nat} {Q : State → Prop} {ls : Array Slot} {i n1 n2 n3 n4 : Int32} (hl0 : l.stackTraces = false) (C : kLc p s m c b L xs g e0 z w S M O o od H locs) (hi : kIx L xs i n1 n2 n3 n4) (hR : kRel z w t S M) (ht : t < 512) (hk0 : k0 + 3 ≤ 601024) (hn0 : n0 + 27 ≤ 7293034) (hl : lv_has ls 8 [(5, .int i), (4, .ref od), (3, .ref o), (2, .ref (w 0)), (1, .ref (z 0)), (0, .ref b)])
    (kk : ∀ (S1 M1 O1 : wPS) (H1 : Heap) (locs1 : List Loc) (ls1 : Array Slot), kLc p s m c b L xs g e0 z w S1 M1 O1 o od H1 locs1 → kRel z w (t + 1) S1 M1 → lv_has ls1 8 [(5, .int i), (4, .ref od), (3, .ref o), (2, .ref (w 0)), (1, .ref (z 0)), (0, .ref b)] → W p l e room_1 s m #[Value.ref b] below meth c H1 locs1 (k0 + 3) (n0 + 27) Q (F0 m 1235 ls1 [])) :
    W p l e room_1 s m #[Value.ref b] below meth c H locs k0 n0 Q (F0 m 589 ls []) := by
  obtain ⟨⟨F, hK, hE, hNc, hX, hbl⟩, ⟨hP, hM, hO⟩, ⟨hD, hDM, hDO⟩, ⟨hdSO, hdSM, hdOM⟩, hS, ho, hI, hMI⟩ := C
  obtain ⟨⟨i1, i2, i3, i4⟩, v1, v2, v3, v4⟩ := hi
  have hx := F.1
  have hb := F.2.1
  have hbA : ¬ kAs s b := Nat.not_le.mpr hbl
  have hA : ∀ q : Nat, s.heap.size ≤ q → kAs s q := fun _ h => h
  obtain ⟨cn, hcn, hc⟩ := hR.2.2.2.2.2
  refine lv_aload_n hx hb dL_law_589 rfl (lv_at hl 4 rfl) ?_
  refine lv_aload_n hx hb dL_law_590 rfl (lv_at hl 5 rfl) ?_
  refine lv_iload hx hb dL_law_591 (lv_at hl 0 rfl) ?_
  refine lv_iconst (v := 1) hx hb dL_law_593 (by decide) ?_
  refine lv_iadd hx hb dL_law_594 ?_
  refine ksld hx hb hX hbl hbA hS i1 v1 dL_law_595 ?_
  refine lv_aload_n hx hb dL_law_596 rfl (lv_at hl 5 rfl) ?_
  refine lv_iload hx hb dL_law_597 (lv_at hl 0 rfl) ?_
  refine lv_iconst (v := 2) hx hb dL_law_599 (by decide) ?_
  refine lv_iadd hx hb dL_law_600 ?_
  refine ksld hx hb hX hbl hbA hS i2 v2 dL_law_601 ?_
  refine lv_aload_n hx hb dL_law_602 rfl (lv_at hl 5 rfl) ?_
  refine lv_iload hx hb dL_law_603 (lv_at hl 0 rfl) ?_
  refine lv_iconst (v := 3) hx hb dL_law_605 (by decide) ?_
  refine lv_iadd hx hb dL_law_606 ?_
  refine ksld hx hb hX hbl hbA hS i3 v3 dL_law_607 ?_
  refine lv_aload_n hx hb dL_law_608 rfl (lv_at hl 2 rfl) ?_
  refine kcallw (kStw (n := 5) (As := [.ref (z 0), .int n1, .int n2, .int n3, .ref o]) (rest := []) F hE hNc hK hP hO hD hDO hdSO hS hA (kw_order_ l g e0 S O H.size (z 0) o n1 n2 n3 _ _ (hI.ob0) ho.1 ho.2.1 (c_X5_order l hl0 g e0 z S H.size hI n1 n2 n3) (fun E h => by rcases h with ⟨rfl, -⟩ | ⟨rfl | rfl, -⟩ <;> simp)) kw_400 kw_401 kw_87 kw_402 (by decide +kernel) ⟨Nat.le_of_ble_eq_true rfl, Nat.le_of_ble_eq_true rfl⟩ rfl hl.1 rfl (Nat.le_of_ble_eq_true rfl) dL_law_609 ⟨(by show k0 + 3 ≤ 601024; omega), (by show n0 + 27 ≤ 7293034; omega)⟩) rfl hD hDO hS hA (fun r S1 O1 H1 locs1 hp hP1 hO1 hDs1 hDa1 hD1 hDO1 hdis1 _ hf1 hS1 => ?_)
  have hM1 := kM_keep hM hdSM hdOM hf1
  have hMO1 := kdis_symm (kdis_keepM hM hdSM hdOM hDa1)
  have hMS1 := kdis_symm (kdis_keepM hM hdSM hdOM hDs1)
  refine lv_istore (lv' := [(6, .int r), (5, .int i), (4, .ref od), (3, .ref o), (2, .ref (w 0)), (1, .ref (z 0)), (0, .ref b)]) hx hb dL_law_612 hl (by decide) rfl (fun ls hl => ?_)
  refine lv_aload_n hx hb dL_law_614 rfl (lv_at hl 4 rfl) ?_
  refine lv_aload_n hx hb dL_law_615 rfl (lv_at hl 6 rfl) ?_
  refine lv_iload hx hb dL_law_616 (lv_at hl 1 rfl) ?_
  refine lv_iconst (v := 1) hx hb dL_law_618 (by decide) ?_
  refine lv_iadd hx hb dL_law_619 ?_
  refine ksld hx hb hX hbl hbA hS1 i1 v1 dL_law_620 ?_
  refine lv_aload_n hx hb dL_law_621 rfl (lv_at hl 6 rfl) ?_
  refine lv_iload hx hb dL_law_622 (lv_at hl 1 rfl) ?_
  refine lv_iconst (v := 2) hx hb dL_law_624 (by decide) ?_
  refine lv_iadd hx hb dL_law_625 ?_
  refine ksld hx hb hX hbl hbA hS1 i2 v2 dL_law_626 ?_
  refine lv_aload_n hx hb dL_law_627 rfl (lv_at hl 6 rfl) ?_
  refine lv_iload hx hb dL_law_628 (lv_at hl 1 rfl) ?_
  refine lv_iconst (v := 3) hx hb dL_law_630 (by decide) ?_
  refine lv_iadd hx hb dL_law_631 ?_
  refine ksld hx hb hX hbl hbA hS1 i3 v3 dL_law_632 ?_
  refine kcallWI (kV (n := 3) (As := [.int n1, .int n2, .int n3]) (rest := []) (b := (w 0)) (C := RX6) F hE hK hM1 hDM hS1 hA (c_X6_order l hl0 g e0 w M H1.size hMI n1 n2 n3 cn hc (by omega)) (rr_Model hK hM1 (hMI.ob (i := 0) (by decide))) kw_428 kw_429 kw_430 kw_5 kw_431 (by decide +kernel) ⟨Nat.le_of_ble_eq_true rfl, Nat.le_of_ble_eq_true rfl⟩ rfl hl.1 rfl (Nat.le_of_ble_eq_true rfl) dL_law_633 ⟨(by show k0 + 3 + 0 ≤ 601024; omega), (by show n0 + 27 + 0 ≤ 7293034; omega)⟩) rfl hDM hS1 hA (fun _ _ _ _ _ h => False.elim h) (fun r2 M1 H2 locs2 hm2 hP2_ hDx2 hDM1 _ hf2 hS2 => ?_)
  have hO2 := kO_keep hO1 hMO1 hf2
  have hOM2 := kdis_keep hO1 hMO1 hDx2
  have hQ2 := kO_keep hP1 hMS1 hf2
  have hSM2 := kdis_keep hP1 hMS1 hDx2
  have hq := kg_order (n1 := n1) (n2 := n2) (n3 := n3) hI hMI hR hcn hc ho hp hm2
  refine lv_istore (lv' := [(7, .int r2), (6, .int r), (5, .int i), (4, .ref od), (3, .ref o), (2, .ref (w 0)), (1, .ref (z 0)), (0, .ref b)]) hx hb dL_law_636 hl (by decide) rfl (fun ls hl => ?_)
  refine lv_goto (tgt := 1235) hx hb dL_law_638 (by decide) ?_
  refine W.widen (k := k0 + 3) (n := n0 + 27) (by omega) (by omega) ?_
  exact kk _ _ _ _ _ ls ⟨⟨F, hK, hE, hNc, hX, hbl⟩, ⟨hQ2, hP2_, hO2⟩, ⟨hD1, hDM1, hDO1⟩, ⟨hdis1, (kdis_symm hSM2), (kdis_symm hOM2)⟩, hS2, hq.2, hq.1.1, hq.1.2.1⟩ hq.1.2.2 (lv_sub hl [2, 3, 4, 5, 6, 7] rfl)
theorem dL_law_641 : decode cL_law 641 = .ok (.aload_n 1, 1) := by decide +kernel
theorem dL_law_642 : decode cL_law 642 = .ok (.aload_n 0, 1) := by decide +kernel
theorem dL_law_643 : decode cL_law 643 = .ok (.iload 5, 2) := by decide +kernel
theorem dL_law_645 : decode cL_law 645 = .ok (.iconst 1, 1) := by decide +kernel
theorem dL_law_646 : decode cL_law 646 = .ok (.iadd, 1) := by decide +kernel
theorem dL_law_647 : decode cL_law 647 = .ok (.iaload, 1) := by decide +kernel
theorem dL_law_648 : decode cL_law 648 = .ok (.aload_n 3, 1) := by decide +kernel
theorem dL_law_649 : decode cL_law 649 = .ok (.invokestatic 159, 3) := by decide +kernel
theorem dL_law_652 : decode cL_law 652 = .ok (.istore 6, 2) := by decide +kernel
theorem dL_law_654 : decode cL_law 654 = .ok (.aload_n 2, 1) := by decide +kernel
theorem dL_law_655 : decode cL_law 655 = .ok (.aload_n 0, 1) := by decide +kernel
theorem dL_law_656 : decode cL_law 656 = .ok (.iload 5, 2) := by decide +kernel
theorem dL_law_658 : decode cL_law 658 = .ok (.iconst 1, 1) := by decide +kernel
theorem dL_law_659 : decode cL_law 659 = .ok (.iadd, 1) := by decide +kernel
theorem dL_law_660 : decode cL_law 660 = .ok (.iaload, 1) := by decide +kernel
theorem dL_law_661 : decode cL_law 661 = .ok (.invokevirtual 161, 3) := by decide +kernel
theorem dL_law_664 : decode cL_law 664 = .ok (.istore 7, 2) := by decide +kernel
theorem dL_law_666 : decode cL_law 666 = .ok (.goto 569, 3) := by decide +kernel
set_option maxHeartbeats 4000000 in
set_option maxRecDepth 100000 in
theorem kcase_drop {p : Program} {l : Launch} {e : Env} {s : State} {m : MethodId} {below : List Frame} {meth : Method} {c : Code} {b L : Nat} {xs : Nat → Int32} {g : kG} {e0 : Nat} {z w : Nat → Nat} {S M O : wPS} {o od : Nat} {H : Heap} {locs : List Loc} {k0 n0 t : Nat} {Q : State → Prop} {ls : Array Slot} {i n1 n2 n3 n4 : Int32} (hl0 : l.stackTraces = false) (C : kLc p s m c b L xs g e0 z w S M O o od H locs) (hi : kIx L xs i n1 n2 n3 n4) (hR : kRel z w t S M) (ht : t < 512) (hk0 : k0 + 3 ≤ 601024) (hn0 : n0 + 27 ≤ 7293034) (hl : lv_has ls 8 [(5, .int i), (4, .ref od), (3, .ref o), (2, .ref (w 0)), (1, .ref (z 0)), (0, .ref b)])
    (kk : ∀ (S1 M1 O1 : wPS) (H1 : Heap) (locs1 : List Loc) (ls1 : Array Slot), kLc p s m c b L xs g e0 z w S1 M1 O1 o od H1 locs1 → kRel z w (t + 1) S1 M1 → lv_has ls1 8 [(5, .int i), (4, .ref od), (3, .ref o), (2, .ref (w 0)), (1, .ref (z 0)), (0, .ref b)] → W p l e room_1 s m #[Value.ref b] below meth c H1 locs1 (k0 + 3) (n0 + 27) Q (F0 m 1235 ls1 [])) :
    W p l e room_1 s m #[Value.ref b] below meth c H locs k0 n0 Q (F0 m 641 ls []) := by
  obtain ⟨⟨F, hK, hE, hNc, hX, hbl⟩, ⟨hP, hM, hO⟩, ⟨hD, hDM, hDO⟩, ⟨hdSO, hdSM, hdOM⟩, hS, ho, hI, hMI⟩ := C
  obtain ⟨⟨i1, i2, i3, i4⟩, v1, v2, v3, v4⟩ := hi
  have hx := F.1
  have hb := F.2.1
  have hbA : ¬ kAs s b := Nat.not_le.mpr hbl
  have hA : ∀ q : Nat, s.heap.size ≤ q → kAs s q := fun _ h => h
  obtain ⟨cn, hcn, hc⟩ := hR.2.2.2.2.2
  refine lv_aload_n hx hb dL_law_641 rfl (lv_at hl 4 rfl) ?_
  refine lv_aload_n hx hb dL_law_642 rfl (lv_at hl 5 rfl) ?_
  refine lv_iload hx hb dL_law_643 (lv_at hl 0 rfl) ?_
  refine lv_iconst (v := 1) hx hb dL_law_645 (by decide) ?_
  refine lv_iadd hx hb dL_law_646 ?_
  refine ksld hx hb hX hbl hbA hS i1 v1 dL_law_647 ?_
  refine lv_aload_n hx hb dL_law_648 rfl (lv_at hl 2 rfl) ?_
  refine kcallw (kStw (n := 3) (As := [.ref (z 0), .int n1, .ref o]) (rest := []) F hE hNc hK hP hO hD hDO hdSO hS hA (kw_drop_ l g e0 S O H.size (z 0) o n1 _ _ (hI.ob0) ho.1 ho.2.1 (c_X5_drop l hl0 g e0 z S H.size hI n1) (fun E h => by rcases h with ⟨rfl, -⟩ | ⟨rfl, -⟩ <;> simp)) kw_436 kw_437 kw_87 kw_438 (by decide +kernel) ⟨Nat.le_of_ble_eq_true rfl, Nat.le_of_ble_eq_true rfl⟩ rfl hl.1 rfl (Nat.le_of_ble_eq_true rfl) dL_law_649 ⟨(by show k0 + 2 ≤ 601024; omega), (by show n0 + 12 ≤ 7293034; omega)⟩) rfl hD hDO hS hA (fun r S1 O1 H1 locs1 hp hP1 hO1 hDs1 hDa1 hD1 hDO1 hdis1 _ hf1 hS1 => ?_)
  have hM1 := kM_keep hM hdSM hdOM hf1
  have hMO1 := kdis_symm (kdis_keepM hM hdSM hdOM hDa1)
  have hMS1 := kdis_symm (kdis_keepM hM hdSM hdOM hDs1)
  refine lv_istore (lv' := [(6, .int r), (5, .int i), (4, .ref od), (3, .ref o), (2, .ref (w 0)), (1, .ref (z 0)), (0, .ref b)]) hx hb dL_law_652 hl (by decide) rfl (fun ls hl => ?_)
  refine lv_aload_n hx hb dL_law_654 rfl (lv_at hl 4 rfl) ?_
  refine lv_aload_n hx hb dL_law_655 rfl (lv_at hl 6 rfl) ?_
  refine lv_iload hx hb dL_law_656 (lv_at hl 1 rfl) ?_
  refine lv_iconst (v := 1) hx hb dL_law_658 (by decide) ?_
  refine lv_iadd hx hb dL_law_659 ?_
  refine ksld hx hb hX hbl hbA hS1 i1 v1 dL_law_660 ?_
  refine kcallWI (kV (n := 1) (As := [.int n1]) (rest := []) (b := (w 0)) (C := RX6) F hE hK hM1 hDM hS1 hA (c_X6_drop l hl0 g e0 w M H1.size hMI n1 cn hc (by omega)) (rr_Model hK hM1 (hMI.ob (i := 0) (by decide))) kw_447 kw_448 kw_449 kw_5 kw_450 (by decide +kernel) ⟨Nat.le_of_ble_eq_true rfl, Nat.le_of_ble_eq_true rfl⟩ rfl hl.1 rfl (Nat.le_of_ble_eq_true rfl) dL_law_661 ⟨(by show k0 + 2 + 0 ≤ 601024; omega), (by show n0 + 12 + 0 ≤ 7293034; omega)⟩) rfl hDM hS1 hA (fun _ _ _ _ _ h => False.elim h) (fun r2 M1 H2 locs2 hm2 hP2_ hDx2 hDM1 _ hf2 hS2 => ?_)
  have hO2 := kO_keep hO1 hMO1 hf2
  have hOM2 := kdis_keep hO1 hMO1 hDx2
  have hQ2 := kO_keep hP1 hMS1 hf2
  have hSM2 := kdis_keep hP1 hMS1 hDx2
  have hq := kg_drop (n1 := n1) hI hMI hR hcn hc ho hp hm2
  refine lv_istore (lv' := [(7, .int r2), (6, .int r), (5, .int i), (4, .ref od), (3, .ref o), (2, .ref (w 0)), (1, .ref (z 0)), (0, .ref b)]) hx hb dL_law_664 hl (by decide) rfl (fun ls hl => ?_)
  refine lv_goto (tgt := 1235) hx hb dL_law_666 (by decide) ?_
  refine W.widen (k := k0 + 3) (n := n0 + 27) (by omega) (by omega) ?_
  exact kk _ _ _ _ _ ls ⟨⟨F, hK, hE, hNc, hX, hbl⟩, ⟨hQ2, hP2_, hO2⟩, ⟨hD1, hDM1, hDO1⟩, ⟨hdis1, (kdis_symm hSM2), (kdis_symm hOM2)⟩, hS2, hq.2, hq.1.1, hq.1.2.1⟩ hq.1.2.2 (lv_sub hl [2, 3, 4, 5, 6, 7] rfl)
