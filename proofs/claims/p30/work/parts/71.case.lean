theorem dL_law_400 : decode cL_law 400 = .ok (.aload_n 1, 1) := by decide +kernel
theorem dL_law_401 : decode cL_law 401 = .ok (.aload_n 0, 1) := by decide +kernel
theorem dL_law_402 : decode cL_law 402 = .ok (.iload 5, 2) := by decide +kernel
theorem dL_law_404 : decode cL_law 404 = .ok (.iconst 1, 1) := by decide +kernel
theorem dL_law_405 : decode cL_law 405 = .ok (.iadd, 1) := by decide +kernel
theorem dL_law_406 : decode cL_law 406 = .ok (.iaload, 1) := by decide +kernel
theorem dL_law_407 : decode cL_law 407 = .ok (.aload_n 0, 1) := by decide +kernel
theorem dL_law_408 : decode cL_law 408 = .ok (.iload 5, 2) := by decide +kernel
theorem dL_law_410 : decode cL_law 410 = .ok (.iconst 2, 1) := by decide +kernel
theorem dL_law_411 : decode cL_law 411 = .ok (.iadd, 1) := by decide +kernel
theorem dL_law_412 : decode cL_law 412 = .ok (.iaload, 1) := by decide +kernel
theorem dL_law_413 : decode cL_law 413 = .ok (.ifCond .eq 7, 3) := by decide +kernel
theorem dL_law_416 : decode cL_law 416 = .ok (.iconst 1, 1) := by decide +kernel
theorem dL_law_417 : decode cL_law 417 = .ok (.goto 4, 3) := by decide +kernel
theorem dL_law_420 : decode cL_law 420 = .ok (.iconst 0, 1) := by decide +kernel
theorem dL_law_421 : decode cL_law 421 = .ok (.aload_n 3, 1) := by decide +kernel
theorem dL_law_422 : decode cL_law 422 = .ok (.invokestatic 136, 3) := by decide +kernel
theorem dL_law_425 : decode cL_law 425 = .ok (.istore 6, 2) := by decide +kernel
theorem dL_law_427 : decode cL_law 427 = .ok (.aload_n 2, 1) := by decide +kernel
theorem dL_law_428 : decode cL_law 428 = .ok (.aload_n 0, 1) := by decide +kernel
theorem dL_law_429 : decode cL_law 429 = .ok (.iload 5, 2) := by decide +kernel
theorem dL_law_431 : decode cL_law 431 = .ok (.iconst 1, 1) := by decide +kernel
theorem dL_law_432 : decode cL_law 432 = .ok (.iadd, 1) := by decide +kernel
theorem dL_law_433 : decode cL_law 433 = .ok (.iaload, 1) := by decide +kernel
theorem dL_law_434 : decode cL_law 434 = .ok (.aload_n 0, 1) := by decide +kernel
theorem dL_law_435 : decode cL_law 435 = .ok (.iload 5, 2) := by decide +kernel
theorem dL_law_437 : decode cL_law 437 = .ok (.iconst 2, 1) := by decide +kernel
theorem dL_law_438 : decode cL_law 438 = .ok (.iadd, 1) := by decide +kernel
theorem dL_law_439 : decode cL_law 439 = .ok (.iaload, 1) := by decide +kernel
theorem dL_law_440 : decode cL_law 440 = .ok (.ifCond .eq 7, 3) := by decide +kernel
theorem dL_law_443 : decode cL_law 443 = .ok (.iconst 1, 1) := by decide +kernel
theorem dL_law_444 : decode cL_law 444 = .ok (.goto 4, 3) := by decide +kernel
theorem dL_law_447 : decode cL_law 447 = .ok (.iconst 0, 1) := by decide +kernel
theorem dL_law_448 : decode cL_law 448 = .ok (.invokevirtual 139, 3) := by decide +kernel
theorem dL_law_451 : decode cL_law 451 = .ok (.istore 7, 2) := by decide +kernel
theorem dL_law_453 : decode cL_law 453 = .ok (.goto 754, 3) := by decide +kernel
set_option maxHeartbeats 4000000 in
set_option maxRecDepth 100000 in
theorem kcase_setBlocked {p : Program} {l : Launch} {e : Env} {s : State} {m : MethodId} {below : List Frame} {meth : Method} {c : Code} {b L : Nat} {xs : Nat → Int32} {g : kG} {e0 : Nat} {z w : Nat → Nat} {S M O : wPS} {o od : Nat} {H : Heap} {locs : List Loc} {k0 n0 t : Nat} {Q : State → Prop} {ls : Array Slot} {i n1 n2 n3 n4 : Int32} (hl0 : l.stackTraces = false) (C : kLc p s m c b L xs g e0 z w S M O o od H locs) (hi : kIx L xs i n1 n2 n3 n4) (hR : kRel z w t S M) (ht : t < 512) (hk0 : k0 + 3 ≤ 601024) (hn0 : n0 + 27 ≤ 7293034) (hl : lv_has ls 8 [(5, .int i), (4, .ref od), (3, .ref o), (2, .ref (w 0)), (1, .ref (z 0)), (0, .ref b)])
    (kk : ∀ (S1 M1 O1 : wPS) (H1 : Heap) (locs1 : List Loc) (ls1 : Array Slot), kLc p s m c b L xs g e0 z w S1 M1 O1 o od H1 locs1 → kRel z w (t + 1) S1 M1 → lv_has ls1 8 [(5, .int i), (4, .ref od), (3, .ref o), (2, .ref (w 0)), (1, .ref (z 0)), (0, .ref b)] → W p l e room_1 s m #[Value.ref b] below meth c H1 locs1 (k0 + 3) (n0 + 27) Q (F0 m 1207 ls1 [])) :
    W p l e room_1 s m #[Value.ref b] below meth c H locs k0 n0 Q (F0 m 400 ls []) := by
  obtain ⟨⟨F, hK, hE, hNc, hX, hbl⟩, ⟨hP, hM, hO⟩, ⟨hD, hDM, hDO⟩, ⟨hdSO, hdSM, hdOM⟩, hS, ho, hI, hMI⟩ := C
  obtain ⟨⟨i1, i2, i3, i4⟩, v1, v2, v3, v4⟩ := hi
  have hx := F.1
  have hb := F.2.1
  have hbA : ¬ kAs s b := Nat.not_le.mpr hbl
  have hA : ∀ q : Nat, s.heap.size ≤ q → kAs s q := fun _ h => h
  obtain ⟨cn, hcn, hc⟩ := hR.2.2.2.2.2
  refine lv_aload_n hx hb dL_law_400 rfl (lv_at hl 4 rfl) ?_
  refine lv_aload_n hx hb dL_law_401 rfl (lv_at hl 5 rfl) ?_
  refine lv_iload hx hb dL_law_402 (lv_at hl 0 rfl) ?_
  refine lv_iconst (v := 1) hx hb dL_law_404 (by decide) ?_
  refine lv_iadd hx hb dL_law_405 ?_
  refine ksld hx hb hX hbl hbA hS i1 v1 dL_law_406 ?_
  refine lv_aload_n hx hb dL_law_407 rfl (lv_at hl 5 rfl) ?_
  refine lv_iload hx hb dL_law_408 (lv_at hl 0 rfl) ?_
  refine lv_iconst (v := 2) hx hb dL_law_410 (by decide) ?_
  refine lv_iadd hx hb dL_law_411 ?_
  refine ksld hx hb hX hbl hbA hS i2 v2 dL_law_412 ?_
  refine lv_if_eq (tgt := 420) hx hb dL_law_413 (by decide) (fun c1 => ?_) (fun c1 => ?_)
  · refine lv_iconst (v := 0) hx hb dL_law_420 (by decide) ?_
    refine lv_aload_n hx hb dL_law_421 rfl (lv_at hl 2 rfl) ?_
    refine kcallw (kStw (n := 4) (As := [.ref (z 0), .int n1, .int 0, .ref o]) (rest := []) F hE hNc hK hP hO hD hDO hdSO hS hA (kw_setBlocked_ l g e0 S O H.size (z 0) o n1 0 _ _ (hI.ob0) ho.1 ho.2.1 (c_X5_setBlocked l hl0 g e0 z S H.size hI n1 0 (Or.inl rfl)) (fun E h => by rcases h with ⟨rfl, -⟩ <;> simp)) kw_305 kw_306 kw_87 kw_307 (by decide +kernel) ⟨Nat.le_of_ble_eq_true rfl, Nat.le_of_ble_eq_true rfl⟩ rfl hl.1 rfl (Nat.le_of_ble_eq_true rfl) dL_law_422 ⟨(by show k0 + 1 ≤ 601024; omega), (by show n0 + 6 ≤ 7293034; omega)⟩) rfl hD hDO hS hA (fun r S1 O1 H1 locs1 hp hP1 hO1 hDs1 hDa1 hD1 hDO1 hdis1 _ hf1 hS1 => ?_)
    have hM1 := kM_keep hM hdSM hdOM hf1
    have hMO1 := kdis_symm (kdis_keepM hM hdSM hdOM hDa1)
    have hMS1 := kdis_symm (kdis_keepM hM hdSM hdOM hDs1)
    refine lv_istore (lv' := [(6, .int r), (5, .int i), (4, .ref od), (3, .ref o), (2, .ref (w 0)), (1, .ref (z 0)), (0, .ref b)]) hx hb dL_law_425 hl (by decide) rfl (fun ls hl => ?_)
    refine lv_aload_n hx hb dL_law_427 rfl (lv_at hl 4 rfl) ?_
    refine lv_aload_n hx hb dL_law_428 rfl (lv_at hl 6 rfl) ?_
    refine lv_iload hx hb dL_law_429 (lv_at hl 1 rfl) ?_
    refine lv_iconst (v := 1) hx hb dL_law_431 (by decide) ?_
    refine lv_iadd hx hb dL_law_432 ?_
    refine ksld hx hb hX hbl hbA hS1 i1 v1 dL_law_433 ?_
    refine lv_aload_n hx hb dL_law_434 rfl (lv_at hl 6 rfl) ?_
    refine lv_iload hx hb dL_law_435 (lv_at hl 1 rfl) ?_
    refine lv_iconst (v := 2) hx hb dL_law_437 (by decide) ?_
    refine lv_iadd hx hb dL_law_438 ?_
    refine ksld hx hb hX hbl hbA hS1 i2 v2 dL_law_439 ?_
    refine lv_if_eq (tgt := 447) hx hb dL_law_440 (by decide) (fun c2 => ?_) (fun c2 => ?_)
    · refine lv_iconst (v := 0) hx hb dL_law_447 (by decide) ?_
      refine kcallWI (kV (n := 2) (As := [.int n1, .int 0]) (rest := []) (b := (w 0)) (C := RX6) F hE hK hM1 hDM hS1 hA (c_X6_setBlocked l hl0 g e0 w M H1.size hMI n1 0 (Or.inl rfl) cn hc (by omega)) (rr_Model hK hM1 (hMI.ob (i := 0) (by decide))) kw_331 kw_332 kw_333 kw_5 kw_334 (by decide +kernel) ⟨Nat.le_of_ble_eq_true rfl, Nat.le_of_ble_eq_true rfl⟩ rfl hl.1 rfl (Nat.le_of_ble_eq_true rfl) dL_law_448 ⟨(by show k0 + 1 + 0 ≤ 601024; omega), (by show n0 + 6 + 0 ≤ 7293034; omega)⟩) rfl hDM hS1 hA (fun _ _ _ _ _ h => False.elim h) (fun r2 M1 H2 locs2 hm2 hP2_ hDx2 hDM1 _ hf2 hS2 => ?_)
      have hO2 := kO_keep hO1 hMO1 hf2
      have hOM2 := kdis_keep hO1 hMO1 hDx2
      have hQ2 := kO_keep hP1 hMS1 hf2
      have hSM2 := kdis_keep hP1 hMS1 hDx2
      have hq := kg_setBlocked (n1 := n1) (n2 := 0) (r2 := r2) (Or.inl rfl) hI hMI hR hcn hc ho hp hm2
      refine lv_istore (lv' := [(7, .int r2), (6, .int r), (5, .int i), (4, .ref od), (3, .ref o), (2, .ref (w 0)), (1, .ref (z 0)), (0, .ref b)]) hx hb dL_law_451 hl (by decide) rfl (fun ls hl => ?_)
      refine lv_goto (tgt := 1207) hx hb dL_law_453 (by decide) ?_
      refine W.widen (k := k0 + 3) (n := n0 + 27) (by omega) (by omega) ?_
      exact kk _ _ _ _ _ ls ⟨⟨F, hK, hE, hNc, hX, hbl⟩, ⟨hQ2, hP2_, hO2⟩, ⟨hD1, hDM1, hDO1⟩, ⟨hdis1, (kdis_symm hSM2), (kdis_symm hOM2)⟩, hS2, hq.2, hq.1.1, hq.1.2.1⟩ hq.1.2.2 (lv_sub hl [2, 3, 4, 5, 6, 7] rfl)
    · exact absurd c1 c2
  · refine lv_iconst (v := 1) hx hb dL_law_416 (by decide) ?_
    refine lv_goto (tgt := 421) hx hb dL_law_417 (by decide) ?_
    refine lv_aload_n hx hb dL_law_421 rfl (lv_at hl 2 rfl) ?_
    refine kcallw (kStw (n := 4) (As := [.ref (z 0), .int n1, .int 1, .ref o]) (rest := []) F hE hNc hK hP hO hD hDO hdSO hS hA (kw_setBlocked_ l g e0 S O H.size (z 0) o n1 1 _ _ (hI.ob0) ho.1 ho.2.1 (c_X5_setBlocked l hl0 g e0 z S H.size hI n1 1 (Or.inr rfl)) (fun E h => by rcases h with ⟨rfl, -⟩ <;> simp)) kw_305 kw_306 kw_87 kw_307 (by decide +kernel) ⟨Nat.le_of_ble_eq_true rfl, Nat.le_of_ble_eq_true rfl⟩ rfl hl.1 rfl (Nat.le_of_ble_eq_true rfl) dL_law_422 ⟨(by show k0 + 1 ≤ 601024; omega), (by show n0 + 6 ≤ 7293034; omega)⟩) rfl hD hDO hS hA (fun r S1 O1 H1 locs1 hp hP1 hO1 hDs1 hDa1 hD1 hDO1 hdis1 _ hf1 hS1 => ?_)
    have hM1 := kM_keep hM hdSM hdOM hf1
    have hMO1 := kdis_symm (kdis_keepM hM hdSM hdOM hDa1)
    have hMS1 := kdis_symm (kdis_keepM hM hdSM hdOM hDs1)
    refine lv_istore (lv' := [(6, .int r), (5, .int i), (4, .ref od), (3, .ref o), (2, .ref (w 0)), (1, .ref (z 0)), (0, .ref b)]) hx hb dL_law_425 hl (by decide) rfl (fun ls hl => ?_)
    refine lv_aload_n hx hb dL_law_427 rfl (lv_at hl 4 rfl) ?_
    refine lv_aload_n hx hb dL_law_428 rfl (lv_at hl 6 rfl) ?_
    refine lv_iload hx hb dL_law_429 (lv_at hl 1 rfl) ?_
    refine lv_iconst (v := 1) hx hb dL_law_431 (by decide) ?_
    refine lv_iadd hx hb dL_law_432 ?_
    refine ksld hx hb hX hbl hbA hS1 i1 v1 dL_law_433 ?_
    refine lv_aload_n hx hb dL_law_434 rfl (lv_at hl 6 rfl) ?_
    refine lv_iload hx hb dL_law_435 (lv_at hl 1 rfl) ?_
    refine lv_iconst (v := 2) hx hb dL_law_437 (by decide) ?_
    refine lv_iadd hx hb dL_law_438 ?_
    refine ksld hx hb hX hbl hbA hS1 i2 v2 dL_law_439 ?_
    refine lv_if_eq (tgt := 447) hx hb dL_law_440 (by decide) (fun c3 => ?_) (fun c3 => ?_)
    · exact absurd c3 c1
    · refine lv_iconst (v := 1) hx hb dL_law_443 (by decide) ?_
      refine lv_goto (tgt := 448) hx hb dL_law_444 (by decide) ?_
      refine kcallWI (kV (n := 2) (As := [.int n1, .int 1]) (rest := []) (b := (w 0)) (C := RX6) F hE hK hM1 hDM hS1 hA (c_X6_setBlocked l hl0 g e0 w M H1.size hMI n1 1 (Or.inr rfl) cn hc (by omega)) (rr_Model hK hM1 (hMI.ob (i := 0) (by decide))) kw_331 kw_332 kw_333 kw_5 kw_334 (by decide +kernel) ⟨Nat.le_of_ble_eq_true rfl, Nat.le_of_ble_eq_true rfl⟩ rfl hl.1 rfl (Nat.le_of_ble_eq_true rfl) dL_law_448 ⟨(by show k0 + 1 + 0 ≤ 601024; omega), (by show n0 + 6 + 0 ≤ 7293034; omega)⟩) rfl hDM hS1 hA (fun _ _ _ _ _ h => False.elim h) (fun r2 M1 H2 locs2 hm2 hP2_ hDx2 hDM1 _ hf2 hS2 => ?_)
      have hO2 := kO_keep hO1 hMO1 hf2
      have hOM2 := kdis_keep hO1 hMO1 hDx2
      have hQ2 := kO_keep hP1 hMS1 hf2
      have hSM2 := kdis_keep hP1 hMS1 hDx2
      have hq := kg_setBlocked (n1 := n1) (n2 := 1) (r2 := r2) (Or.inr rfl) hI hMI hR hcn hc ho hp hm2
      refine lv_istore (lv' := [(7, .int r2), (6, .int r), (5, .int i), (4, .ref od), (3, .ref o), (2, .ref (w 0)), (1, .ref (z 0)), (0, .ref b)]) hx hb dL_law_451 hl (by decide) rfl (fun ls hl => ?_)
      refine lv_goto (tgt := 1207) hx hb dL_law_453 (by decide) ?_
      refine W.widen (k := k0 + 3) (n := n0 + 27) (by omega) (by omega) ?_
      exact kk _ _ _ _ _ ls ⟨⟨F, hK, hE, hNc, hX, hbl⟩, ⟨hQ2, hP2_, hO2⟩, ⟨hD1, hDM1, hDO1⟩, ⟨hdis1, (kdis_symm hSM2), (kdis_symm hOM2)⟩, hS2, hq.2, hq.1.1, hq.1.2.1⟩ hq.1.2.2 (lv_sub hl [2, 3, 4, 5, 6, 7] rfl)
theorem dL_law_456 : decode cL_law 456 = .ok (.aload_n 1, 1) := by decide +kernel
theorem dL_law_457 : decode cL_law 457 = .ok (.aload_n 0, 1) := by decide +kernel
theorem dL_law_458 : decode cL_law 458 = .ok (.iload 5, 2) := by decide +kernel
theorem dL_law_460 : decode cL_law 460 = .ok (.iconst 1, 1) := by decide +kernel
theorem dL_law_461 : decode cL_law 461 = .ok (.iadd, 1) := by decide +kernel
theorem dL_law_462 : decode cL_law 462 = .ok (.iaload, 1) := by decide +kernel
theorem dL_law_463 : decode cL_law 463 = .ok (.aload_n 0, 1) := by decide +kernel
theorem dL_law_464 : decode cL_law 464 = .ok (.iload 5, 2) := by decide +kernel
theorem dL_law_466 : decode cL_law 466 = .ok (.iconst 2, 1) := by decide +kernel
theorem dL_law_467 : decode cL_law 467 = .ok (.iadd, 1) := by decide +kernel
theorem dL_law_468 : decode cL_law 468 = .ok (.iaload, 1) := by decide +kernel
theorem dL_law_469 : decode cL_law 469 = .ok (.aload_n 3, 1) := by decide +kernel
theorem dL_law_470 : decode cL_law 470 = .ok (.invokestatic 140, 3) := by decide +kernel
theorem dL_law_473 : decode cL_law 473 = .ok (.istore 6, 2) := by decide +kernel
theorem dL_law_475 : decode cL_law 475 = .ok (.aload_n 2, 1) := by decide +kernel
theorem dL_law_476 : decode cL_law 476 = .ok (.aload_n 0, 1) := by decide +kernel
theorem dL_law_477 : decode cL_law 477 = .ok (.iload 5, 2) := by decide +kernel
theorem dL_law_479 : decode cL_law 479 = .ok (.iconst 1, 1) := by decide +kernel
theorem dL_law_480 : decode cL_law 480 = .ok (.iadd, 1) := by decide +kernel
theorem dL_law_481 : decode cL_law 481 = .ok (.iaload, 1) := by decide +kernel
theorem dL_law_482 : decode cL_law 482 = .ok (.aload_n 0, 1) := by decide +kernel
theorem dL_law_483 : decode cL_law 483 = .ok (.iload 5, 2) := by decide +kernel
theorem dL_law_485 : decode cL_law 485 = .ok (.iconst 2, 1) := by decide +kernel
theorem dL_law_486 : decode cL_law 486 = .ok (.iadd, 1) := by decide +kernel
theorem dL_law_487 : decode cL_law 487 = .ok (.iaload, 1) := by decide +kernel
theorem dL_law_488 : decode cL_law 488 = .ok (.invokevirtual 143, 3) := by decide +kernel
theorem dL_law_491 : decode cL_law 491 = .ok (.istore 7, 2) := by decide +kernel
theorem dL_law_493 : decode cL_law 493 = .ok (.goto 714, 3) := by decide +kernel
set_option maxHeartbeats 4000000 in
set_option maxRecDepth 100000 in
theorem kcase_setPickers {p : Program} {l : Launch} {e : Env} {s : State} {m : MethodId} {below : List Frame} {meth : Method} {c : Code} {b L : Nat} {xs : Nat → Int32} {g : kG} {e0 : Nat} {z w : Nat → Nat} {S M O : wPS} {o od : Nat} {H : Heap} {locs : List Loc} {k0 n0 t : Nat} {Q : State → Prop} {ls : Array Slot} {i n1 n2 n3 n4 : Int32} (hl0 : l.stackTraces = false) (C : kLc p s m c b L xs g e0 z w S M O o od H locs) (hi : kIx L xs i n1 n2 n3 n4) (hR : kRel z w t S M) (ht : t < 512) (hk0 : k0 + 3 ≤ 601024) (hn0 : n0 + 27 ≤ 7293034) (hl : lv_has ls 8 [(5, .int i), (4, .ref od), (3, .ref o), (2, .ref (w 0)), (1, .ref (z 0)), (0, .ref b)])
    (kk : ∀ (S1 M1 O1 : wPS) (H1 : Heap) (locs1 : List Loc) (ls1 : Array Slot), kLc p s m c b L xs g e0 z w S1 M1 O1 o od H1 locs1 → kRel z w (t + 1) S1 M1 → lv_has ls1 8 [(5, .int i), (4, .ref od), (3, .ref o), (2, .ref (w 0)), (1, .ref (z 0)), (0, .ref b)] → W p l e room_1 s m #[Value.ref b] below meth c H1 locs1 (k0 + 3) (n0 + 27) Q (F0 m 1207 ls1 [])) :
    W p l e room_1 s m #[Value.ref b] below meth c H locs k0 n0 Q (F0 m 456 ls []) := by
  obtain ⟨⟨F, hK, hE, hNc, hX, hbl⟩, ⟨hP, hM, hO⟩, ⟨hD, hDM, hDO⟩, ⟨hdSO, hdSM, hdOM⟩, hS, ho, hI, hMI⟩ := C
  obtain ⟨⟨i1, i2, i3, i4⟩, v1, v2, v3, v4⟩ := hi
  have hx := F.1
  have hb := F.2.1
  have hbA : ¬ kAs s b := Nat.not_le.mpr hbl
  have hA : ∀ q : Nat, s.heap.size ≤ q → kAs s q := fun _ h => h
  obtain ⟨cn, hcn, hc⟩ := hR.2.2.2.2.2
  refine lv_aload_n hx hb dL_law_456 rfl (lv_at hl 4 rfl) ?_
  refine lv_aload_n hx hb dL_law_457 rfl (lv_at hl 5 rfl) ?_
  refine lv_iload hx hb dL_law_458 (lv_at hl 0 rfl) ?_
  refine lv_iconst (v := 1) hx hb dL_law_460 (by decide) ?_
  refine lv_iadd hx hb dL_law_461 ?_
  refine ksld hx hb hX hbl hbA hS i1 v1 dL_law_462 ?_
  refine lv_aload_n hx hb dL_law_463 rfl (lv_at hl 5 rfl) ?_
  refine lv_iload hx hb dL_law_464 (lv_at hl 0 rfl) ?_
  refine lv_iconst (v := 2) hx hb dL_law_466 (by decide) ?_
  refine lv_iadd hx hb dL_law_467 ?_
  refine ksld hx hb hX hbl hbA hS i2 v2 dL_law_468 ?_
  refine lv_aload_n hx hb dL_law_469 rfl (lv_at hl 2 rfl) ?_
  refine kcallw (kStw (n := 4) (As := [.ref (z 0), .int n1, .int n2, .ref o]) (rest := []) F hE hNc hK hP hO hD hDO hdSO hS hA (kw_setPickers_ l g e0 S O H.size (z 0) o n1 n2 _ _ (hI.ob0) ho.1 ho.2.1 (c_X5_setPickers l hl0 g e0 z S H.size hI n1 n2) (fun E h => by rcases h with ⟨rfl, -⟩ | ⟨rfl, -⟩ <;> simp)) kw_348 kw_349 kw_87 kw_350 (by decide +kernel) ⟨Nat.le_of_ble_eq_true rfl, Nat.le_of_ble_eq_true rfl⟩ rfl hl.1 rfl (Nat.le_of_ble_eq_true rfl) dL_law_470 ⟨(by show k0 + 2 ≤ 601024; omega), (by show n0 + 12 ≤ 7293034; omega)⟩) rfl hD hDO hS hA (fun r S1 O1 H1 locs1 hp hP1 hO1 hDs1 hDa1 hD1 hDO1 hdis1 _ hf1 hS1 => ?_)
  have hM1 := kM_keep hM hdSM hdOM hf1
  have hMO1 := kdis_symm (kdis_keepM hM hdSM hdOM hDa1)
  have hMS1 := kdis_symm (kdis_keepM hM hdSM hdOM hDs1)
  refine lv_istore (lv' := [(6, .int r), (5, .int i), (4, .ref od), (3, .ref o), (2, .ref (w 0)), (1, .ref (z 0)), (0, .ref b)]) hx hb dL_law_473 hl (by decide) rfl (fun ls hl => ?_)
  refine lv_aload_n hx hb dL_law_475 rfl (lv_at hl 4 rfl) ?_
  refine lv_aload_n hx hb dL_law_476 rfl (lv_at hl 6 rfl) ?_
  refine lv_iload hx hb dL_law_477 (lv_at hl 1 rfl) ?_
  refine lv_iconst (v := 1) hx hb dL_law_479 (by decide) ?_
  refine lv_iadd hx hb dL_law_480 ?_
  refine ksld hx hb hX hbl hbA hS1 i1 v1 dL_law_481 ?_
  refine lv_aload_n hx hb dL_law_482 rfl (lv_at hl 6 rfl) ?_
  refine lv_iload hx hb dL_law_483 (lv_at hl 1 rfl) ?_
  refine lv_iconst (v := 2) hx hb dL_law_485 (by decide) ?_
  refine lv_iadd hx hb dL_law_486 ?_
  refine ksld hx hb hX hbl hbA hS1 i2 v2 dL_law_487 ?_
  refine kcallWI (kV (n := 2) (As := [.int n1, .int n2]) (rest := []) (b := (w 0)) (C := RX6) F hE hK hM1 hDM hS1 hA (c_X6_setPickers l hl0 g e0 w M H1.size hMI n1 n2) (rr_Model hK hM1 (hMI.ob (i := 0) (by decide))) kw_356 kw_357 kw_358 kw_5 kw_359 (by decide +kernel) ⟨Nat.le_of_ble_eq_true rfl, Nat.le_of_ble_eq_true rfl⟩ rfl hl.1 rfl (Nat.le_of_ble_eq_true rfl) dL_law_488 ⟨(by show k0 + 2 + 0 ≤ 601024; omega), (by show n0 + 12 + 0 ≤ 7293034; omega)⟩) rfl hDM hS1 hA (fun _ _ _ _ _ h => False.elim h) (fun r2 M1 H2 locs2 hm2 hP2_ hDx2 hDM1 _ hf2 hS2 => ?_)
  have hO2 := kO_keep hO1 hMO1 hf2
  have hOM2 := kdis_keep hO1 hMO1 hDx2
  have hQ2 := kO_keep hP1 hMS1 hf2
  have hSM2 := kdis_keep hP1 hMS1 hDx2
  have hq := kg_setPickers (n1 := n1) (n2 := n2) (r2 := r2) hI hMI hR hcn hc ho hp hm2
  refine lv_istore (lv' := [(7, .int r2), (6, .int r), (5, .int i), (4, .ref od), (3, .ref o), (2, .ref (w 0)), (1, .ref (z 0)), (0, .ref b)]) hx hb dL_law_491 hl (by decide) rfl (fun ls hl => ?_)
  refine lv_goto (tgt := 1207) hx hb dL_law_493 (by decide) ?_
  refine W.widen (k := k0 + 3) (n := n0 + 27) (by omega) (by omega) ?_
  exact kk _ _ _ _ _ ls ⟨⟨F, hK, hE, hNc, hX, hbl⟩, ⟨hQ2, hP2_, hO2⟩, ⟨hD1, hDM1, hDO1⟩, ⟨hdis1, (kdis_symm hSM2), (kdis_symm hOM2)⟩, hS2, hq.2, hq.1.1, hq.1.2.1⟩ hq.1.2.2 (lv_sub hl [2, 3, 4, 5, 6, 7] rfl)
theorem dL_law_496 : decode cL_law 496 = .ok (.aload_n 1, 1) := by decide +kernel
theorem dL_law_497 : decode cL_law 497 = .ok (.aload_n 0, 1) := by decide +kernel
theorem dL_law_498 : decode cL_law 498 = .ok (.iload 5, 2) := by decide +kernel
theorem dL_law_500 : decode cL_law 500 = .ok (.iconst 1, 1) := by decide +kernel
theorem dL_law_501 : decode cL_law 501 = .ok (.iadd, 1) := by decide +kernel
theorem dL_law_502 : decode cL_law 502 = .ok (.iaload, 1) := by decide +kernel
theorem dL_law_503 : decode cL_law 503 = .ok (.aload_n 0, 1) := by decide +kernel
theorem dL_law_504 : decode cL_law 504 = .ok (.iload 5, 2) := by decide +kernel
theorem dL_law_506 : decode cL_law 506 = .ok (.iconst 2, 1) := by decide +kernel
theorem dL_law_507 : decode cL_law 507 = .ok (.iadd, 1) := by decide +kernel
theorem dL_law_508 : decode cL_law 508 = .ok (.iaload, 1) := by decide +kernel
theorem dL_law_509 : decode cL_law 509 = .ok (.aload_n 0, 1) := by decide +kernel
theorem dL_law_510 : decode cL_law 510 = .ok (.iload 5, 2) := by decide +kernel
theorem dL_law_512 : decode cL_law 512 = .ok (.iconst 3, 1) := by decide +kernel
theorem dL_law_513 : decode cL_law 513 = .ok (.iadd, 1) := by decide +kernel
theorem dL_law_514 : decode cL_law 514 = .ok (.iaload, 1) := by decide +kernel
theorem dL_law_515 : decode cL_law 515 = .ok (.aload_n 3, 1) := by decide +kernel
theorem dL_law_516 : decode cL_law 516 = .ok (.invokestatic 144, 3) := by decide +kernel
theorem dL_law_519 : decode cL_law 519 = .ok (.istore 6, 2) := by decide +kernel
theorem dL_law_521 : decode cL_law 521 = .ok (.aload_n 2, 1) := by decide +kernel
theorem dL_law_522 : decode cL_law 522 = .ok (.aload_n 0, 1) := by decide +kernel
theorem dL_law_523 : decode cL_law 523 = .ok (.iload 5, 2) := by decide +kernel
theorem dL_law_525 : decode cL_law 525 = .ok (.iconst 1, 1) := by decide +kernel
theorem dL_law_526 : decode cL_law 526 = .ok (.iadd, 1) := by decide +kernel
theorem dL_law_527 : decode cL_law 527 = .ok (.iaload, 1) := by decide +kernel
theorem dL_law_528 : decode cL_law 528 = .ok (.aload_n 0, 1) := by decide +kernel
theorem dL_law_529 : decode cL_law 529 = .ok (.iload 5, 2) := by decide +kernel
theorem dL_law_531 : decode cL_law 531 = .ok (.iconst 2, 1) := by decide +kernel
theorem dL_law_532 : decode cL_law 532 = .ok (.iadd, 1) := by decide +kernel
theorem dL_law_533 : decode cL_law 533 = .ok (.iaload, 1) := by decide +kernel
theorem dL_law_534 : decode cL_law 534 = .ok (.aload_n 0, 1) := by decide +kernel
theorem dL_law_535 : decode cL_law 535 = .ok (.iload 5, 2) := by decide +kernel
theorem dL_law_537 : decode cL_law 537 = .ok (.iconst 3, 1) := by decide +kernel
theorem dL_law_538 : decode cL_law 538 = .ok (.iadd, 1) := by decide +kernel
theorem dL_law_539 : decode cL_law 539 = .ok (.iaload, 1) := by decide +kernel
theorem dL_law_540 : decode cL_law 540 = .ok (.invokevirtual 147, 3) := by decide +kernel
theorem dL_law_543 : decode cL_law 543 = .ok (.istore 7, 2) := by decide +kernel
theorem dL_law_545 : decode cL_law 545 = .ok (.goto 662, 3) := by decide +kernel
set_option maxHeartbeats 4000000 in
set_option maxRecDepth 100000 in
theorem kcase_giveBack {p : Program} {l : Launch} {e : Env} {s : State} {m : MethodId} {below : List Frame} {meth : Method} {c : Code} {b L : Nat} {xs : Nat → Int32} {g : kG} {e0 : Nat} {z w : Nat → Nat} {S M O : wPS} {o od : Nat} {H : Heap} {locs : List Loc} {k0 n0 t : Nat} {Q : State → Prop} {ls : Array Slot} {i n1 n2 n3 n4 : Int32} (hl0 : l.stackTraces = false) (C : kLc p s m c b L xs g e0 z w S M O o od H locs) (hi : kIx L xs i n1 n2 n3 n4) (hR : kRel z w t S M) (ht : t < 512) (hk0 : k0 + 3 ≤ 601024) (hn0 : n0 + 27 ≤ 7293034) (hl : lv_has ls 8 [(5, .int i), (4, .ref od), (3, .ref o), (2, .ref (w 0)), (1, .ref (z 0)), (0, .ref b)])
    (kk : ∀ (S1 M1 O1 : wPS) (H1 : Heap) (locs1 : List Loc) (ls1 : Array Slot), kLc p s m c b L xs g e0 z w S1 M1 O1 o od H1 locs1 → kRel z w (t + 1) S1 M1 → lv_has ls1 8 [(5, .int i), (4, .ref od), (3, .ref o), (2, .ref (w 0)), (1, .ref (z 0)), (0, .ref b)] → W p l e room_1 s m #[Value.ref b] below meth c H1 locs1 (k0 + 3) (n0 + 27) Q (F0 m 1207 ls1 [])) :
    W p l e room_1 s m #[Value.ref b] below meth c H locs k0 n0 Q (F0 m 496 ls []) := by
  obtain ⟨⟨F, hK, hE, hNc, hX, hbl⟩, ⟨hP, hM, hO⟩, ⟨hD, hDM, hDO⟩, ⟨hdSO, hdSM, hdOM⟩, hS, ho, hI, hMI⟩ := C
  obtain ⟨⟨i1, i2, i3, i4⟩, v1, v2, v3, v4⟩ := hi
  have hx := F.1
  have hb := F.2.1
  have hbA : ¬ kAs s b := Nat.not_le.mpr hbl
  have hA : ∀ q : Nat, s.heap.size ≤ q → kAs s q := fun _ h => h
  obtain ⟨cn, hcn, hc⟩ := hR.2.2.2.2.2
  refine lv_aload_n hx hb dL_law_496 rfl (lv_at hl 4 rfl) ?_
  refine lv_aload_n hx hb dL_law_497 rfl (lv_at hl 5 rfl) ?_
  refine lv_iload hx hb dL_law_498 (lv_at hl 0 rfl) ?_
  refine lv_iconst (v := 1) hx hb dL_law_500 (by decide) ?_
  refine lv_iadd hx hb dL_law_501 ?_
  refine ksld hx hb hX hbl hbA hS i1 v1 dL_law_502 ?_
  refine lv_aload_n hx hb dL_law_503 rfl (lv_at hl 5 rfl) ?_
  refine lv_iload hx hb dL_law_504 (lv_at hl 0 rfl) ?_
  refine lv_iconst (v := 2) hx hb dL_law_506 (by decide) ?_
  refine lv_iadd hx hb dL_law_507 ?_
  refine ksld hx hb hX hbl hbA hS i2 v2 dL_law_508 ?_
  refine lv_aload_n hx hb dL_law_509 rfl (lv_at hl 5 rfl) ?_
  refine lv_iload hx hb dL_law_510 (lv_at hl 0 rfl) ?_
  refine lv_iconst (v := 3) hx hb dL_law_512 (by decide) ?_
  refine lv_iadd hx hb dL_law_513 ?_
  refine ksld hx hb hX hbl hbA hS i3 v3 dL_law_514 ?_
  refine lv_aload_n hx hb dL_law_515 rfl (lv_at hl 2 rfl) ?_
  refine kcallw (kStw (n := 5) (As := [.ref (z 0), .int n1, .int n2, .int n3, .ref o]) (rest := []) F hE hNc hK hP hO hD hDO hdSO hS hA (kw_giveBack_ l g e0 S O H.size (z 0) o n1 n2 n3 _ _ (hI.ob0) ho.1 ho.2.1 (c_X5_giveBack l hl0 g e0 z S H.size hI n1 n2 n3) (fun E h => by rcases h with ⟨rfl, -⟩ | ⟨rfl | rfl, -⟩ <;> simp)) kw_360 kw_361 kw_87 kw_362 (by decide +kernel) ⟨Nat.le_of_ble_eq_true rfl, Nat.le_of_ble_eq_true rfl⟩ rfl hl.1 rfl (Nat.le_of_ble_eq_true rfl) dL_law_516 ⟨(by show k0 + 2 ≤ 601024; omega), (by show n0 + 12 ≤ 7293034; omega)⟩) rfl hD hDO hS hA (fun r S1 O1 H1 locs1 hp hP1 hO1 hDs1 hDa1 hD1 hDO1 hdis1 _ hf1 hS1 => ?_)
  have hM1 := kM_keep hM hdSM hdOM hf1
  have hMO1 := kdis_symm (kdis_keepM hM hdSM hdOM hDa1)
  have hMS1 := kdis_symm (kdis_keepM hM hdSM hdOM hDs1)
  refine lv_istore (lv' := [(6, .int r), (5, .int i), (4, .ref od), (3, .ref o), (2, .ref (w 0)), (1, .ref (z 0)), (0, .ref b)]) hx hb dL_law_519 hl (by decide) rfl (fun ls hl => ?_)
  refine lv_aload_n hx hb dL_law_521 rfl (lv_at hl 4 rfl) ?_
  refine lv_aload_n hx hb dL_law_522 rfl (lv_at hl 6 rfl) ?_
  refine lv_iload hx hb dL_law_523 (lv_at hl 1 rfl) ?_
  refine lv_iconst (v := 1) hx hb dL_law_525 (by decide) ?_
  refine lv_iadd hx hb dL_law_526 ?_
  refine ksld hx hb hX hbl hbA hS1 i1 v1 dL_law_527 ?_
  refine lv_aload_n hx hb dL_law_528 rfl (lv_at hl 6 rfl) ?_
  refine lv_iload hx hb dL_law_529 (lv_at hl 1 rfl) ?_
  refine lv_iconst (v := 2) hx hb dL_law_531 (by decide) ?_
  refine lv_iadd hx hb dL_law_532 ?_
  refine ksld hx hb hX hbl hbA hS1 i2 v2 dL_law_533 ?_
  refine lv_aload_n hx hb dL_law_534 rfl (lv_at hl 6 rfl) ?_
  refine lv_iload hx hb dL_law_535 (lv_at hl 1 rfl) ?_
  refine lv_iconst (v := 3) hx hb dL_law_537 (by decide) ?_
  refine lv_iadd hx hb dL_law_538 ?_
  refine ksld hx hb hX hbl hbA hS1 i3 v3 dL_law_539 ?_
  refine kcallWI (kV (n := 3) (As := [.int n1, .int n2, .int n3]) (rest := []) (b := (w 0)) (C := RX6) F hE hK hM1 hDM hS1 hA (c_X6_giveBack l hl0 g e0 w M H1.size hMI n1 n2 n3) (rr_Model hK hM1 (hMI.ob (i := 0) (by decide))) kw_379 kw_380 kw_381 kw_5 kw_382 (by decide +kernel) ⟨Nat.le_of_ble_eq_true rfl, Nat.le_of_ble_eq_true rfl⟩ rfl hl.1 rfl (Nat.le_of_ble_eq_true rfl) dL_law_540 ⟨(by show k0 + 2 + 0 ≤ 601024; omega), (by show n0 + 12 + 0 ≤ 7293034; omega)⟩) rfl hDM hS1 hA (fun _ _ _ _ _ h => False.elim h) (fun r2 M1 H2 locs2 hm2 hP2_ hDx2 hDM1 _ hf2 hS2 => ?_)
  have hO2 := kO_keep hO1 hMO1 hf2
  have hOM2 := kdis_keep hO1 hMO1 hDx2
  have hQ2 := kO_keep hP1 hMS1 hf2
  have hSM2 := kdis_keep hP1 hMS1 hDx2
  have hq := kg_giveBack (n1 := n1) (n2 := n2) (n3 := n3) hI hMI hR hcn hc ho hp hm2
  refine lv_istore (lv' := [(7, .int r2), (6, .int r), (5, .int i), (4, .ref od), (3, .ref o), (2, .ref (w 0)), (1, .ref (z 0)), (0, .ref b)]) hx hb dL_law_543 hl (by decide) rfl (fun ls hl => ?_)
  refine lv_goto (tgt := 1207) hx hb dL_law_545 (by decide) ?_
  refine W.widen (k := k0 + 3) (n := n0 + 27) (by omega) (by omega) ?_
  exact kk _ _ _ _ _ ls ⟨⟨F, hK, hE, hNc, hX, hbl⟩, ⟨hQ2, hP2_, hO2⟩, ⟨hD1, hDM1, hDO1⟩, ⟨hdis1, (kdis_symm hSM2), (kdis_symm hOM2)⟩, hS2, hq.2, hq.1.1, hq.1.2.1⟩ hq.1.2.2 (lv_sub hl [2, 3, 4, 5, 6, 7] rfl)
theorem dL_law_548 : decode cL_law 548 = .ok (.aload_n 1, 1) := by decide +kernel
theorem dL_law_549 : decode cL_law 549 = .ok (.invokevirtual 148, 3) := by decide +kernel
theorem dL_law_552 : decode cL_law 552 = .ok (.pop, 1) := by decide +kernel
theorem dL_law_553 : decode cL_law 553 = .ok (.aload_n 2, 1) := by decide +kernel
theorem dL_law_554 : decode cL_law 554 = .ok (.invokevirtual 152, 3) := by decide +kernel
theorem dL_law_557 : decode cL_law 557 = .ok (.pop, 1) := by decide +kernel
theorem dL_law_558 : decode cL_law 558 = .ok (.goto 649, 3) := by decide +kernel
set_option maxHeartbeats 4000000 in
set_option maxRecDepth 100000 in
theorem kcase_writtenOff {p : Program} {l : Launch} {e : Env} {s : State} {m : MethodId} {below : List Frame} {meth : Method} {c : Code} {b L : Nat} {xs : Nat → Int32} {g : kG} {e0 : Nat} {z w : Nat → Nat} {S M O : wPS} {o od : Nat} {H : Heap} {locs : List Loc} {k0 n0 t : Nat} {Q : State → Prop} {ls : Array Slot} {i n1 n2 n3 n4 : Int32} (hl0 : l.stackTraces = false) (C : kLc p s m c b L xs g e0 z w S M O o od H locs) (hi : kIx L xs i n1 n2 n3 n4) (hR : kRel z w t S M) (ht : t < 512) (hk0 : k0 + 3 ≤ 601024) (hn0 : n0 + 27 ≤ 7293034) (hl : lv_has ls 8 [(5, .int i), (4, .ref od), (3, .ref o), (2, .ref (w 0)), (1, .ref (z 0)), (0, .ref b)])
    (kk : ∀ (S1 M1 O1 : wPS) (H1 : Heap) (locs1 : List Loc) (ls1 : Array Slot), kLc p s m c b L xs g e0 z w S1 M1 O1 o od H1 locs1 → kRel z w (t + 1) S1 M1 → lv_has ls1 8 [(5, .int i), (4, .ref od), (3, .ref o), (2, .ref (w 0)), (1, .ref (z 0)), (0, .ref b)] → W p l e room_1 s m #[Value.ref b] below meth c H1 locs1 (k0 + 3) (n0 + 27) Q (F0 m 1207 ls1 [])) :
    W p l e room_1 s m #[Value.ref b] below meth c H locs k0 n0 Q (F0 m 548 ls []) := by
  obtain ⟨⟨F, hK, hE, hNc, hX, hbl⟩, ⟨hP, hM, hO⟩, ⟨hD, hDM, hDO⟩, ⟨hdSO, hdSM, hdOM⟩, hS, ho, hI, hMI⟩ := C
  obtain ⟨⟨i1, i2, i3, i4⟩, v1, v2, v3, v4⟩ := hi
  have hx := F.1
  have hb := F.2.1
  have hbA : ¬ kAs s b := Nat.not_le.mpr hbl
  have hA : ∀ q : Nat, s.heap.size ≤ q → kAs s q := fun _ h => h
  obtain ⟨cn, hcn, hc⟩ := hR.2.2.2.2.2
  refine lv_aload_n hx hb dL_law_548 rfl (lv_at hl 4 rfl) ?_
  refine kcallWI (kV (n := 0) (As := []) (rest := []) (b := (z 0)) (C := RX5) F hE hK hP hD hS hA (c_X5_writtenOff l hl0 g e0 z S H.size hI) (rr_Pickwave hK hP hI.ob0) kw_388 kw_389 kw_390 kw_2 kw_391 (by decide +kernel) ⟨Nat.le_of_ble_eq_true rfl, Nat.le_of_ble_eq_true rfl⟩ rfl hl.1 rfl (Nat.le_of_ble_eq_true rfl) dL_law_549 ⟨(by show k0 + 0 ≤ 601024; omega), (by show n0 + 0 ≤ 7293034; omega)⟩) rfl hD hS hA (fun _ _ _ _ _ h => False.elim h) (fun r2 S1 H2 locs2 hp hP2_ hDx2 hD1 _ hf2 hS2 => ?_)
  have hM2 := kO_keep hM hdSM hf2
  have hO2 := kO_keep hO hdSO hf2
  have hMS1 := kdis_symm (kdis_keep hM hdSM hDx2)
  have hdis1 := kdis_keep hO hdSO hDx2
  refine lv_pop hx hb dL_law_552 rfl ?_
  refine lv_aload_n hx hb dL_law_553 rfl (lv_at hl 3 rfl) ?_
  refine kcallWI (kV (n := 0) (As := []) (rest := []) (b := (w 0)) (C := RX6) F hE hK hM2 hDM hS2 hA (c_X6_writtenOff l hl0 g e0 w M H2.size hMI) (rr_Model hK hM2 (hMI.ob (i := 0) (by decide))) kw_392 kw_393 kw_394 kw_5 kw_395 (by decide +kernel) ⟨Nat.le_of_ble_eq_true rfl, Nat.le_of_ble_eq_true rfl⟩ rfl hl.1 rfl (Nat.le_of_ble_eq_true rfl) dL_law_554 ⟨(by show k0 + 0 + 0 ≤ 601024; omega), (by show n0 + 0 + 0 ≤ 7293034; omega)⟩) rfl hDM hS2 hA (fun _ _ _ _ _ h => False.elim h) (fun r3 M1 H3 locs3 hm3 hP3_ hDx3 hDM1 _ hf3 hS3 => ?_)
  have hO3 := kO_keep hO2 (kdis_symm hdOM) hf3
  have hOM3 := kdis_keep hO2 (kdis_symm hdOM) hDx3
  have hQ3 := kO_keep hP2_ hMS1 hf3
  have hSM3 := kdis_keep hP2_ hMS1 hDx3
  have hq := kg_writtenOff (r2 := r3) hI hMI hR hcn hc hp hm3
  refine lv_pop hx hb dL_law_557 rfl ?_
  refine lv_goto (tgt := 1207) hx hb dL_law_558 (by decide) ?_
  refine W.widen (k := k0 + 3) (n := n0 + 27) (by omega) (by omega) ?_
  exact kk _ _ _ _ _ ls ⟨⟨F, hK, hE, hNc, hX, hbl⟩, ⟨hQ3, hP3_, hO3⟩, ⟨hD1, hDM1, hDO⟩, ⟨hdis1, (kdis_symm hSM3), (kdis_symm hOM3)⟩, hS3, ho, hq.1, hq.2.1⟩ hq.2.2 (lv_sub hl [0, 1, 2, 3, 4, 5] rfl)
theorem dL_law_561 : decode cL_law 561 = .ok (.aload_n 1, 1) := by decide +kernel
theorem dL_law_562 : decode cL_law 562 = .ok (.aload_n 0, 1) := by decide +kernel
theorem dL_law_563 : decode cL_law 563 = .ok (.iload 5, 2) := by decide +kernel
theorem dL_law_565 : decode cL_law 565 = .ok (.iconst 1, 1) := by decide +kernel
theorem dL_law_566 : decode cL_law 566 = .ok (.iadd, 1) := by decide +kernel
theorem dL_law_567 : decode cL_law 567 = .ok (.iaload, 1) := by decide +kernel
theorem dL_law_568 : decode cL_law 568 = .ok (.aload_n 0, 1) := by decide +kernel
theorem dL_law_569 : decode cL_law 569 = .ok (.iload 5, 2) := by decide +kernel
theorem dL_law_571 : decode cL_law 571 = .ok (.iconst 2, 1) := by decide +kernel
theorem dL_law_572 : decode cL_law 572 = .ok (.iadd, 1) := by decide +kernel
theorem dL_law_573 : decode cL_law 573 = .ok (.iaload, 1) := by decide +kernel
theorem dL_law_574 : decode cL_law 574 = .ok (.aload_n 0, 1) := by decide +kernel
theorem dL_law_575 : decode cL_law 575 = .ok (.iload 5, 2) := by decide +kernel
theorem dL_law_577 : decode cL_law 577 = .ok (.iconst 3, 1) := by decide +kernel
theorem dL_law_578 : decode cL_law 578 = .ok (.iadd, 1) := by decide +kernel
theorem dL_law_579 : decode cL_law 579 = .ok (.iaload, 1) := by decide +kernel
theorem dL_law_580 : decode cL_law 580 = .ok (.aload_n 3, 1) := by decide +kernel
theorem dL_law_581 : decode cL_law 581 = .ok (.invokestatic 153, 3) := by decide +kernel
theorem dL_law_584 : decode cL_law 584 = .ok (.istore 6, 2) := by decide +kernel
theorem dL_law_586 : decode cL_law 586 = .ok (.aload_n 2, 1) := by decide +kernel
theorem dL_law_587 : decode cL_law 587 = .ok (.aload_n 0, 1) := by decide +kernel
theorem dL_law_588 : decode cL_law 588 = .ok (.iload 5, 2) := by decide +kernel
theorem dL_law_590 : decode cL_law 590 = .ok (.iconst 1, 1) := by decide +kernel
theorem dL_law_591 : decode cL_law 591 = .ok (.iadd, 1) := by decide +kernel
theorem dL_law_592 : decode cL_law 592 = .ok (.iaload, 1) := by decide +kernel
theorem dL_law_593 : decode cL_law 593 = .ok (.aload_n 0, 1) := by decide +kernel
theorem dL_law_594 : decode cL_law 594 = .ok (.iload 5, 2) := by decide +kernel
theorem dL_law_596 : decode cL_law 596 = .ok (.iconst 2, 1) := by decide +kernel
theorem dL_law_597 : decode cL_law 597 = .ok (.iadd, 1) := by decide +kernel
theorem dL_law_598 : decode cL_law 598 = .ok (.iaload, 1) := by decide +kernel
theorem dL_law_599 : decode cL_law 599 = .ok (.aload_n 0, 1) := by decide +kernel
theorem dL_law_600 : decode cL_law 600 = .ok (.iload 5, 2) := by decide +kernel
theorem dL_law_602 : decode cL_law 602 = .ok (.iconst 3, 1) := by decide +kernel
theorem dL_law_603 : decode cL_law 603 = .ok (.iadd, 1) := by decide +kernel
theorem dL_law_604 : decode cL_law 604 = .ok (.iaload, 1) := by decide +kernel
theorem dL_law_605 : decode cL_law 605 = .ok (.invokevirtual 155, 3) := by decide +kernel
theorem dL_law_608 : decode cL_law 608 = .ok (.istore 7, 2) := by decide +kernel
theorem dL_law_610 : decode cL_law 610 = .ok (.goto 597, 3) := by decide +kernel
set_option maxHeartbeats 4000000 in
set_option maxRecDepth 100000 in
theorem kcase_order {p : Program} {l : Launch} {e : Env} {s : State} {m : MethodId} {below : List Frame} {meth : Method} {c : Code} {b L : Nat} {xs : Nat → Int32} {g : kG} {e0 : Nat} {z w : Nat → Nat} {S M O : wPS} {o od : Nat} {H : Heap} {locs : List Loc} {k0 n0 t : Nat} {Q : State → Prop} {ls : Array Slot} {i n1 n2 n3 n4 : Int32} (hl0 : l.stackTraces = false) (C : kLc p s m c b L xs g e0 z w S M O o od H locs) (hi : kIx L xs i n1 n2 n3 n4) (hR : kRel z w t S M) (ht : t < 512) (hk0 : k0 + 3 ≤ 601024) (hn0 : n0 + 27 ≤ 7293034) (hl : lv_has ls 8 [(5, .int i), (4, .ref od), (3, .ref o), (2, .ref (w 0)), (1, .ref (z 0)), (0, .ref b)])
    (kk : ∀ (S1 M1 O1 : wPS) (H1 : Heap) (locs1 : List Loc) (ls1 : Array Slot), kLc p s m c b L xs g e0 z w S1 M1 O1 o od H1 locs1 → kRel z w (t + 1) S1 M1 → lv_has ls1 8 [(5, .int i), (4, .ref od), (3, .ref o), (2, .ref (w 0)), (1, .ref (z 0)), (0, .ref b)] → W p l e room_1 s m #[Value.ref b] below meth c H1 locs1 (k0 + 3) (n0 + 27) Q (F0 m 1207 ls1 [])) :
    W p l e room_1 s m #[Value.ref b] below meth c H locs k0 n0 Q (F0 m 561 ls []) := by
  obtain ⟨⟨F, hK, hE, hNc, hX, hbl⟩, ⟨hP, hM, hO⟩, ⟨hD, hDM, hDO⟩, ⟨hdSO, hdSM, hdOM⟩, hS, ho, hI, hMI⟩ := C
  obtain ⟨⟨i1, i2, i3, i4⟩, v1, v2, v3, v4⟩ := hi
  have hx := F.1
  have hb := F.2.1
  have hbA : ¬ kAs s b := Nat.not_le.mpr hbl
  have hA : ∀ q : Nat, s.heap.size ≤ q → kAs s q := fun _ h => h
  obtain ⟨cn, hcn, hc⟩ := hR.2.2.2.2.2
  refine lv_aload_n hx hb dL_law_561 rfl (lv_at hl 4 rfl) ?_
  refine lv_aload_n hx hb dL_law_562 rfl (lv_at hl 5 rfl) ?_
  refine lv_iload hx hb dL_law_563 (lv_at hl 0 rfl) ?_
  refine lv_iconst (v := 1) hx hb dL_law_565 (by decide) ?_
  refine lv_iadd hx hb dL_law_566 ?_
  refine ksld hx hb hX hbl hbA hS i1 v1 dL_law_567 ?_
  refine lv_aload_n hx hb dL_law_568 rfl (lv_at hl 5 rfl) ?_
  refine lv_iload hx hb dL_law_569 (lv_at hl 0 rfl) ?_
  refine lv_iconst (v := 2) hx hb dL_law_571 (by decide) ?_
  refine lv_iadd hx hb dL_law_572 ?_
  refine ksld hx hb hX hbl hbA hS i2 v2 dL_law_573 ?_
  refine lv_aload_n hx hb dL_law_574 rfl (lv_at hl 5 rfl) ?_
  refine lv_iload hx hb dL_law_575 (lv_at hl 0 rfl) ?_
  refine lv_iconst (v := 3) hx hb dL_law_577 (by decide) ?_
  refine lv_iadd hx hb dL_law_578 ?_
  refine ksld hx hb hX hbl hbA hS i3 v3 dL_law_579 ?_
  refine lv_aload_n hx hb dL_law_580 rfl (lv_at hl 2 rfl) ?_
  refine kcallw (kStw (n := 5) (As := [.ref (z 0), .int n1, .int n2, .int n3, .ref o]) (rest := []) F hE hNc hK hP hO hD hDO hdSO hS hA (kw_order_ l g e0 S O H.size (z 0) o n1 n2 n3 _ _ (hI.ob0) ho.1 ho.2.1 (c_X5_order l hl0 g e0 z S H.size hI n1 n2 n3) (fun E h => by rcases h with ⟨rfl, -⟩ | ⟨rfl | rfl, -⟩ <;> simp)) kw_396 kw_397 kw_87 kw_398 (by decide +kernel) ⟨Nat.le_of_ble_eq_true rfl, Nat.le_of_ble_eq_true rfl⟩ rfl hl.1 rfl (Nat.le_of_ble_eq_true rfl) dL_law_581 ⟨(by show k0 + 3 ≤ 601024; omega), (by show n0 + 27 ≤ 7293034; omega)⟩) rfl hD hDO hS hA (fun r S1 O1 H1 locs1 hp hP1 hO1 hDs1 hDa1 hD1 hDO1 hdis1 _ hf1 hS1 => ?_)
  have hM1 := kM_keep hM hdSM hdOM hf1
  have hMO1 := kdis_symm (kdis_keepM hM hdSM hdOM hDa1)
  have hMS1 := kdis_symm (kdis_keepM hM hdSM hdOM hDs1)
  refine lv_istore (lv' := [(6, .int r), (5, .int i), (4, .ref od), (3, .ref o), (2, .ref (w 0)), (1, .ref (z 0)), (0, .ref b)]) hx hb dL_law_584 hl (by decide) rfl (fun ls hl => ?_)
  refine lv_aload_n hx hb dL_law_586 rfl (lv_at hl 4 rfl) ?_
  refine lv_aload_n hx hb dL_law_587 rfl (lv_at hl 6 rfl) ?_
  refine lv_iload hx hb dL_law_588 (lv_at hl 1 rfl) ?_
  refine lv_iconst (v := 1) hx hb dL_law_590 (by decide) ?_
  refine lv_iadd hx hb dL_law_591 ?_
  refine ksld hx hb hX hbl hbA hS1 i1 v1 dL_law_592 ?_
  refine lv_aload_n hx hb dL_law_593 rfl (lv_at hl 6 rfl) ?_
  refine lv_iload hx hb dL_law_594 (lv_at hl 1 rfl) ?_
  refine lv_iconst (v := 2) hx hb dL_law_596 (by decide) ?_
  refine lv_iadd hx hb dL_law_597 ?_
  refine ksld hx hb hX hbl hbA hS1 i2 v2 dL_law_598 ?_
  refine lv_aload_n hx hb dL_law_599 rfl (lv_at hl 6 rfl) ?_
  refine lv_iload hx hb dL_law_600 (lv_at hl 1 rfl) ?_
  refine lv_iconst (v := 3) hx hb dL_law_602 (by decide) ?_
  refine lv_iadd hx hb dL_law_603 ?_
  refine ksld hx hb hX hbl hbA hS1 i3 v3 dL_law_604 ?_
  refine kcallWI (kV (n := 3) (As := [.int n1, .int n2, .int n3]) (rest := []) (b := (w 0)) (C := RX6) F hE hK hM1 hDM hS1 hA (c_X6_order l hl0 g e0 w M H1.size hMI n1 n2 n3 cn hc (by omega)) (rr_Model hK hM1 (hMI.ob (i := 0) (by decide))) kw_424 kw_425 kw_426 kw_5 kw_427 (by decide +kernel) ⟨Nat.le_of_ble_eq_true rfl, Nat.le_of_ble_eq_true rfl⟩ rfl hl.1 rfl (Nat.le_of_ble_eq_true rfl) dL_law_605 ⟨(by show k0 + 3 + 0 ≤ 601024; omega), (by show n0 + 27 + 0 ≤ 7293034; omega)⟩) rfl hDM hS1 hA (fun _ _ _ _ _ h => False.elim h) (fun r2 M1 H2 locs2 hm2 hP2_ hDx2 hDM1 _ hf2 hS2 => ?_)
  have hO2 := kO_keep hO1 hMO1 hf2
  have hOM2 := kdis_keep hO1 hMO1 hDx2
  have hQ2 := kO_keep hP1 hMS1 hf2
  have hSM2 := kdis_keep hP1 hMS1 hDx2
  have hq := kg_order (n1 := n1) (n2 := n2) (n3 := n3) hI hMI hR hcn hc ho hp hm2
  refine lv_istore (lv' := [(7, .int r2), (6, .int r), (5, .int i), (4, .ref od), (3, .ref o), (2, .ref (w 0)), (1, .ref (z 0)), (0, .ref b)]) hx hb dL_law_608 hl (by decide) rfl (fun ls hl => ?_)
  refine lv_goto (tgt := 1207) hx hb dL_law_610 (by decide) ?_
  refine W.widen (k := k0 + 3) (n := n0 + 27) (by omega) (by omega) ?_
  exact kk _ _ _ _ _ ls ⟨⟨F, hK, hE, hNc, hX, hbl⟩, ⟨hQ2, hP2_, hO2⟩, ⟨hD1, hDM1, hDO1⟩, ⟨hdis1, (kdis_symm hSM2), (kdis_symm hOM2)⟩, hS2, hq.2, hq.1.1, hq.1.2.1⟩ hq.1.2.2 (lv_sub hl [2, 3, 4, 5, 6, 7] rfl)
theorem dL_law_613 : decode cL_law 613 = .ok (.aload_n 1, 1) := by decide +kernel
theorem dL_law_614 : decode cL_law 614 = .ok (.aload_n 0, 1) := by decide +kernel
theorem dL_law_615 : decode cL_law 615 = .ok (.iload 5, 2) := by decide +kernel
theorem dL_law_617 : decode cL_law 617 = .ok (.iconst 1, 1) := by decide +kernel
theorem dL_law_618 : decode cL_law 618 = .ok (.iadd, 1) := by decide +kernel
theorem dL_law_619 : decode cL_law 619 = .ok (.iaload, 1) := by decide +kernel
theorem dL_law_620 : decode cL_law 620 = .ok (.aload_n 3, 1) := by decide +kernel
theorem dL_law_621 : decode cL_law 621 = .ok (.invokestatic 156, 3) := by decide +kernel
theorem dL_law_624 : decode cL_law 624 = .ok (.istore 6, 2) := by decide +kernel
theorem dL_law_626 : decode cL_law 626 = .ok (.aload_n 2, 1) := by decide +kernel
theorem dL_law_627 : decode cL_law 627 = .ok (.aload_n 0, 1) := by decide +kernel
theorem dL_law_628 : decode cL_law 628 = .ok (.iload 5, 2) := by decide +kernel
theorem dL_law_630 : decode cL_law 630 = .ok (.iconst 1, 1) := by decide +kernel
theorem dL_law_631 : decode cL_law 631 = .ok (.iadd, 1) := by decide +kernel
theorem dL_law_632 : decode cL_law 632 = .ok (.iaload, 1) := by decide +kernel
theorem dL_law_633 : decode cL_law 633 = .ok (.invokevirtual 158, 3) := by decide +kernel
theorem dL_law_636 : decode cL_law 636 = .ok (.istore 7, 2) := by decide +kernel
theorem dL_law_638 : decode cL_law 638 = .ok (.goto 569, 3) := by decide +kernel
set_option maxHeartbeats 4000000 in
set_option maxRecDepth 100000 in
theorem kcase_drop {p : Program} {l : Launch} {e : Env} {s : State} {m : MethodId} {below : List Frame} {meth : Method} {c : Code} {b L : Nat} {xs : Nat → Int32} {g : kG} {e0 : Nat} {z w : Nat → Nat} {S M O : wPS} {o od : Nat} {H : Heap} {locs : List Loc} {k0 n0 t : Nat} {Q : State → Prop} {ls : Array Slot} {i n1 n2 n3 n4 : Int32} (hl0 : l.stackTraces = false) (C : kLc p s m c b L xs g e0 z w S M O o od H locs) (hi : kIx L xs i n1 n2 n3 n4) (hR : kRel z w t S M) (ht : t < 512) (hk0 : k0 + 3 ≤ 601024) (hn0 : n0 + 27 ≤ 7293034) (hl : lv_has ls 8 [(5, .int i), (4, .ref od), (3, .ref o), (2, .ref (w 0)), (1, .ref (z 0)), (0, .ref b)])
    (kk : ∀ (S1 M1 O1 : wPS) (H1 : Heap) (locs1 : List Loc) (ls1 : Array Slot), kLc p s m c b L xs g e0 z w S1 M1 O1 o od H1 locs1 → kRel z w (t + 1) S1 M1 → lv_has ls1 8 [(5, .int i), (4, .ref od), (3, .ref o), (2, .ref (w 0)), (1, .ref (z 0)), (0, .ref b)] → W p l e room_1 s m #[Value.ref b] below meth c H1 locs1 (k0 + 3) (n0 + 27) Q (F0 m 1207 ls1 [])) :
    W p l e room_1 s m #[Value.ref b] below meth c H locs k0 n0 Q (F0 m 613 ls []) := by
  obtain ⟨⟨F, hK, hE, hNc, hX, hbl⟩, ⟨hP, hM, hO⟩, ⟨hD, hDM, hDO⟩, ⟨hdSO, hdSM, hdOM⟩, hS, ho, hI, hMI⟩ := C
  obtain ⟨⟨i1, i2, i3, i4⟩, v1, v2, v3, v4⟩ := hi
  have hx := F.1
  have hb := F.2.1
  have hbA : ¬ kAs s b := Nat.not_le.mpr hbl
  have hA : ∀ q : Nat, s.heap.size ≤ q → kAs s q := fun _ h => h
  obtain ⟨cn, hcn, hc⟩ := hR.2.2.2.2.2
  refine lv_aload_n hx hb dL_law_613 rfl (lv_at hl 4 rfl) ?_
  refine lv_aload_n hx hb dL_law_614 rfl (lv_at hl 5 rfl) ?_
  refine lv_iload hx hb dL_law_615 (lv_at hl 0 rfl) ?_
  refine lv_iconst (v := 1) hx hb dL_law_617 (by decide) ?_
  refine lv_iadd hx hb dL_law_618 ?_
  refine ksld hx hb hX hbl hbA hS i1 v1 dL_law_619 ?_
  refine lv_aload_n hx hb dL_law_620 rfl (lv_at hl 2 rfl) ?_
  refine kcallw (kStw (n := 3) (As := [.ref (z 0), .int n1, .ref o]) (rest := []) F hE hNc hK hP hO hD hDO hdSO hS hA (kw_drop_ l g e0 S O H.size (z 0) o n1 _ _ (hI.ob0) ho.1 ho.2.1 (c_X5_drop l hl0 g e0 z S H.size hI n1) (fun E h => by rcases h with ⟨rfl, -⟩ | ⟨rfl, -⟩ <;> simp)) kw_432 kw_433 kw_87 kw_434 (by decide +kernel) ⟨Nat.le_of_ble_eq_true rfl, Nat.le_of_ble_eq_true rfl⟩ rfl hl.1 rfl (Nat.le_of_ble_eq_true rfl) dL_law_621 ⟨(by show k0 + 2 ≤ 601024; omega), (by show n0 + 12 ≤ 7293034; omega)⟩) rfl hD hDO hS hA (fun r S1 O1 H1 locs1 hp hP1 hO1 hDs1 hDa1 hD1 hDO1 hdis1 _ hf1 hS1 => ?_)
  have hM1 := kM_keep hM hdSM hdOM hf1
  have hMO1 := kdis_symm (kdis_keepM hM hdSM hdOM hDa1)
  have hMS1 := kdis_symm (kdis_keepM hM hdSM hdOM hDs1)
  refine lv_istore (lv' := [(6, .int r), (5, .int i), (4, .ref od), (3, .ref o), (2, .ref (w 0)), (1, .ref (z 0)), (0, .ref b)]) hx hb dL_law_624 hl (by decide) rfl (fun ls hl => ?_)
  refine lv_aload_n hx hb dL_law_626 rfl (lv_at hl 4 rfl) ?_
  refine lv_aload_n hx hb dL_law_627 rfl (lv_at hl 6 rfl) ?_
  refine lv_iload hx hb dL_law_628 (lv_at hl 1 rfl) ?_
  refine lv_iconst (v := 1) hx hb dL_law_630 (by decide) ?_
  refine lv_iadd hx hb dL_law_631 ?_
  refine ksld hx hb hX hbl hbA hS1 i1 v1 dL_law_632 ?_
  refine kcallWI (kV (n := 1) (As := [.int n1]) (rest := []) (b := (w 0)) (C := RX6) F hE hK hM1 hDM hS1 hA (c_X6_drop l hl0 g e0 w M H1.size hMI n1 cn hc (by omega)) (rr_Model hK hM1 (hMI.ob (i := 0) (by decide))) kw_443 kw_444 kw_445 kw_5 kw_446 (by decide +kernel) ⟨Nat.le_of_ble_eq_true rfl, Nat.le_of_ble_eq_true rfl⟩ rfl hl.1 rfl (Nat.le_of_ble_eq_true rfl) dL_law_633 ⟨(by show k0 + 2 + 0 ≤ 601024; omega), (by show n0 + 12 + 0 ≤ 7293034; omega)⟩) rfl hDM hS1 hA (fun _ _ _ _ _ h => False.elim h) (fun r2 M1 H2 locs2 hm2 hP2_ hDx2 hDM1 _ hf2 hS2 => ?_)
  have hO2 := kO_keep hO1 hMO1 hf2
  have hOM2 := kdis_keep hO1 hMO1 hDx2
  have hQ2 := kO_keep hP1 hMS1 hf2
  have hSM2 := kdis_keep hP1 hMS1 hDx2
  have hq := kg_drop (n1 := n1) hI hMI hR hcn hc ho hp hm2
  refine lv_istore (lv' := [(7, .int r2), (6, .int r), (5, .int i), (4, .ref od), (3, .ref o), (2, .ref (w 0)), (1, .ref (z 0)), (0, .ref b)]) hx hb dL_law_636 hl (by decide) rfl (fun ls hl => ?_)
  refine lv_goto (tgt := 1207) hx hb dL_law_638 (by decide) ?_
  refine W.widen (k := k0 + 3) (n := n0 + 27) (by omega) (by omega) ?_
  exact kk _ _ _ _ _ ls ⟨⟨F, hK, hE, hNc, hX, hbl⟩, ⟨hQ2, hP2_, hO2⟩, ⟨hD1, hDM1, hDO1⟩, ⟨hdis1, (kdis_symm hSM2), (kdis_symm hOM2)⟩, hS2, hq.2, hq.1.1, hq.1.2.1⟩ hq.1.2.2 (lv_sub hl [2, 3, 4, 5, 6, 7] rfl)
