theorem dL_law_641 : decode cL_law 641 = .ok (.aload_n 1, 1) := by decide +kernel
theorem dL_law_642 : decode cL_law 642 = .ok (.aload_n 0, 1) := by decide +kernel
theorem dL_law_643 : decode cL_law 643 = .ok (.iload 5, 2) := by decide +kernel
theorem dL_law_645 : decode cL_law 645 = .ok (.iconst 1, 1) := by decide +kernel
theorem dL_law_646 : decode cL_law 646 = .ok (.iadd, 1) := by decide +kernel
theorem dL_law_647 : decode cL_law 647 = .ok (.iaload, 1) := by decide +kernel
theorem dL_law_648 : decode cL_law 648 = .ok (.aload_n 3, 1) := by decide +kernel
theorem dL_law_649 : decode cL_law 649 = .ok (.invokestatic 159, 3) := by decide +kernel
theorem dL_law_652 : decode cL_law 652 = .ok (.istore 6, 2) := by decide +kernel
theorem dL_law_654 : decode cL_law 654 = .ok (.aload_n 2, 1) := by decide +kernel
theorem dL_law_655 : decode cL_law 655 = .ok (.aload_n 0, 1) := by decide +kernel
theorem dL_law_656 : decode cL_law 656 = .ok (.iload 5, 2) := by decide +kernel
theorem dL_law_658 : decode cL_law 658 = .ok (.iconst 1, 1) := by decide +kernel
theorem dL_law_659 : decode cL_law 659 = .ok (.iadd, 1) := by decide +kernel
theorem dL_law_660 : decode cL_law 660 = .ok (.iaload, 1) := by decide +kernel
theorem dL_law_661 : decode cL_law 661 = .ok (.invokevirtual 161, 3) := by decide +kernel
theorem dL_law_664 : decode cL_law 664 = .ok (.istore 7, 2) := by decide +kernel
theorem dL_law_666 : decode cL_law 666 = .ok (.goto 541, 3) := by decide +kernel
set_option maxHeartbeats 4000000 in
set_option maxRecDepth 100000 in
theorem kcase_state {p : Program} {l : Launch} {e : Env} {s : State} {m : MethodId} {below : List Frame} {meth : Method} {c : Code} {b L : Nat} {xs : Nat → Int32} {g : kG} {e0 : Nat} {z w : Nat → Nat} {S M O : wPS} {o od : Nat} {H : Heap} {locs : List Loc} {k0 n0 t : Nat} {Q : State → Prop} {ls : Array Slot} {i n1 n2 n3 n4 : Int32} (hl0 : l.stackTraces = false) (C : kLc p s m c b L xs g e0 z w S M O o od H locs) (hi : kIx L xs i n1 n2 n3 n4) (hR : kRel z w t S M) (ht : t < 512) (hk0 : k0 + 3 ≤ 601024) (hn0 : n0 + 27 ≤ 7293034) (hl : lv_has ls 8 [(5, .int i), (4, .ref od), (3, .ref o), (2, .ref (w 0)), (1, .ref (z 0)), (0, .ref b)])
    (kk : ∀ (S1 M1 O1 : wPS) (H1 : Heap) (locs1 : List Loc) (ls1 : Array Slot), kLc p s m c b L xs g e0 z w S1 M1 O1 o od H1 locs1 → kRel z w (t + 1) S1 M1 → lv_has ls1 8 [(5, .int i), (4, .ref od), (3, .ref o), (2, .ref (w 0)), (1, .ref (z 0)), (0, .ref b)] → W p l e room_1 s m #[Value.ref b] below meth c H1 locs1 (k0 + 3) (n0 + 27) Q (F0 m 1207 ls1 [])) :
    W p l e room_1 s m #[Value.ref b] below meth c H locs k0 n0 Q (F0 m 641 ls []) := by
  obtain ⟨⟨F, hK, hE, hNc, hX, hbl⟩, ⟨hP, hM, hO⟩, ⟨hD, hDM, hDO⟩, ⟨hdSO, hdSM, hdOM⟩, hS, ho, hI, hMI⟩ := C
  obtain ⟨⟨i1, i2, i3, i4⟩, v1, v2, v3, v4⟩ := hi
  have hx := F.1
  have hb := F.2.1
  have hbA : ¬ kAs s b := Nat.not_le.mpr hbl
  have hA : ∀ q : Nat, s.heap.size ≤ q → kAs s q := fun _ h => h
  obtain ⟨cn, hcn, hc⟩ := hR.2.2.2.2.2
  refine lv_aload_n hx hb dL_law_641 rfl (lv_at hl 4 rfl) ?_
  refine lv_aload_n hx hb dL_law_642 rfl (lv_at hl 5 rfl) ?_
  refine lv_iload hx hb dL_law_643 (lv_at hl 0 rfl) ?_
  refine lv_iconst (v := 1) hx hb dL_law_645 (by decide) ?_
  refine lv_iadd hx hb dL_law_646 ?_
  refine ksld hx hb hX hbl hbA hS i1 v1 dL_law_647 ?_
  refine lv_aload_n hx hb dL_law_648 rfl (lv_at hl 2 rfl) ?_
  refine kcallw (kStw (n := 3) (As := [.ref (z 0), .int n1, .ref o]) (rest := []) F hE hNc hK hP hO hD hDO hdSO hS hA (kw_state_ l g e0 S O H.size (z 0) o n1 _ _ (hI.ob0) ho.1 ho.2.1 (c_X5_state l hl0 g e0 z S H.size hI n1) (fun E h => by rcases h with ⟨rfl, -⟩ <;> simp)) kw_451 kw_452 kw_87 kw_453 (by decide +kernel) ⟨Nat.le_of_ble_eq_true rfl, Nat.le_of_ble_eq_true rfl⟩ rfl hl.1 rfl (Nat.le_of_ble_eq_true rfl) dL_law_649 ⟨(by show k0 + 1 ≤ 601024; omega), (by show n0 + 6 ≤ 7293034; omega)⟩) rfl hD hDO hS hA (fun r S1 O1 H1 locs1 hp hP1 hO1 hDs1 hDa1 hD1 hDO1 hdis1 _ hf1 hS1 => ?_)
  have hM1 := kM_keep hM hdSM hdOM hf1
  have hMO1 := kdis_symm (kdis_keepM hM hdSM hdOM hDa1)
  have hMS1 := kdis_symm (kdis_keepM hM hdSM hdOM hDs1)
  refine lv_istore (lv' := [(6, .int r), (5, .int i), (4, .ref od), (3, .ref o), (2, .ref (w 0)), (1, .ref (z 0)), (0, .ref b)]) hx hb dL_law_652 hl (by decide) rfl (fun ls hl => ?_)
  refine lv_aload_n hx hb dL_law_654 rfl (lv_at hl 4 rfl) ?_
  refine lv_aload_n hx hb dL_law_655 rfl (lv_at hl 6 rfl) ?_
  refine lv_iload hx hb dL_law_656 (lv_at hl 1 rfl) ?_
  refine lv_iconst (v := 1) hx hb dL_law_658 (by decide) ?_
  refine lv_iadd hx hb dL_law_659 ?_
  refine ksld hx hb hX hbl hbA hS1 i1 v1 dL_law_660 ?_
  refine kcallWI (kV (n := 1) (As := [.int n1]) (rest := []) (b := (w 0)) (C := RX6) F hE hK hM1 hDM hS1 hA (c_X6_state l hl0 g e0 w M H1.size hMI n1) (rr_Model hK hM1 (hMI.ob (i := 0) (by decide))) kw_458 kw_459 kw_460 kw_5 kw_461 (by decide +kernel) ⟨Nat.le_of_ble_eq_true rfl, Nat.le_of_ble_eq_true rfl⟩ rfl hl.1 rfl (Nat.le_of_ble_eq_true rfl) dL_law_661 ⟨(by show k0 + 1 + 0 ≤ 601024; omega), (by show n0 + 6 + 0 ≤ 7293034; omega)⟩) rfl hDM hS1 hA (fun _ _ _ _ _ h => False.elim h) (fun r2 M1 H2 locs2 hm2 hP2_ hDx2 hDM1 _ hf2 hS2 => ?_)
  have hO2 := kO_keep hO1 hMO1 hf2
  have hOM2 := kdis_keep hO1 hMO1 hDx2
  have hQ2 := kO_keep hP1 hMS1 hf2
  have hSM2 := kdis_keep hP1 hMS1 hDx2
  have hq := kg_state (n1 := n1) (r2 := r2) hI hMI hR hcn hc ho hp hm2
  refine lv_istore (lv' := [(7, .int r2), (6, .int r), (5, .int i), (4, .ref od), (3, .ref o), (2, .ref (w 0)), (1, .ref (z 0)), (0, .ref b)]) hx hb dL_law_664 hl (by decide) rfl (fun ls hl => ?_)
  refine lv_goto (tgt := 1207) hx hb dL_law_666 (by decide) ?_
  refine W.widen (k := k0 + 3) (n := n0 + 27) (by omega) (by omega) ?_
  exact kk _ _ _ _ _ ls ⟨⟨F, hK, hE, hNc, hX, hbl⟩, ⟨hQ2, hP2_, hO2⟩, ⟨hD1, hDM1, hDO1⟩, ⟨hdis1, (kdis_symm hSM2), (kdis_symm hOM2)⟩, hS2, hq.2, hq.1.1, hq.1.2.1⟩ hq.1.2.2 (lv_sub hl [2, 3, 4, 5, 6, 7] rfl)
theorem dL_law_669 : decode cL_law 669 = .ok (.aload_n 1, 1) := by decide +kernel
theorem dL_law_670 : decode cL_law 670 = .ok (.aload_n 0, 1) := by decide +kernel
theorem dL_law_671 : decode cL_law 671 = .ok (.iload 5, 2) := by decide +kernel
theorem dL_law_673 : decode cL_law 673 = .ok (.iconst 1, 1) := by decide +kernel
theorem dL_law_674 : decode cL_law 674 = .ok (.iadd, 1) := by decide +kernel
theorem dL_law_675 : decode cL_law 675 = .ok (.iaload, 1) := by decide +kernel
theorem dL_law_676 : decode cL_law 676 = .ok (.aload_n 3, 1) := by decide +kernel
theorem dL_law_677 : decode cL_law 677 = .ok (.invokestatic 162, 3) := by decide +kernel
theorem dL_law_680 : decode cL_law 680 = .ok (.istore 6, 2) := by decide +kernel
theorem dL_law_682 : decode cL_law 682 = .ok (.aload_n 2, 1) := by decide +kernel
theorem dL_law_683 : decode cL_law 683 = .ok (.aload_n 0, 1) := by decide +kernel
theorem dL_law_684 : decode cL_law 684 = .ok (.iload 5, 2) := by decide +kernel
theorem dL_law_686 : decode cL_law 686 = .ok (.iconst 1, 1) := by decide +kernel
theorem dL_law_687 : decode cL_law 687 = .ok (.iadd, 1) := by decide +kernel
theorem dL_law_688 : decode cL_law 688 = .ok (.iaload, 1) := by decide +kernel
theorem dL_law_689 : decode cL_law 689 = .ok (.invokevirtual 164, 3) := by decide +kernel
theorem dL_law_692 : decode cL_law 692 = .ok (.istore 7, 2) := by decide +kernel
theorem dL_law_694 : decode cL_law 694 = .ok (.goto 513, 3) := by decide +kernel
set_option maxHeartbeats 4000000 in
set_option maxRecDepth 100000 in
theorem kcase_stateByScans {p : Program} {l : Launch} {e : Env} {s : State} {m : MethodId} {below : List Frame} {meth : Method} {c : Code} {b L : Nat} {xs : Nat → Int32} {g : kG} {e0 : Nat} {z w : Nat → Nat} {S M O : wPS} {o od : Nat} {H : Heap} {locs : List Loc} {k0 n0 t : Nat} {Q : State → Prop} {ls : Array Slot} {i n1 n2 n3 n4 : Int32} (hl0 : l.stackTraces = false) (C : kLc p s m c b L xs g e0 z w S M O o od H locs) (hi : kIx L xs i n1 n2 n3 n4) (hR : kRel z w t S M) (ht : t < 512) (hk0 : k0 + 3 ≤ 601024) (hn0 : n0 + 27 ≤ 7293034) (hl : lv_has ls 8 [(5, .int i), (4, .ref od), (3, .ref o), (2, .ref (w 0)), (1, .ref (z 0)), (0, .ref b)])
    (kk : ∀ (S1 M1 O1 : wPS) (H1 : Heap) (locs1 : List Loc) (ls1 : Array Slot), kLc p s m c b L xs g e0 z w S1 M1 O1 o od H1 locs1 → kRel z w (t + 1) S1 M1 → lv_has ls1 8 [(5, .int i), (4, .ref od), (3, .ref o), (2, .ref (w 0)), (1, .ref (z 0)), (0, .ref b)] → W p l e room_1 s m #[Value.ref b] below meth c H1 locs1 (k0 + 3) (n0 + 27) Q (F0 m 1207 ls1 [])) :
    W p l e room_1 s m #[Value.ref b] below meth c H locs k0 n0 Q (F0 m 669 ls []) := by
  obtain ⟨⟨F, hK, hE, hNc, hX, hbl⟩, ⟨hP, hM, hO⟩, ⟨hD, hDM, hDO⟩, ⟨hdSO, hdSM, hdOM⟩, hS, ho, hI, hMI⟩ := C
  obtain ⟨⟨i1, i2, i3, i4⟩, v1, v2, v3, v4⟩ := hi
  have hx := F.1
  have hb := F.2.1
  have hbA : ¬ kAs s b := Nat.not_le.mpr hbl
  have hA : ∀ q : Nat, s.heap.size ≤ q → kAs s q := fun _ h => h
  obtain ⟨cn, hcn, hc⟩ := hR.2.2.2.2.2
  refine lv_aload_n hx hb dL_law_669 rfl (lv_at hl 4 rfl) ?_
  refine lv_aload_n hx hb dL_law_670 rfl (lv_at hl 5 rfl) ?_
  refine lv_iload hx hb dL_law_671 (lv_at hl 0 rfl) ?_
  refine lv_iconst (v := 1) hx hb dL_law_673 (by decide) ?_
  refine lv_iadd hx hb dL_law_674 ?_
  refine ksld hx hb hX hbl hbA hS i1 v1 dL_law_675 ?_
  refine lv_aload_n hx hb dL_law_676 rfl (lv_at hl 2 rfl) ?_
  refine kcallw (kStw (n := 3) (As := [.ref (z 0), .int n1, .ref o]) (rest := []) F hE hNc hK hP hO hD hDO hdSO hS hA (kw_stateByScans_ l g e0 S O H.size (z 0) o n1 _ _ (hI.ob0) ho.1 ho.2.1 (c_X5_stateByScans l hl0 g e0 z S H.size hI n1) (fun E h => by rcases h with ⟨rfl, -⟩ <;> simp)) kw_462 kw_463 kw_87 kw_464 (by decide +kernel) ⟨Nat.le_of_ble_eq_true rfl, Nat.le_of_ble_eq_true rfl⟩ rfl hl.1 rfl (Nat.le_of_ble_eq_true rfl) dL_law_677 ⟨(by show k0 + 1 ≤ 601024; omega), (by show n0 + 6 ≤ 7293034; omega)⟩) rfl hD hDO hS hA (fun r S1 O1 H1 locs1 hp hP1 hO1 hDs1 hDa1 hD1 hDO1 hdis1 _ hf1 hS1 => ?_)
  have hM1 := kM_keep hM hdSM hdOM hf1
  have hMO1 := kdis_symm (kdis_keepM hM hdSM hdOM hDa1)
  have hMS1 := kdis_symm (kdis_keepM hM hdSM hdOM hDs1)
  refine lv_istore (lv' := [(6, .int r), (5, .int i), (4, .ref od), (3, .ref o), (2, .ref (w 0)), (1, .ref (z 0)), (0, .ref b)]) hx hb dL_law_680 hl (by decide) rfl (fun ls hl => ?_)
  refine lv_aload_n hx hb dL_law_682 rfl (lv_at hl 4 rfl) ?_
  refine lv_aload_n hx hb dL_law_683 rfl (lv_at hl 6 rfl) ?_
  refine lv_iload hx hb dL_law_684 (lv_at hl 1 rfl) ?_
  refine lv_iconst (v := 1) hx hb dL_law_686 (by decide) ?_
  refine lv_iadd hx hb dL_law_687 ?_
  refine ksld hx hb hX hbl hbA hS1 i1 v1 dL_law_688 ?_
  refine kcallWI (kV (n := 1) (As := [.int n1]) (rest := []) (b := (w 0)) (C := RX6) F hE hK hM1 hDM hS1 hA (c_X6_stateByScans l hl0 g e0 w M H1.size hMI n1) (rr_Model hK hM1 (hMI.ob (i := 0) (by decide))) kw_469 kw_470 kw_471 kw_5 kw_472 (by decide +kernel) ⟨Nat.le_of_ble_eq_true rfl, Nat.le_of_ble_eq_true rfl⟩ rfl hl.1 rfl (Nat.le_of_ble_eq_true rfl) dL_law_689 ⟨(by show k0 + 1 + 0 ≤ 601024; omega), (by show n0 + 6 + 0 ≤ 7293034; omega)⟩) rfl hDM hS1 hA (fun _ _ _ _ _ h => False.elim h) (fun r2 M1 H2 locs2 hm2 hP2_ hDx2 hDM1 _ hf2 hS2 => ?_)
  have hO2 := kO_keep hO1 hMO1 hf2
  have hOM2 := kdis_keep hO1 hMO1 hDx2
  have hQ2 := kO_keep hP1 hMS1 hf2
  have hSM2 := kdis_keep hP1 hMS1 hDx2
  have hq := kg_stateByScans (n1 := n1) (r2 := r2) hI hMI hR hcn hc ho hp hm2
  refine lv_istore (lv' := [(7, .int r2), (6, .int r), (5, .int i), (4, .ref od), (3, .ref o), (2, .ref (w 0)), (1, .ref (z 0)), (0, .ref b)]) hx hb dL_law_692 hl (by decide) rfl (fun ls hl => ?_)
  refine lv_goto (tgt := 1207) hx hb dL_law_694 (by decide) ?_
  refine W.widen (k := k0 + 3) (n := n0 + 27) (by omega) (by omega) ?_
  exact kk _ _ _ _ _ ls ⟨⟨F, hK, hE, hNc, hX, hbl⟩, ⟨hQ2, hP2_, hO2⟩, ⟨hD1, hDM1, hDO1⟩, ⟨hdis1, (kdis_symm hSM2), (kdis_symm hOM2)⟩, hS2, hq.2, hq.1.1, hq.1.2.1⟩ hq.1.2.2 (lv_sub hl [2, 3, 4, 5, 6, 7] rfl)
theorem dL_law_697 : decode cL_law 697 = .ok (.aload_n 1, 1) := by decide +kernel
theorem dL_law_698 : decode cL_law 698 = .ok (.aload_n 0, 1) := by decide +kernel
theorem dL_law_699 : decode cL_law 699 = .ok (.iload 5, 2) := by decide +kernel
theorem dL_law_701 : decode cL_law 701 = .ok (.iconst 1, 1) := by decide +kernel
theorem dL_law_702 : decode cL_law 702 = .ok (.iadd, 1) := by decide +kernel
theorem dL_law_703 : decode cL_law 703 = .ok (.iaload, 1) := by decide +kernel
theorem dL_law_704 : decode cL_law 704 = .ok (.aload_n 3, 1) := by decide +kernel
theorem dL_law_705 : decode cL_law 705 = .ok (.invokestatic 165, 3) := by decide +kernel
theorem dL_law_708 : decode cL_law 708 = .ok (.istore 6, 2) := by decide +kernel
theorem dL_law_710 : decode cL_law 710 = .ok (.aload_n 2, 1) := by decide +kernel
theorem dL_law_711 : decode cL_law 711 = .ok (.aload_n 0, 1) := by decide +kernel
theorem dL_law_712 : decode cL_law 712 = .ok (.iload 5, 2) := by decide +kernel
theorem dL_law_714 : decode cL_law 714 = .ok (.iconst 1, 1) := by decide +kernel
theorem dL_law_715 : decode cL_law 715 = .ok (.iadd, 1) := by decide +kernel
theorem dL_law_716 : decode cL_law 716 = .ok (.iaload, 1) := by decide +kernel
theorem dL_law_717 : decode cL_law 717 = .ok (.invokevirtual 167, 3) := by decide +kernel
theorem dL_law_720 : decode cL_law 720 = .ok (.istore 7, 2) := by decide +kernel
theorem dL_law_722 : decode cL_law 722 = .ok (.goto 485, 3) := by decide +kernel
set_option maxHeartbeats 4000000 in
set_option maxRecDepth 100000 in
theorem kcase_amount {p : Program} {l : Launch} {e : Env} {s : State} {m : MethodId} {below : List Frame} {meth : Method} {c : Code} {b L : Nat} {xs : Nat → Int32} {g : kG} {e0 : Nat} {z w : Nat → Nat} {S M O : wPS} {o od : Nat} {H : Heap} {locs : List Loc} {k0 n0 t : Nat} {Q : State → Prop} {ls : Array Slot} {i n1 n2 n3 n4 : Int32} (hl0 : l.stackTraces = false) (C : kLc p s m c b L xs g e0 z w S M O o od H locs) (hi : kIx L xs i n1 n2 n3 n4) (hR : kRel z w t S M) (ht : t < 512) (hk0 : k0 + 3 ≤ 601024) (hn0 : n0 + 27 ≤ 7293034) (hl : lv_has ls 8 [(5, .int i), (4, .ref od), (3, .ref o), (2, .ref (w 0)), (1, .ref (z 0)), (0, .ref b)])
    (kk : ∀ (S1 M1 O1 : wPS) (H1 : Heap) (locs1 : List Loc) (ls1 : Array Slot), kLc p s m c b L xs g e0 z w S1 M1 O1 o od H1 locs1 → kRel z w (t + 1) S1 M1 → lv_has ls1 8 [(5, .int i), (4, .ref od), (3, .ref o), (2, .ref (w 0)), (1, .ref (z 0)), (0, .ref b)] → W p l e room_1 s m #[Value.ref b] below meth c H1 locs1 (k0 + 3) (n0 + 27) Q (F0 m 1207 ls1 [])) :
    W p l e room_1 s m #[Value.ref b] below meth c H locs k0 n0 Q (F0 m 697 ls []) := by
  obtain ⟨⟨F, hK, hE, hNc, hX, hbl⟩, ⟨hP, hM, hO⟩, ⟨hD, hDM, hDO⟩, ⟨hdSO, hdSM, hdOM⟩, hS, ho, hI, hMI⟩ := C
  obtain ⟨⟨i1, i2, i3, i4⟩, v1, v2, v3, v4⟩ := hi
  have hx := F.1
  have hb := F.2.1
  have hbA : ¬ kAs s b := Nat.not_le.mpr hbl
  have hA : ∀ q : Nat, s.heap.size ≤ q → kAs s q := fun _ h => h
  obtain ⟨cn, hcn, hc⟩ := hR.2.2.2.2.2
  refine lv_aload_n hx hb dL_law_697 rfl (lv_at hl 4 rfl) ?_
  refine lv_aload_n hx hb dL_law_698 rfl (lv_at hl 5 rfl) ?_
  refine lv_iload hx hb dL_law_699 (lv_at hl 0 rfl) ?_
  refine lv_iconst (v := 1) hx hb dL_law_701 (by decide) ?_
  refine lv_iadd hx hb dL_law_702 ?_
  refine ksld hx hb hX hbl hbA hS i1 v1 dL_law_703 ?_
  refine lv_aload_n hx hb dL_law_704 rfl (lv_at hl 2 rfl) ?_
  refine kcallw (kStw (n := 3) (As := [.ref (z 0), .int n1, .ref o]) (rest := []) F hE hNc hK hP hO hD hDO hdSO hS hA (kw_amount_ l g e0 S O H.size (z 0) o n1 _ _ (hI.ob0) ho.1 ho.2.1 (c_X5_amount l hl0 g e0 z S H.size hI n1) (fun E h => by rcases h with ⟨rfl, -⟩ <;> simp)) kw_474 kw_475 kw_87 kw_476 (by decide +kernel) ⟨Nat.le_of_ble_eq_true rfl, Nat.le_of_ble_eq_true rfl⟩ rfl hl.1 rfl (Nat.le_of_ble_eq_true rfl) dL_law_705 ⟨(by show k0 + 1 ≤ 601024; omega), (by show n0 + 6 ≤ 7293034; omega)⟩) rfl hD hDO hS hA (fun r S1 O1 H1 locs1 hp hP1 hO1 hDs1 hDa1 hD1 hDO1 hdis1 _ hf1 hS1 => ?_)
  have hM1 := kM_keep hM hdSM hdOM hf1
  have hMO1 := kdis_symm (kdis_keepM hM hdSM hdOM hDa1)
  have hMS1 := kdis_symm (kdis_keepM hM hdSM hdOM hDs1)
  refine lv_istore (lv' := [(6, .int r), (5, .int i), (4, .ref od), (3, .ref o), (2, .ref (w 0)), (1, .ref (z 0)), (0, .ref b)]) hx hb dL_law_708 hl (by decide) rfl (fun ls hl => ?_)
  refine lv_aload_n hx hb dL_law_710 rfl (lv_at hl 4 rfl) ?_
  refine lv_aload_n hx hb dL_law_711 rfl (lv_at hl 6 rfl) ?_
  refine lv_iload hx hb dL_law_712 (lv_at hl 1 rfl) ?_
  refine lv_iconst (v := 1) hx hb dL_law_714 (by decide) ?_
  refine lv_iadd hx hb dL_law_715 ?_
  refine ksld hx hb hX hbl hbA hS1 i1 v1 dL_law_716 ?_
  refine kcallWI (kV (n := 1) (As := [.int n1]) (rest := []) (b := (w 0)) (C := RX6) F hE hK hM1 hDM hS1 hA (c_X6_amount l hl0 g e0 w M H1.size hMI n1) (rr_Model hK hM1 (hMI.ob (i := 0) (by decide))) kw_481 kw_482 kw_483 kw_5 kw_484 (by decide +kernel) ⟨Nat.le_of_ble_eq_true rfl, Nat.le_of_ble_eq_true rfl⟩ rfl hl.1 rfl (Nat.le_of_ble_eq_true rfl) dL_law_717 ⟨(by show k0 + 1 + 0 ≤ 601024; omega), (by show n0 + 6 + 0 ≤ 7293034; omega)⟩) rfl hDM hS1 hA (fun _ _ _ _ _ h => False.elim h) (fun r2 M1 H2 locs2 hm2 hP2_ hDx2 hDM1 _ hf2 hS2 => ?_)
  have hO2 := kO_keep hO1 hMO1 hf2
  have hOM2 := kdis_keep hO1 hMO1 hDx2
  have hQ2 := kO_keep hP1 hMS1 hf2
  have hSM2 := kdis_keep hP1 hMS1 hDx2
  have hq := kg_amount (n1 := n1) hI hMI hR hcn hc ho hp hm2
  refine lv_istore (lv' := [(7, .int r2), (6, .int r), (5, .int i), (4, .ref od), (3, .ref o), (2, .ref (w 0)), (1, .ref (z 0)), (0, .ref b)]) hx hb dL_law_720 hl (by decide) rfl (fun ls hl => ?_)
  refine lv_goto (tgt := 1207) hx hb dL_law_722 (by decide) ?_
  refine W.widen (k := k0 + 3) (n := n0 + 27) (by omega) (by omega) ?_
  exact kk _ _ _ _ _ ls ⟨⟨F, hK, hE, hNc, hX, hbl⟩, ⟨hQ2, hP2_, hO2⟩, ⟨hD1, hDM1, hDO1⟩, ⟨hdis1, (kdis_symm hSM2), (kdis_symm hOM2)⟩, hS2, hq.2, hq.1.1, hq.1.2.1⟩ hq.1.2.2 (lv_sub hl [2, 3, 4, 5, 6, 7] rfl)
theorem dL_law_725 : decode cL_law 725 = .ok (.aload_n 1, 1) := by decide +kernel
theorem dL_law_726 : decode cL_law 726 = .ok (.invokevirtual 168, 3) := by decide +kernel
theorem dL_law_729 : decode cL_law 729 = .ok (.pop, 1) := by decide +kernel
theorem dL_law_730 : decode cL_law 730 = .ok (.aload_n 2, 1) := by decide +kernel
theorem dL_law_731 : decode cL_law 731 = .ok (.invokevirtual 171, 3) := by decide +kernel
theorem dL_law_734 : decode cL_law 734 = .ok (.pop, 1) := by decide +kernel
theorem dL_law_735 : decode cL_law 735 = .ok (.goto 472, 3) := by decide +kernel
set_option maxHeartbeats 4000000 in
set_option maxRecDepth 100000 in
theorem kcase_orders {p : Program} {l : Launch} {e : Env} {s : State} {m : MethodId} {below : List Frame} {meth : Method} {c : Code} {b L : Nat} {xs : Nat → Int32} {g : kG} {e0 : Nat} {z w : Nat → Nat} {S M O : wPS} {o od : Nat} {H : Heap} {locs : List Loc} {k0 n0 t : Nat} {Q : State → Prop} {ls : Array Slot} {i n1 n2 n3 n4 : Int32} (hl0 : l.stackTraces = false) (C : kLc p s m c b L xs g e0 z w S M O o od H locs) (hi : kIx L xs i n1 n2 n3 n4) (hR : kRel z w t S M) (ht : t < 512) (hk0 : k0 + 3 ≤ 601024) (hn0 : n0 + 27 ≤ 7293034) (hl : lv_has ls 8 [(5, .int i), (4, .ref od), (3, .ref o), (2, .ref (w 0)), (1, .ref (z 0)), (0, .ref b)])
    (kk : ∀ (S1 M1 O1 : wPS) (H1 : Heap) (locs1 : List Loc) (ls1 : Array Slot), kLc p s m c b L xs g e0 z w S1 M1 O1 o od H1 locs1 → kRel z w (t + 1) S1 M1 → lv_has ls1 8 [(5, .int i), (4, .ref od), (3, .ref o), (2, .ref (w 0)), (1, .ref (z 0)), (0, .ref b)] → W p l e room_1 s m #[Value.ref b] below meth c H1 locs1 (k0 + 3) (n0 + 27) Q (F0 m 1207 ls1 [])) :
    W p l e room_1 s m #[Value.ref b] below meth c H locs k0 n0 Q (F0 m 725 ls []) := by
  obtain ⟨⟨F, hK, hE, hNc, hX, hbl⟩, ⟨hP, hM, hO⟩, ⟨hD, hDM, hDO⟩, ⟨hdSO, hdSM, hdOM⟩, hS, ho, hI, hMI⟩ := C
  obtain ⟨⟨i1, i2, i3, i4⟩, v1, v2, v3, v4⟩ := hi
  have hx := F.1
  have hb := F.2.1
  have hbA : ¬ kAs s b := Nat.not_le.mpr hbl
  have hA : ∀ q : Nat, s.heap.size ≤ q → kAs s q := fun _ h => h
  obtain ⟨cn, hcn, hc⟩ := hR.2.2.2.2.2
  refine lv_aload_n hx hb dL_law_725 rfl (lv_at hl 4 rfl) ?_
  refine kcallWI (kV (n := 0) (As := []) (rest := []) (b := (z 0)) (C := RX5) F hE hK hP hD hS hA (c_X5_orders l hl0 g e0 z S H.size hI) (rr_Pickwave hK hP hI.ob0) kw_485 kw_486 kw_487 kw_2 kw_488 (by decide +kernel) ⟨Nat.le_of_ble_eq_true rfl, Nat.le_of_ble_eq_true rfl⟩ rfl hl.1 rfl (Nat.le_of_ble_eq_true rfl) dL_law_726 ⟨(by show k0 + 0 ≤ 601024; omega), (by show n0 + 0 ≤ 7293034; omega)⟩) rfl hD hS hA (fun _ _ _ _ _ h => False.elim h) (fun r2 S1 H2 locs2 hp hP2_ hDx2 hD1 _ hf2 hS2 => ?_)
  have hM2 := kO_keep hM hdSM hf2
  have hO2 := kO_keep hO hdSO hf2
  have hMS1 := kdis_symm (kdis_keep hM hdSM hDx2)
  have hdis1 := kdis_keep hO hdSO hDx2
  refine lv_pop hx hb dL_law_729 rfl ?_
  refine lv_aload_n hx hb dL_law_730 rfl (lv_at hl 3 rfl) ?_
  refine kcallWI (kV (n := 0) (As := []) (rest := []) (b := (w 0)) (C := RX6) F hE hK hM2 hDM hS2 hA (c_X6_orders l hl0 g e0 w M H2.size hMI) (rr_Model hK hM2 (hMI.ob (i := 0) (by decide))) kw_489 kw_490 kw_491 kw_5 kw_492 (by decide +kernel) ⟨Nat.le_of_ble_eq_true rfl, Nat.le_of_ble_eq_true rfl⟩ rfl hl.1 rfl (Nat.le_of_ble_eq_true rfl) dL_law_731 ⟨(by show k0 + 0 + 0 ≤ 601024; omega), (by show n0 + 0 + 0 ≤ 7293034; omega)⟩) rfl hDM hS2 hA (fun _ _ _ _ _ h => False.elim h) (fun r3 M1 H3 locs3 hm3 hP3_ hDx3 hDM1 _ hf3 hS3 => ?_)
  have hO3 := kO_keep hO2 (kdis_symm hdOM) hf3
  have hOM3 := kdis_keep hO2 (kdis_symm hdOM) hDx3
  have hQ3 := kO_keep hP2_ hMS1 hf3
  have hSM3 := kdis_keep hP2_ hMS1 hDx3
  have hq := kg_orders (r2 := r3) hI hMI hR hcn hc hp hm3
  refine lv_pop hx hb dL_law_734 rfl ?_
  refine lv_goto (tgt := 1207) hx hb dL_law_735 (by decide) ?_
  refine W.widen (k := k0 + 3) (n := n0 + 27) (by omega) (by omega) ?_
  exact kk _ _ _ _ _ ls ⟨⟨F, hK, hE, hNc, hX, hbl⟩, ⟨hQ3, hP3_, hO3⟩, ⟨hD1, hDM1, hDO⟩, ⟨hdis1, (kdis_symm hSM3), (kdis_symm hOM3)⟩, hS3, ho, hq.1, hq.2.1⟩ hq.2.2 (lv_sub hl [0, 1, 2, 3, 4, 5] rfl)
theorem dL_law_738 : decode cL_law 738 = .ok (.aload_n 1, 1) := by decide +kernel
theorem dL_law_739 : decode cL_law 739 = .ok (.aload_n 0, 1) := by decide +kernel
theorem dL_law_740 : decode cL_law 740 = .ok (.iload 5, 2) := by decide +kernel
theorem dL_law_742 : decode cL_law 742 = .ok (.iconst 1, 1) := by decide +kernel
theorem dL_law_743 : decode cL_law 743 = .ok (.iadd, 1) := by decide +kernel
theorem dL_law_744 : decode cL_law 744 = .ok (.iaload, 1) := by decide +kernel
theorem dL_law_745 : decode cL_law 745 = .ok (.aload_n 0, 1) := by decide +kernel
theorem dL_law_746 : decode cL_law 746 = .ok (.iload 5, 2) := by decide +kernel
theorem dL_law_748 : decode cL_law 748 = .ok (.iconst 2, 1) := by decide +kernel
theorem dL_law_749 : decode cL_law 749 = .ok (.iadd, 1) := by decide +kernel
theorem dL_law_750 : decode cL_law 750 = .ok (.iaload, 1) := by decide +kernel
theorem dL_law_751 : decode cL_law 751 = .ok (.aload_n 3, 1) := by decide +kernel
theorem dL_law_752 : decode cL_law 752 = .ok (.invokestatic 172, 3) := by decide +kernel
theorem dL_law_755 : decode cL_law 755 = .ok (.istore 6, 2) := by decide +kernel
theorem dL_law_757 : decode cL_law 757 = .ok (.aload_n 2, 1) := by decide +kernel
theorem dL_law_758 : decode cL_law 758 = .ok (.aload_n 0, 1) := by decide +kernel
theorem dL_law_759 : decode cL_law 759 = .ok (.iload 5, 2) := by decide +kernel
theorem dL_law_761 : decode cL_law 761 = .ok (.iconst 1, 1) := by decide +kernel
theorem dL_law_762 : decode cL_law 762 = .ok (.iadd, 1) := by decide +kernel
theorem dL_law_763 : decode cL_law 763 = .ok (.iaload, 1) := by decide +kernel
theorem dL_law_764 : decode cL_law 764 = .ok (.aload_n 0, 1) := by decide +kernel
theorem dL_law_765 : decode cL_law 765 = .ok (.iload 5, 2) := by decide +kernel
theorem dL_law_767 : decode cL_law 767 = .ok (.iconst 2, 1) := by decide +kernel
theorem dL_law_768 : decode cL_law 768 = .ok (.iadd, 1) := by decide +kernel
theorem dL_law_769 : decode cL_law 769 = .ok (.iaload, 1) := by decide +kernel
theorem dL_law_770 : decode cL_law 770 = .ok (.invokevirtual 174, 3) := by decide +kernel
theorem dL_law_773 : decode cL_law 773 = .ok (.istore 7, 2) := by decide +kernel
theorem dL_law_775 : decode cL_law 775 = .ok (.goto 432, 3) := by decide +kernel
set_option maxHeartbeats 4000000 in
set_option maxRecDepth 100000 in
theorem kcase_pick {p : Program} {l : Launch} {e : Env} {s : State} {m : MethodId} {below : List Frame} {meth : Method} {c : Code} {b L : Nat} {xs : Nat → Int32} {g : kG} {e0 : Nat} {z w : Nat → Nat} {S M O : wPS} {o od : Nat} {H : Heap} {locs : List Loc} {k0 n0 t : Nat} {Q : State → Prop} {ls : Array Slot} {i n1 n2 n3 n4 : Int32} (hl0 : l.stackTraces = false) (C : kLc p s m c b L xs g e0 z w S M O o od H locs) (hi : kIx L xs i n1 n2 n3 n4) (hR : kRel z w t S M) (ht : t < 512) (hk0 : k0 + 3 ≤ 601024) (hn0 : n0 + 27 ≤ 7293034) (hl : lv_has ls 8 [(5, .int i), (4, .ref od), (3, .ref o), (2, .ref (w 0)), (1, .ref (z 0)), (0, .ref b)])
    (kk : ∀ (S1 M1 O1 : wPS) (H1 : Heap) (locs1 : List Loc) (ls1 : Array Slot), kLc p s m c b L xs g e0 z w S1 M1 O1 o od H1 locs1 → kRel z w (t + 1) S1 M1 → lv_has ls1 8 [(5, .int i), (4, .ref od), (3, .ref o), (2, .ref (w 0)), (1, .ref (z 0)), (0, .ref b)] → W p l e room_1 s m #[Value.ref b] below meth c H1 locs1 (k0 + 3) (n0 + 27) Q (F0 m 1207 ls1 [])) :
    W p l e room_1 s m #[Value.ref b] below meth c H locs k0 n0 Q (F0 m 738 ls []) := by
  obtain ⟨⟨F, hK, hE, hNc, hX, hbl⟩, ⟨hP, hM, hO⟩, ⟨hD, hDM, hDO⟩, ⟨hdSO, hdSM, hdOM⟩, hS, ho, hI, hMI⟩ := C
  obtain ⟨⟨i1, i2, i3, i4⟩, v1, v2, v3, v4⟩ := hi
  have hx := F.1
  have hb := F.2.1
  have hbA : ¬ kAs s b := Nat.not_le.mpr hbl
  have hA : ∀ q : Nat, s.heap.size ≤ q → kAs s q := fun _ h => h
  obtain ⟨cn, hcn, hc⟩ := hR.2.2.2.2.2
  refine lv_aload_n hx hb dL_law_738 rfl (lv_at hl 4 rfl) ?_
  refine lv_aload_n hx hb dL_law_739 rfl (lv_at hl 5 rfl) ?_
  refine lv_iload hx hb dL_law_740 (lv_at hl 0 rfl) ?_
  refine lv_iconst (v := 1) hx hb dL_law_742 (by decide) ?_
  refine lv_iadd hx hb dL_law_743 ?_
  refine ksld hx hb hX hbl hbA hS i1 v1 dL_law_744 ?_
  refine lv_aload_n hx hb dL_law_745 rfl (lv_at hl 5 rfl) ?_
  refine lv_iload hx hb dL_law_746 (lv_at hl 0 rfl) ?_
  refine lv_iconst (v := 2) hx hb dL_law_748 (by decide) ?_
  refine lv_iadd hx hb dL_law_749 ?_
  refine ksld hx hb hX hbl hbA hS i2 v2 dL_law_750 ?_
  refine lv_aload_n hx hb dL_law_751 rfl (lv_at hl 2 rfl) ?_
  refine kcallw (kStw (n := 4) (As := [.ref (z 0), .int n1, .int n2, .ref o]) (rest := []) F hE hNc hK hP hO hD hDO hdSO hS hA (kw_pick_ l g e0 S O H.size (z 0) o n1 n2 _ _ (hI.ob0) ho.1 ho.2.1 (c_X5_pick l hl0 g e0 z S H.size hI n1 n2) (fun E h => by rcases h with ⟨rfl, -⟩ | ⟨rfl | rfl | rfl, -⟩ <;> simp)) kw_493 kw_494 kw_87 kw_495 (by decide +kernel) ⟨Nat.le_of_ble_eq_true rfl, Nat.le_of_ble_eq_true rfl⟩ rfl hl.1 rfl (Nat.le_of_ble_eq_true rfl) dL_law_752 ⟨(by show k0 + 3 ≤ 601024; omega), (by show n0 + 27 ≤ 7293034; omega)⟩) rfl hD hDO hS hA (fun r S1 O1 H1 locs1 hp hP1 hO1 hDs1 hDa1 hD1 hDO1 hdis1 _ hf1 hS1 => ?_)
  have hM1 := kM_keep hM hdSM hdOM hf1
  have hMO1 := kdis_symm (kdis_keepM hM hdSM hdOM hDa1)
  have hMS1 := kdis_symm (kdis_keepM hM hdSM hdOM hDs1)
  refine lv_istore (lv' := [(6, .int r), (5, .int i), (4, .ref od), (3, .ref o), (2, .ref (w 0)), (1, .ref (z 0)), (0, .ref b)]) hx hb dL_law_755 hl (by decide) rfl (fun ls hl => ?_)
  refine lv_aload_n hx hb dL_law_757 rfl (lv_at hl 4 rfl) ?_
  refine lv_aload_n hx hb dL_law_758 rfl (lv_at hl 6 rfl) ?_
  refine lv_iload hx hb dL_law_759 (lv_at hl 1 rfl) ?_
  refine lv_iconst (v := 1) hx hb dL_law_761 (by decide) ?_
  refine lv_iadd hx hb dL_law_762 ?_
  refine ksld hx hb hX hbl hbA hS1 i1 v1 dL_law_763 ?_
  refine lv_aload_n hx hb dL_law_764 rfl (lv_at hl 6 rfl) ?_
  refine lv_iload hx hb dL_law_765 (lv_at hl 1 rfl) ?_
  refine lv_iconst (v := 2) hx hb dL_law_767 (by decide) ?_
  refine lv_iadd hx hb dL_law_768 ?_
  refine ksld hx hb hX hbl hbA hS1 i2 v2 dL_law_769 ?_
  refine kcallWI (kV (n := 2) (As := [.int n1, .int n2]) (rest := []) (b := (w 0)) (C := RX6) F hE hK hM1 hDM hS1 hA (c_X6_pick l hl0 g e0 w M H1.size hMI n1 n2 cn hc (by omega)) (rr_Model hK hM1 (hMI.ob (i := 0) (by decide))) kw_512 kw_513 kw_514 kw_5 kw_515 (by decide +kernel) ⟨Nat.le_of_ble_eq_true rfl, Nat.le_of_ble_eq_true rfl⟩ rfl hl.1 rfl (Nat.le_of_ble_eq_true rfl) dL_law_770 ⟨(by show k0 + 3 + 0 ≤ 601024; omega), (by show n0 + 27 + 0 ≤ 7293034; omega)⟩) rfl hDM hS1 hA (fun _ _ _ _ _ h => False.elim h) (fun r2 M1 H2 locs2 hm2 hP2_ hDx2 hDM1 _ hf2 hS2 => ?_)
  have hO2 := kO_keep hO1 hMO1 hf2
  have hOM2 := kdis_keep hO1 hMO1 hDx2
  have hQ2 := kO_keep hP1 hMS1 hf2
  have hSM2 := kdis_keep hP1 hMS1 hDx2
  have hq := kg_pick (n1 := n1) (n2 := n2) hI hMI hR hcn hc ho hp hm2
  refine lv_istore (lv' := [(7, .int r2), (6, .int r), (5, .int i), (4, .ref od), (3, .ref o), (2, .ref (w 0)), (1, .ref (z 0)), (0, .ref b)]) hx hb dL_law_773 hl (by decide) rfl (fun ls hl => ?_)
  refine lv_goto (tgt := 1207) hx hb dL_law_775 (by decide) ?_
  refine W.widen (k := k0 + 3) (n := n0 + 27) (by omega) (by omega) ?_
  exact kk _ _ _ _ _ ls ⟨⟨F, hK, hE, hNc, hX, hbl⟩, ⟨hQ2, hP2_, hO2⟩, ⟨hD1, hDM1, hDO1⟩, ⟨hdis1, (kdis_symm hSM2), (kdis_symm hOM2)⟩, hS2, hq.2, hq.1.1, hq.1.2.1⟩ hq.1.2.2 (lv_sub hl [2, 3, 4, 5, 6, 7] rfl)
theorem dL_law_778 : decode cL_law 778 = .ok (.aload_n 1, 1) := by decide +kernel
theorem dL_law_779 : decode cL_law 779 = .ok (.aload_n 0, 1) := by decide +kernel
theorem dL_law_780 : decode cL_law 780 = .ok (.iload 5, 2) := by decide +kernel
theorem dL_law_782 : decode cL_law 782 = .ok (.iconst 1, 1) := by decide +kernel
theorem dL_law_783 : decode cL_law 783 = .ok (.iadd, 1) := by decide +kernel
theorem dL_law_784 : decode cL_law 784 = .ok (.iaload, 1) := by decide +kernel
theorem dL_law_785 : decode cL_law 785 = .ok (.aload_n 3, 1) := by decide +kernel
theorem dL_law_786 : decode cL_law 786 = .ok (.invokestatic 175, 3) := by decide +kernel
theorem dL_law_789 : decode cL_law 789 = .ok (.istore 6, 2) := by decide +kernel
theorem dL_law_791 : decode cL_law 791 = .ok (.aload_n 2, 1) := by decide +kernel
theorem dL_law_792 : decode cL_law 792 = .ok (.aload_n 0, 1) := by decide +kernel
theorem dL_law_793 : decode cL_law 793 = .ok (.iload 5, 2) := by decide +kernel
theorem dL_law_795 : decode cL_law 795 = .ok (.iconst 1, 1) := by decide +kernel
theorem dL_law_796 : decode cL_law 796 = .ok (.iadd, 1) := by decide +kernel
theorem dL_law_797 : decode cL_law 797 = .ok (.iaload, 1) := by decide +kernel
theorem dL_law_798 : decode cL_law 798 = .ok (.invokevirtual 177, 3) := by decide +kernel
theorem dL_law_801 : decode cL_law 801 = .ok (.istore 7, 2) := by decide +kernel
theorem dL_law_803 : decode cL_law 803 = .ok (.goto 404, 3) := by decide +kernel
set_option maxHeartbeats 4000000 in
set_option maxRecDepth 100000 in
theorem kcase_ship {p : Program} {l : Launch} {e : Env} {s : State} {m : MethodId} {below : List Frame} {meth : Method} {c : Code} {b L : Nat} {xs : Nat → Int32} {g : kG} {e0 : Nat} {z w : Nat → Nat} {S M O : wPS} {o od : Nat} {H : Heap} {locs : List Loc} {k0 n0 t : Nat} {Q : State → Prop} {ls : Array Slot} {i n1 n2 n3 n4 : Int32} (hl0 : l.stackTraces = false) (C : kLc p s m c b L xs g e0 z w S M O o od H locs) (hi : kIx L xs i n1 n2 n3 n4) (hR : kRel z w t S M) (ht : t < 512) (hk0 : k0 + 3 ≤ 601024) (hn0 : n0 + 27 ≤ 7293034) (hl : lv_has ls 8 [(5, .int i), (4, .ref od), (3, .ref o), (2, .ref (w 0)), (1, .ref (z 0)), (0, .ref b)])
    (kk : ∀ (S1 M1 O1 : wPS) (H1 : Heap) (locs1 : List Loc) (ls1 : Array Slot), kLc p s m c b L xs g e0 z w S1 M1 O1 o od H1 locs1 → kRel z w (t + 1) S1 M1 → lv_has ls1 8 [(5, .int i), (4, .ref od), (3, .ref o), (2, .ref (w 0)), (1, .ref (z 0)), (0, .ref b)] → W p l e room_1 s m #[Value.ref b] below meth c H1 locs1 (k0 + 3) (n0 + 27) Q (F0 m 1207 ls1 [])) :
    W p l e room_1 s m #[Value.ref b] below meth c H locs k0 n0 Q (F0 m 778 ls []) := by
  obtain ⟨⟨F, hK, hE, hNc, hX, hbl⟩, ⟨hP, hM, hO⟩, ⟨hD, hDM, hDO⟩, ⟨hdSO, hdSM, hdOM⟩, hS, ho, hI, hMI⟩ := C
  obtain ⟨⟨i1, i2, i3, i4⟩, v1, v2, v3, v4⟩ := hi
  have hx := F.1
  have hb := F.2.1
  have hbA : ¬ kAs s b := Nat.not_le.mpr hbl
  have hA : ∀ q : Nat, s.heap.size ≤ q → kAs s q := fun _ h => h
  obtain ⟨cn, hcn, hc⟩ := hR.2.2.2.2.2
  refine lv_aload_n hx hb dL_law_778 rfl (lv_at hl 4 rfl) ?_
  refine lv_aload_n hx hb dL_law_779 rfl (lv_at hl 5 rfl) ?_
  refine lv_iload hx hb dL_law_780 (lv_at hl 0 rfl) ?_
  refine lv_iconst (v := 1) hx hb dL_law_782 (by decide) ?_
  refine lv_iadd hx hb dL_law_783 ?_
  refine ksld hx hb hX hbl hbA hS i1 v1 dL_law_784 ?_
  refine lv_aload_n hx hb dL_law_785 rfl (lv_at hl 2 rfl) ?_
  refine kcallw (kStw (n := 3) (As := [.ref (z 0), .int n1, .ref o]) (rest := []) F hE hNc hK hP hO hD hDO hdSO hS hA (kw_ship_ l g e0 S O H.size (z 0) o n1 _ _ (hI.ob0) ho.1 ho.2.1 (c_X5_ship l hl0 g e0 z S H.size hI n1) (fun E h => by rcases h with ⟨rfl, -⟩ <;> simp)) kw_516 kw_517 kw_87 kw_518 (by decide +kernel) ⟨Nat.le_of_ble_eq_true rfl, Nat.le_of_ble_eq_true rfl⟩ rfl hl.1 rfl (Nat.le_of_ble_eq_true rfl) dL_law_786 ⟨(by show k0 + 1 ≤ 601024; omega), (by show n0 + 6 ≤ 7293034; omega)⟩) rfl hD hDO hS hA (fun r S1 O1 H1 locs1 hp hP1 hO1 hDs1 hDa1 hD1 hDO1 hdis1 _ hf1 hS1 => ?_)
  have hM1 := kM_keep hM hdSM hdOM hf1
  have hMO1 := kdis_symm (kdis_keepM hM hdSM hdOM hDa1)
  have hMS1 := kdis_symm (kdis_keepM hM hdSM hdOM hDs1)
  refine lv_istore (lv' := [(6, .int r), (5, .int i), (4, .ref od), (3, .ref o), (2, .ref (w 0)), (1, .ref (z 0)), (0, .ref b)]) hx hb dL_law_789 hl (by decide) rfl (fun ls hl => ?_)
  refine lv_aload_n hx hb dL_law_791 rfl (lv_at hl 4 rfl) ?_
  refine lv_aload_n hx hb dL_law_792 rfl (lv_at hl 6 rfl) ?_
  refine lv_iload hx hb dL_law_793 (lv_at hl 1 rfl) ?_
  refine lv_iconst (v := 1) hx hb dL_law_795 (by decide) ?_
  refine lv_iadd hx hb dL_law_796 ?_
  refine ksld hx hb hX hbl hbA hS1 i1 v1 dL_law_797 ?_
  refine kcallWI (kV (n := 1) (As := [.int n1]) (rest := []) (b := (w 0)) (C := RX6) F hE hK hM1 hDM hS1 hA (c_X6_ship l hl0 g e0 w M H1.size hMI n1 cn hc (by omega)) (rr_Model hK hM1 (hMI.ob (i := 0) (by decide))) kw_528 kw_529 kw_530 kw_5 kw_531 (by decide +kernel) ⟨Nat.le_of_ble_eq_true rfl, Nat.le_of_ble_eq_true rfl⟩ rfl hl.1 rfl (Nat.le_of_ble_eq_true rfl) dL_law_798 ⟨(by show k0 + 1 + 0 ≤ 601024; omega), (by show n0 + 6 + 0 ≤ 7293034; omega)⟩) rfl hDM hS1 hA (fun _ _ _ _ _ h => False.elim h) (fun r2 M1 H2 locs2 hm2 hP2_ hDx2 hDM1 _ hf2 hS2 => ?_)
  have hO2 := kO_keep hO1 hMO1 hf2
  have hOM2 := kdis_keep hO1 hMO1 hDx2
  have hQ2 := kO_keep hP1 hMS1 hf2
  have hSM2 := kdis_keep hP1 hMS1 hDx2
  have hq := kg_ship (n1 := n1) (r2 := r2) hI hMI hR hcn hc ho hp hm2
  refine lv_istore (lv' := [(7, .int r2), (6, .int r), (5, .int i), (4, .ref od), (3, .ref o), (2, .ref (w 0)), (1, .ref (z 0)), (0, .ref b)]) hx hb dL_law_801 hl (by decide) rfl (fun ls hl => ?_)
  refine lv_goto (tgt := 1207) hx hb dL_law_803 (by decide) ?_
  refine W.widen (k := k0 + 3) (n := n0 + 27) (by omega) (by omega) ?_
  exact kk _ _ _ _ _ ls ⟨⟨F, hK, hE, hNc, hX, hbl⟩, ⟨hQ2, hP2_, hO2⟩, ⟨hD1, hDM1, hDO1⟩, ⟨hdis1, (kdis_symm hSM2), (kdis_symm hOM2)⟩, hS2, hq.2, hq.1.1, hq.1.2.1⟩ hq.1.2.2 (lv_sub hl [2, 3, 4, 5, 6, 7] rfl)
