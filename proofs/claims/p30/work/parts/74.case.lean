theorem dL_law_983 : decode cL_law 983 = .ok (.aload_n 1, 1) := by decide +kernel
theorem dL_law_984 : decode cL_law 984 = .ok (.aload_n 0, 1) := by decide +kernel
theorem dL_law_985 : decode cL_law 985 = .ok (.iload 5, 2) := by decide +kernel
theorem dL_law_987 : decode cL_law 987 = .ok (.iconst 1, 1) := by decide +kernel
theorem dL_law_988 : decode cL_law 988 = .ok (.iadd, 1) := by decide +kernel
theorem dL_law_989 : decode cL_law 989 = .ok (.iaload, 1) := by decide +kernel
theorem dL_law_990 : decode cL_law 990 = .ok (.aload_n 3, 1) := by decide +kernel
theorem dL_law_991 : decode cL_law 991 = .ok (.invokestatic 197, 3) := by decide +kernel
theorem dL_law_994 : decode cL_law 994 = .ok (.istore 6, 2) := by decide +kernel
theorem dL_law_996 : decode cL_law 996 = .ok (.aload_n 2, 1) := by decide +kernel
theorem dL_law_997 : decode cL_law 997 = .ok (.aload_n 0, 1) := by decide +kernel
theorem dL_law_998 : decode cL_law 998 = .ok (.iload 5, 2) := by decide +kernel
theorem dL_law_1000 : decode cL_law 1000 = .ok (.iconst 1, 1) := by decide +kernel
theorem dL_law_1001 : decode cL_law 1001 = .ok (.iadd, 1) := by decide +kernel
theorem dL_law_1002 : decode cL_law 1002 = .ok (.iaload, 1) := by decide +kernel
theorem dL_law_1003 : decode cL_law 1003 = .ok (.invokevirtual 199, 3) := by decide +kernel
theorem dL_law_1006 : decode cL_law 1006 = .ok (.istore 7, 2) := by decide +kernel
theorem dL_law_1008 : decode cL_law 1008 = .ok (.goto 199, 3) := by decide +kernel
set_option maxHeartbeats 4000000 in
set_option maxRecDepth 100000 in
theorem kcase_carried {p : Program} {l : Launch} {e : Env} {s : State} {m : MethodId} {below : List Frame} {meth : Method} {c : Code} {b L : Nat} {xs : Nat → Int32} {g : kG} {e0 : Nat} {z w : Nat → Nat} {S M O : wPS} {o od : Nat} {H : Heap} {locs : List Loc} {k0 n0 t : Nat} {Q : State → Prop} {ls : Array Slot} {i n1 n2 n3 n4 : Int32} (hl0 : l.stackTraces = false) (C : kLc p s m c b L xs g e0 z w S M O o od H locs) (hi : kIx L xs i n1 n2 n3 n4) (hR : kRel z w t S M) (ht : t < 512) (hk0 : k0 + 3 ≤ 601024) (hn0 : n0 + 27 ≤ 7293034) (hl : lv_has ls 8 [(5, .int i), (4, .ref od), (3, .ref o), (2, .ref (w 0)), (1, .ref (z 0)), (0, .ref b)])
    (kk : ∀ (S1 M1 O1 : wPS) (H1 : Heap) (locs1 : List Loc) (ls1 : Array Slot), kLc p s m c b L xs g e0 z w S1 M1 O1 o od H1 locs1 → kRel z w (t + 1) S1 M1 → lv_has ls1 8 [(5, .int i), (4, .ref od), (3, .ref o), (2, .ref (w 0)), (1, .ref (z 0)), (0, .ref b)] → W p l e room_1 s m #[Value.ref b] below meth c H1 locs1 (k0 + 3) (n0 + 27) Q (F0 m 1207 ls1 [])) :
    W p l e room_1 s m #[Value.ref b] below meth c H locs k0 n0 Q (F0 m 983 ls []) := by
  obtain ⟨⟨F, hK, hE, hNc, hX, hbl⟩, ⟨hP, hM, hO⟩, ⟨hD, hDM, hDO⟩, ⟨hdSO, hdSM, hdOM⟩, hS, ho, hI, hMI⟩ := C
  obtain ⟨⟨i1, i2, i3, i4⟩, v1, v2, v3, v4⟩ := hi
  have hx := F.1
  have hb := F.2.1
  have hbA : ¬ kAs s b := Nat.not_le.mpr hbl
  have hA : ∀ q : Nat, s.heap.size ≤ q → kAs s q := fun _ h => h
  obtain ⟨cn, hcn, hc⟩ := hR.2.2.2.2.2
  refine lv_aload_n hx hb dL_law_983 rfl (lv_at hl 4 rfl) ?_
  refine lv_aload_n hx hb dL_law_984 rfl (lv_at hl 5 rfl) ?_
  refine lv_iload hx hb dL_law_985 (lv_at hl 0 rfl) ?_
  refine lv_iconst (v := 1) hx hb dL_law_987 (by decide) ?_
  refine lv_iadd hx hb dL_law_988 ?_
  refine ksld hx hb hX hbl hbA hS i1 v1 dL_law_989 ?_
  refine lv_aload_n hx hb dL_law_990 rfl (lv_at hl 2 rfl) ?_
  refine kcallw (kStw (n := 3) (As := [.ref (z 0), .int n1, .ref o]) (rest := []) F hE hNc hK hP hO hD hDO hdSO hS hA (kw_carried_ l g e0 S O H.size (z 0) o n1 _ _ (hI.ob0) ho.1 ho.2.1 (c_X5_carried l hl0 g e0 z S H.size hI n1) (fun E h => by rcases h with ⟨rfl, -⟩ <;> simp)) kw_634 kw_635 kw_87 kw_636 (by decide +kernel) ⟨Nat.le_of_ble_eq_true rfl, Nat.le_of_ble_eq_true rfl⟩ rfl hl.1 rfl (Nat.le_of_ble_eq_true rfl) dL_law_991 ⟨(by show k0 + 1 ≤ 601024; omega), (by show n0 + 6 ≤ 7293034; omega)⟩) rfl hD hDO hS hA (fun r S1 O1 H1 locs1 hp hP1 hO1 hDs1 hDa1 hD1 hDO1 hdis1 _ hf1 hS1 => ?_)
  have hM1 := kM_keep hM hdSM hdOM hf1
  have hMO1 := kdis_symm (kdis_keepM hM hdSM hdOM hDa1)
  have hMS1 := kdis_symm (kdis_keepM hM hdSM hdOM hDs1)
  refine lv_istore (lv' := [(6, .int r), (5, .int i), (4, .ref od), (3, .ref o), (2, .ref (w 0)), (1, .ref (z 0)), (0, .ref b)]) hx hb dL_law_994 hl (by decide) rfl (fun ls hl => ?_)
  refine lv_aload_n hx hb dL_law_996 rfl (lv_at hl 4 rfl) ?_
  refine lv_aload_n hx hb dL_law_997 rfl (lv_at hl 6 rfl) ?_
  refine lv_iload hx hb dL_law_998 (lv_at hl 1 rfl) ?_
  refine lv_iconst (v := 1) hx hb dL_law_1000 (by decide) ?_
  refine lv_iadd hx hb dL_law_1001 ?_
  refine ksld hx hb hX hbl hbA hS1 i1 v1 dL_law_1002 ?_
  refine kcallWI (kV (n := 1) (As := [.int n1]) (rest := []) (b := (w 0)) (C := RX6) F hE hK hM1 hDM hS1 hA (c_X6_carried l hl0 g e0 w M H1.size hMI n1) (rr_Model hK hM1 (hMI.ob (i := 0) (by decide))) kw_641 kw_642 kw_643 kw_5 kw_644 (by decide +kernel) ⟨Nat.le_of_ble_eq_true rfl, Nat.le_of_ble_eq_true rfl⟩ rfl hl.1 rfl (Nat.le_of_ble_eq_true rfl) dL_law_1003 ⟨(by show k0 + 1 + 0 ≤ 601024; omega), (by show n0 + 6 + 0 ≤ 7293034; omega)⟩) rfl hDM hS1 hA (fun _ _ _ _ _ h => False.elim h) (fun r2 M1 H2 locs2 hm2 hP2_ hDx2 hDM1 _ hf2 hS2 => ?_)
  have hO2 := kO_keep hO1 hMO1 hf2
  have hOM2 := kdis_keep hO1 hMO1 hDx2
  have hQ2 := kO_keep hP1 hMS1 hf2
  have hSM2 := kdis_keep hP1 hMS1 hDx2
  have hq := kg_carried (n1 := n1) (r2 := r2) hI hMI hR hcn hc ho hp hm2
  refine lv_istore (lv' := [(7, .int r2), (6, .int r), (5, .int i), (4, .ref od), (3, .ref o), (2, .ref (w 0)), (1, .ref (z 0)), (0, .ref b)]) hx hb dL_law_1006 hl (by decide) rfl (fun ls hl => ?_)
  refine lv_goto (tgt := 1207) hx hb dL_law_1008 (by decide) ?_
  refine W.widen (k := k0 + 3) (n := n0 + 27) (by omega) (by omega) ?_
  exact kk _ _ _ _ _ ls ⟨⟨F, hK, hE, hNc, hX, hbl⟩, ⟨hQ2, hP2_, hO2⟩, ⟨hD1, hDM1, hDO1⟩, ⟨hdis1, (kdis_symm hSM2), (kdis_symm hOM2)⟩, hS2, hq.2, hq.1.1, hq.1.2.1⟩ hq.1.2.2 (lv_sub hl [2, 3, 4, 5, 6, 7] rfl)
theorem dL_law_1011 : decode cL_law 1011 = .ok (.aload_n 1, 1) := by decide +kernel
theorem dL_law_1012 : decode cL_law 1012 = .ok (.aload_n 0, 1) := by decide +kernel
theorem dL_law_1013 : decode cL_law 1013 = .ok (.iload 5, 2) := by decide +kernel
theorem dL_law_1015 : decode cL_law 1015 = .ok (.iconst 1, 1) := by decide +kernel
theorem dL_law_1016 : decode cL_law 1016 = .ok (.iadd, 1) := by decide +kernel
theorem dL_law_1017 : decode cL_law 1017 = .ok (.iaload, 1) := by decide +kernel
theorem dL_law_1018 : decode cL_law 1018 = .ok (.aload_n 3, 1) := by decide +kernel
theorem dL_law_1019 : decode cL_law 1019 = .ok (.invokestatic 200, 3) := by decide +kernel
theorem dL_law_1022 : decode cL_law 1022 = .ok (.istore 6, 2) := by decide +kernel
theorem dL_law_1024 : decode cL_law 1024 = .ok (.aload_n 2, 1) := by decide +kernel
theorem dL_law_1025 : decode cL_law 1025 = .ok (.aload_n 0, 1) := by decide +kernel
theorem dL_law_1026 : decode cL_law 1026 = .ok (.iload 5, 2) := by decide +kernel
theorem dL_law_1028 : decode cL_law 1028 = .ok (.iconst 1, 1) := by decide +kernel
theorem dL_law_1029 : decode cL_law 1029 = .ok (.iadd, 1) := by decide +kernel
theorem dL_law_1030 : decode cL_law 1030 = .ok (.iaload, 1) := by decide +kernel
theorem dL_law_1031 : decode cL_law 1031 = .ok (.invokevirtual 202, 3) := by decide +kernel
theorem dL_law_1034 : decode cL_law 1034 = .ok (.istore 7, 2) := by decide +kernel
theorem dL_law_1036 : decode cL_law 1036 = .ok (.goto 171, 3) := by decide +kernel
set_option maxHeartbeats 4000000 in
set_option maxRecDepth 100000 in
theorem kcase_minutesOf {p : Program} {l : Launch} {e : Env} {s : State} {m : MethodId} {below : List Frame} {meth : Method} {c : Code} {b L : Nat} {xs : Nat → Int32} {g : kG} {e0 : Nat} {z w : Nat → Nat} {S M O : wPS} {o od : Nat} {H : Heap} {locs : List Loc} {k0 n0 t : Nat} {Q : State → Prop} {ls : Array Slot} {i n1 n2 n3 n4 : Int32} (hl0 : l.stackTraces = false) (C : kLc p s m c b L xs g e0 z w S M O o od H locs) (hi : kIx L xs i n1 n2 n3 n4) (hR : kRel z w t S M) (ht : t < 512) (hk0 : k0 + 3 ≤ 601024) (hn0 : n0 + 27 ≤ 7293034) (hl : lv_has ls 8 [(5, .int i), (4, .ref od), (3, .ref o), (2, .ref (w 0)), (1, .ref (z 0)), (0, .ref b)])
    (kk : ∀ (S1 M1 O1 : wPS) (H1 : Heap) (locs1 : List Loc) (ls1 : Array Slot), kLc p s m c b L xs g e0 z w S1 M1 O1 o od H1 locs1 → kRel z w (t + 1) S1 M1 → lv_has ls1 8 [(5, .int i), (4, .ref od), (3, .ref o), (2, .ref (w 0)), (1, .ref (z 0)), (0, .ref b)] → W p l e room_1 s m #[Value.ref b] below meth c H1 locs1 (k0 + 3) (n0 + 27) Q (F0 m 1207 ls1 [])) :
    W p l e room_1 s m #[Value.ref b] below meth c H locs k0 n0 Q (F0 m 1011 ls []) := by
  obtain ⟨⟨F, hK, hE, hNc, hX, hbl⟩, ⟨hP, hM, hO⟩, ⟨hD, hDM, hDO⟩, ⟨hdSO, hdSM, hdOM⟩, hS, ho, hI, hMI⟩ := C
  obtain ⟨⟨i1, i2, i3, i4⟩, v1, v2, v3, v4⟩ := hi
  have hx := F.1
  have hb := F.2.1
  have hbA : ¬ kAs s b := Nat.not_le.mpr hbl
  have hA : ∀ q : Nat, s.heap.size ≤ q → kAs s q := fun _ h => h
  obtain ⟨cn, hcn, hc⟩ := hR.2.2.2.2.2
  refine lv_aload_n hx hb dL_law_1011 rfl (lv_at hl 4 rfl) ?_
  refine lv_aload_n hx hb dL_law_1012 rfl (lv_at hl 5 rfl) ?_
  refine lv_iload hx hb dL_law_1013 (lv_at hl 0 rfl) ?_
  refine lv_iconst (v := 1) hx hb dL_law_1015 (by decide) ?_
  refine lv_iadd hx hb dL_law_1016 ?_
  refine ksld hx hb hX hbl hbA hS i1 v1 dL_law_1017 ?_
  refine lv_aload_n hx hb dL_law_1018 rfl (lv_at hl 2 rfl) ?_
  refine kcallw (kStw (n := 3) (As := [.ref (z 0), .int n1, .ref o]) (rest := []) F hE hNc hK hP hO hD hDO hdSO hS hA (kw_minutesOf_ l g e0 S O H.size (z 0) o n1 _ _ (hI.ob0) ho.1 ho.2.1 (c_X5_minutesOf l hl0 g e0 z S H.size hI n1) (fun E h => by rcases h with ⟨rfl, -⟩ <;> simp)) kw_645 kw_646 kw_87 kw_647 (by decide +kernel) ⟨Nat.le_of_ble_eq_true rfl, Nat.le_of_ble_eq_true rfl⟩ rfl hl.1 rfl (Nat.le_of_ble_eq_true rfl) dL_law_1019 ⟨(by show k0 + 1 ≤ 601024; omega), (by show n0 + 6 ≤ 7293034; omega)⟩) rfl hD hDO hS hA (fun r S1 O1 H1 locs1 hp hP1 hO1 hDs1 hDa1 hD1 hDO1 hdis1 _ hf1 hS1 => ?_)
  have hM1 := kM_keep hM hdSM hdOM hf1
  have hMO1 := kdis_symm (kdis_keepM hM hdSM hdOM hDa1)
  have hMS1 := kdis_symm (kdis_keepM hM hdSM hdOM hDs1)
  refine lv_istore (lv' := [(6, .int r), (5, .int i), (4, .ref od), (3, .ref o), (2, .ref (w 0)), (1, .ref (z 0)), (0, .ref b)]) hx hb dL_law_1022 hl (by decide) rfl (fun ls hl => ?_)
  refine lv_aload_n hx hb dL_law_1024 rfl (lv_at hl 4 rfl) ?_
  refine lv_aload_n hx hb dL_law_1025 rfl (lv_at hl 6 rfl) ?_
  refine lv_iload hx hb dL_law_1026 (lv_at hl 1 rfl) ?_
  refine lv_iconst (v := 1) hx hb dL_law_1028 (by decide) ?_
  refine lv_iadd hx hb dL_law_1029 ?_
  refine ksld hx hb hX hbl hbA hS1 i1 v1 dL_law_1030 ?_
  refine kcallWI (kV (n := 1) (As := [.int n1]) (rest := []) (b := (w 0)) (C := RX6) F hE hK hM1 hDM hS1 hA (c_X6_minutesOf l hl0 g e0 w M H1.size hMI n1) (rr_Model hK hM1 (hMI.ob (i := 0) (by decide))) kw_652 kw_653 kw_654 kw_5 kw_655 (by decide +kernel) ⟨Nat.le_of_ble_eq_true rfl, Nat.le_of_ble_eq_true rfl⟩ rfl hl.1 rfl (Nat.le_of_ble_eq_true rfl) dL_law_1031 ⟨(by show k0 + 1 + 0 ≤ 601024; omega), (by show n0 + 6 + 0 ≤ 7293034; omega)⟩) rfl hDM hS1 hA (fun _ _ _ _ _ h => False.elim h) (fun r2 M1 H2 locs2 hm2 hP2_ hDx2 hDM1 _ hf2 hS2 => ?_)
  have hO2 := kO_keep hO1 hMO1 hf2
  have hOM2 := kdis_keep hO1 hMO1 hDx2
  have hQ2 := kO_keep hP1 hMS1 hf2
  have hSM2 := kdis_keep hP1 hMS1 hDx2
  have hq := kg_minutesOf (n1 := n1) (r2 := r2) hI hMI hR hcn hc ho hp hm2
  refine lv_istore (lv' := [(7, .int r2), (6, .int r), (5, .int i), (4, .ref od), (3, .ref o), (2, .ref (w 0)), (1, .ref (z 0)), (0, .ref b)]) hx hb dL_law_1034 hl (by decide) rfl (fun ls hl => ?_)
  refine lv_goto (tgt := 1207) hx hb dL_law_1036 (by decide) ?_
  refine W.widen (k := k0 + 3) (n := n0 + 27) (by omega) (by omega) ?_
  exact kk _ _ _ _ _ ls ⟨⟨F, hK, hE, hNc, hX, hbl⟩, ⟨hQ2, hP2_, hO2⟩, ⟨hD1, hDM1, hDO1⟩, ⟨hdis1, (kdis_symm hSM2), (kdis_symm hOM2)⟩, hS2, hq.2, hq.1.1, hq.1.2.1⟩ hq.1.2.2 (lv_sub hl [2, 3, 4, 5, 6, 7] rfl)
theorem dL_law_1039 : decode cL_law 1039 = .ok (.aload_n 1, 1) := by decide +kernel
theorem dL_law_1040 : decode cL_law 1040 = .ok (.aload_n 0, 1) := by decide +kernel
theorem dL_law_1041 : decode cL_law 1041 = .ok (.iload 5, 2) := by decide +kernel
theorem dL_law_1043 : decode cL_law 1043 = .ok (.iconst 1, 1) := by decide +kernel
theorem dL_law_1044 : decode cL_law 1044 = .ok (.iadd, 1) := by decide +kernel
theorem dL_law_1045 : decode cL_law 1045 = .ok (.iaload, 1) := by decide +kernel
theorem dL_law_1046 : decode cL_law 1046 = .ok (.aload_n 3, 1) := by decide +kernel
theorem dL_law_1047 : decode cL_law 1047 = .ok (.invokestatic 203, 3) := by decide +kernel
theorem dL_law_1050 : decode cL_law 1050 = .ok (.istore 6, 2) := by decide +kernel
theorem dL_law_1052 : decode cL_law 1052 = .ok (.aload_n 2, 1) := by decide +kernel
theorem dL_law_1053 : decode cL_law 1053 = .ok (.aload_n 0, 1) := by decide +kernel
theorem dL_law_1054 : decode cL_law 1054 = .ok (.iload 5, 2) := by decide +kernel
theorem dL_law_1056 : decode cL_law 1056 = .ok (.iconst 1, 1) := by decide +kernel
theorem dL_law_1057 : decode cL_law 1057 = .ok (.iadd, 1) := by decide +kernel
theorem dL_law_1058 : decode cL_law 1058 = .ok (.iaload, 1) := by decide +kernel
theorem dL_law_1059 : decode cL_law 1059 = .ok (.invokevirtual 205, 3) := by decide +kernel
theorem dL_law_1062 : decode cL_law 1062 = .ok (.istore 7, 2) := by decide +kernel
theorem dL_law_1064 : decode cL_law 1064 = .ok (.goto 143, 3) := by decide +kernel
set_option maxHeartbeats 4000000 in
set_option maxRecDepth 100000 in
theorem kcase_aisleOf {p : Program} {l : Launch} {e : Env} {s : State} {m : MethodId} {below : List Frame} {meth : Method} {c : Code} {b L : Nat} {xs : Nat → Int32} {g : kG} {e0 : Nat} {z w : Nat → Nat} {S M O : wPS} {o od : Nat} {H : Heap} {locs : List Loc} {k0 n0 t : Nat} {Q : State → Prop} {ls : Array Slot} {i n1 n2 n3 n4 : Int32} (hl0 : l.stackTraces = false) (C : kLc p s m c b L xs g e0 z w S M O o od H locs) (hi : kIx L xs i n1 n2 n3 n4) (hR : kRel z w t S M) (ht : t < 512) (hk0 : k0 + 3 ≤ 601024) (hn0 : n0 + 27 ≤ 7293034) (hl : lv_has ls 8 [(5, .int i), (4, .ref od), (3, .ref o), (2, .ref (w 0)), (1, .ref (z 0)), (0, .ref b)])
    (kk : ∀ (S1 M1 O1 : wPS) (H1 : Heap) (locs1 : List Loc) (ls1 : Array Slot), kLc p s m c b L xs g e0 z w S1 M1 O1 o od H1 locs1 → kRel z w (t + 1) S1 M1 → lv_has ls1 8 [(5, .int i), (4, .ref od), (3, .ref o), (2, .ref (w 0)), (1, .ref (z 0)), (0, .ref b)] → W p l e room_1 s m #[Value.ref b] below meth c H1 locs1 (k0 + 3) (n0 + 27) Q (F0 m 1207 ls1 [])) :
    W p l e room_1 s m #[Value.ref b] below meth c H locs k0 n0 Q (F0 m 1039 ls []) := by
  obtain ⟨⟨F, hK, hE, hNc, hX, hbl⟩, ⟨hP, hM, hO⟩, ⟨hD, hDM, hDO⟩, ⟨hdSO, hdSM, hdOM⟩, hS, ho, hI, hMI⟩ := C
  obtain ⟨⟨i1, i2, i3, i4⟩, v1, v2, v3, v4⟩ := hi
  have hx := F.1
  have hb := F.2.1
  have hbA : ¬ kAs s b := Nat.not_le.mpr hbl
  have hA : ∀ q : Nat, s.heap.size ≤ q → kAs s q := fun _ h => h
  obtain ⟨cn, hcn, hc⟩ := hR.2.2.2.2.2
  refine lv_aload_n hx hb dL_law_1039 rfl (lv_at hl 4 rfl) ?_
  refine lv_aload_n hx hb dL_law_1040 rfl (lv_at hl 5 rfl) ?_
  refine lv_iload hx hb dL_law_1041 (lv_at hl 0 rfl) ?_
  refine lv_iconst (v := 1) hx hb dL_law_1043 (by decide) ?_
  refine lv_iadd hx hb dL_law_1044 ?_
  refine ksld hx hb hX hbl hbA hS i1 v1 dL_law_1045 ?_
  refine lv_aload_n hx hb dL_law_1046 rfl (lv_at hl 2 rfl) ?_
  refine kcallw (kStw (n := 3) (As := [.ref (z 0), .int n1, .ref o]) (rest := []) F hE hNc hK hP hO hD hDO hdSO hS hA (kw_aisleOf_ l g e0 S O H.size (z 0) o n1 _ _ (hI.ob0) ho.1 ho.2.1 (c_X5_aisleOf l hl0 g e0 z S H.size hI n1) (fun E h => by rcases h with ⟨rfl, -⟩ | ⟨rfl, -⟩ <;> simp)) kw_656 kw_657 kw_87 kw_658 (by decide +kernel) ⟨Nat.le_of_ble_eq_true rfl, Nat.le_of_ble_eq_true rfl⟩ rfl hl.1 rfl (Nat.le_of_ble_eq_true rfl) dL_law_1047 ⟨(by show k0 + 2 ≤ 601024; omega), (by show n0 + 12 ≤ 7293034; omega)⟩) rfl hD hDO hS hA (fun r S1 O1 H1 locs1 hp hP1 hO1 hDs1 hDa1 hD1 hDO1 hdis1 _ hf1 hS1 => ?_)
  have hM1 := kM_keep hM hdSM hdOM hf1
  have hMO1 := kdis_symm (kdis_keepM hM hdSM hdOM hDa1)
  have hMS1 := kdis_symm (kdis_keepM hM hdSM hdOM hDs1)
  refine lv_istore (lv' := [(6, .int r), (5, .int i), (4, .ref od), (3, .ref o), (2, .ref (w 0)), (1, .ref (z 0)), (0, .ref b)]) hx hb dL_law_1050 hl (by decide) rfl (fun ls hl => ?_)
  refine lv_aload_n hx hb dL_law_1052 rfl (lv_at hl 4 rfl) ?_
  refine lv_aload_n hx hb dL_law_1053 rfl (lv_at hl 6 rfl) ?_
  refine lv_iload hx hb dL_law_1054 (lv_at hl 1 rfl) ?_
  refine lv_iconst (v := 1) hx hb dL_law_1056 (by decide) ?_
  refine lv_iadd hx hb dL_law_1057 ?_
  refine ksld hx hb hX hbl hbA hS1 i1 v1 dL_law_1058 ?_
  refine kcallWI (kV (n := 1) (As := [.int n1]) (rest := []) (b := (w 0)) (C := RX6) F hE hK hM1 hDM hS1 hA (c_X6_aisleOf l hl0 g e0 w M H1.size hMI n1) (rr_Model hK hM1 (hMI.ob (i := 0) (by decide))) kw_664 kw_665 kw_666 kw_5 kw_667 (by decide +kernel) ⟨Nat.le_of_ble_eq_true rfl, Nat.le_of_ble_eq_true rfl⟩ rfl hl.1 rfl (Nat.le_of_ble_eq_true rfl) dL_law_1059 ⟨(by show k0 + 2 + 0 ≤ 601024; omega), (by show n0 + 12 + 0 ≤ 7293034; omega)⟩) rfl hDM hS1 hA (fun _ _ _ _ _ h => False.elim h) (fun r2 M1 H2 locs2 hm2 hP2_ hDx2 hDM1 _ hf2 hS2 => ?_)
  have hO2 := kO_keep hO1 hMO1 hf2
  have hOM2 := kdis_keep hO1 hMO1 hDx2
  have hQ2 := kO_keep hP1 hMS1 hf2
  have hSM2 := kdis_keep hP1 hMS1 hDx2
  have hq := kg_aisleOf (n1 := n1) hI hMI hR hcn hc ho hp hm2
  refine lv_istore (lv' := [(7, .int r2), (6, .int r), (5, .int i), (4, .ref od), (3, .ref o), (2, .ref (w 0)), (1, .ref (z 0)), (0, .ref b)]) hx hb dL_law_1062 hl (by decide) rfl (fun ls hl => ?_)
  refine lv_goto (tgt := 1207) hx hb dL_law_1064 (by decide) ?_
  refine W.widen (k := k0 + 3) (n := n0 + 27) (by omega) (by omega) ?_
  exact kk _ _ _ _ _ ls ⟨⟨F, hK, hE, hNc, hX, hbl⟩, ⟨hQ2, hP2_, hO2⟩, ⟨hD1, hDM1, hDO1⟩, ⟨hdis1, (kdis_symm hSM2), (kdis_symm hOM2)⟩, hS2, hq.2, hq.1.1, hq.1.2.1⟩ hq.1.2.2 (lv_sub hl [2, 3, 4, 5, 6, 7] rfl)
theorem dL_law_1067 : decode cL_law 1067 = .ok (.aload_n 1, 1) := by decide +kernel
theorem dL_law_1068 : decode cL_law 1068 = .ok (.aload_n 0, 1) := by decide +kernel
theorem dL_law_1069 : decode cL_law 1069 = .ok (.iload 5, 2) := by decide +kernel
theorem dL_law_1071 : decode cL_law 1071 = .ok (.iconst 1, 1) := by decide +kernel
theorem dL_law_1072 : decode cL_law 1072 = .ok (.iadd, 1) := by decide +kernel
theorem dL_law_1073 : decode cL_law 1073 = .ok (.iaload, 1) := by decide +kernel
theorem dL_law_1074 : decode cL_law 1074 = .ok (.aload_n 3, 1) := by decide +kernel
theorem dL_law_1075 : decode cL_law 1075 = .ok (.invokestatic 206, 3) := by decide +kernel
theorem dL_law_1078 : decode cL_law 1078 = .ok (.istore 6, 2) := by decide +kernel
theorem dL_law_1080 : decode cL_law 1080 = .ok (.aload_n 2, 1) := by decide +kernel
theorem dL_law_1081 : decode cL_law 1081 = .ok (.aload_n 0, 1) := by decide +kernel
theorem dL_law_1082 : decode cL_law 1082 = .ok (.iload 5, 2) := by decide +kernel
theorem dL_law_1084 : decode cL_law 1084 = .ok (.iconst 1, 1) := by decide +kernel
theorem dL_law_1085 : decode cL_law 1085 = .ok (.iadd, 1) := by decide +kernel
theorem dL_law_1086 : decode cL_law 1086 = .ok (.iaload, 1) := by decide +kernel
theorem dL_law_1087 : decode cL_law 1087 = .ok (.invokevirtual 208, 3) := by decide +kernel
theorem dL_law_1090 : decode cL_law 1090 = .ok (.istore 7, 2) := by decide +kernel
theorem dL_law_1092 : decode cL_law 1092 = .ok (.goto 115, 3) := by decide +kernel
set_option maxHeartbeats 4000000 in
set_option maxRecDepth 100000 in
theorem kcase_pass {p : Program} {l : Launch} {e : Env} {s : State} {m : MethodId} {below : List Frame} {meth : Method} {c : Code} {b L : Nat} {xs : Nat → Int32} {g : kG} {e0 : Nat} {z w : Nat → Nat} {S M O : wPS} {o od : Nat} {H : Heap} {locs : List Loc} {k0 n0 t : Nat} {Q : State → Prop} {ls : Array Slot} {i n1 n2 n3 n4 : Int32} (hl0 : l.stackTraces = false) (C : kLc p s m c b L xs g e0 z w S M O o od H locs) (hi : kIx L xs i n1 n2 n3 n4) (hR : kRel z w t S M) (ht : t < 512) (hk0 : k0 + 3 ≤ 601024) (hn0 : n0 + 27 ≤ 7293034) (hl : lv_has ls 8 [(5, .int i), (4, .ref od), (3, .ref o), (2, .ref (w 0)), (1, .ref (z 0)), (0, .ref b)])
    (kk : ∀ (S1 M1 O1 : wPS) (H1 : Heap) (locs1 : List Loc) (ls1 : Array Slot), kLc p s m c b L xs g e0 z w S1 M1 O1 o od H1 locs1 → kRel z w (t + 1) S1 M1 → lv_has ls1 8 [(5, .int i), (4, .ref od), (3, .ref o), (2, .ref (w 0)), (1, .ref (z 0)), (0, .ref b)] → W p l e room_1 s m #[Value.ref b] below meth c H1 locs1 (k0 + 3) (n0 + 27) Q (F0 m 1207 ls1 [])) :
    W p l e room_1 s m #[Value.ref b] below meth c H locs k0 n0 Q (F0 m 1067 ls []) := by
  obtain ⟨⟨F, hK, hE, hNc, hX, hbl⟩, ⟨hP, hM, hO⟩, ⟨hD, hDM, hDO⟩, ⟨hdSO, hdSM, hdOM⟩, hS, ho, hI, hMI⟩ := C
  obtain ⟨⟨i1, i2, i3, i4⟩, v1, v2, v3, v4⟩ := hi
  have hx := F.1
  have hb := F.2.1
  have hbA : ¬ kAs s b := Nat.not_le.mpr hbl
  have hA : ∀ q : Nat, s.heap.size ≤ q → kAs s q := fun _ h => h
  obtain ⟨cn, hcn, hc⟩ := hR.2.2.2.2.2
  refine lv_aload_n hx hb dL_law_1067 rfl (lv_at hl 4 rfl) ?_
  refine lv_aload_n hx hb dL_law_1068 rfl (lv_at hl 5 rfl) ?_
  refine lv_iload hx hb dL_law_1069 (lv_at hl 0 rfl) ?_
  refine lv_iconst (v := 1) hx hb dL_law_1071 (by decide) ?_
  refine lv_iadd hx hb dL_law_1072 ?_
  refine ksld hx hb hX hbl hbA hS i1 v1 dL_law_1073 ?_
  refine lv_aload_n hx hb dL_law_1074 rfl (lv_at hl 2 rfl) ?_
  refine kcallw (kStw (n := 3) (As := [.ref (z 0), .int n1, .ref o]) (rest := []) F hE hNc hK hP hO hD hDO hdSO hS hA (kw_pass_ l g e0 S O H.size (z 0) o n1 _ _ (hI.ob0) ho.1 ho.2.1 (c_X5_pass l hl0 g e0 z S H.size hI n1) (fun E h => by rcases h with ⟨rfl, -⟩ <;> simp)) kw_668 kw_669 kw_87 kw_670 (by decide +kernel) ⟨Nat.le_of_ble_eq_true rfl, Nat.le_of_ble_eq_true rfl⟩ rfl hl.1 rfl (Nat.le_of_ble_eq_true rfl) dL_law_1075 ⟨(by show k0 + 1 ≤ 601024; omega), (by show n0 + 6 ≤ 7293034; omega)⟩) rfl hD hDO hS hA (fun r S1 O1 H1 locs1 hp hP1 hO1 hDs1 hDa1 hD1 hDO1 hdis1 _ hf1 hS1 => ?_)
  have hM1 := kM_keep hM hdSM hdOM hf1
  have hMO1 := kdis_symm (kdis_keepM hM hdSM hdOM hDa1)
  have hMS1 := kdis_symm (kdis_keepM hM hdSM hdOM hDs1)
  refine lv_istore (lv' := [(6, .int r), (5, .int i), (4, .ref od), (3, .ref o), (2, .ref (w 0)), (1, .ref (z 0)), (0, .ref b)]) hx hb dL_law_1078 hl (by decide) rfl (fun ls hl => ?_)
  refine lv_aload_n hx hb dL_law_1080 rfl (lv_at hl 4 rfl) ?_
  refine lv_aload_n hx hb dL_law_1081 rfl (lv_at hl 6 rfl) ?_
  refine lv_iload hx hb dL_law_1082 (lv_at hl 1 rfl) ?_
  refine lv_iconst (v := 1) hx hb dL_law_1084 (by decide) ?_
  refine lv_iadd hx hb dL_law_1085 ?_
  refine ksld hx hb hX hbl hbA hS1 i1 v1 dL_law_1086 ?_
  refine kcallWI (kV (n := 1) (As := [.int n1]) (rest := []) (b := (w 0)) (C := RX6) F hE hK hM1 hDM hS1 hA (c_X6_pass l hl0 g e0 w M H1.size hMI n1) (rr_Model hK hM1 (hMI.ob (i := 0) (by decide))) kw_678 kw_679 kw_680 kw_5 kw_681 (by decide +kernel) ⟨Nat.le_of_ble_eq_true rfl, Nat.le_of_ble_eq_true rfl⟩ rfl hl.1 rfl (Nat.le_of_ble_eq_true rfl) dL_law_1087 ⟨(by show k0 + 1 + 0 ≤ 601024; omega), (by show n0 + 6 + 0 ≤ 7293034; omega)⟩) rfl hDM hS1 hA (fun _ _ _ _ _ h => False.elim h) (fun r2 M1 H2 locs2 hm2 hP2_ hDx2 hDM1 _ hf2 hS2 => ?_)
  have hO2 := kO_keep hO1 hMO1 hf2
  have hOM2 := kdis_keep hO1 hMO1 hDx2
  have hQ2 := kO_keep hP1 hMS1 hf2
  have hSM2 := kdis_keep hP1 hMS1 hDx2
  have hq := kg_pass (n1 := n1) (r2 := r2) hI hMI hR hcn hc ho hp hm2
  refine lv_istore (lv' := [(7, .int r2), (6, .int r), (5, .int i), (4, .ref od), (3, .ref o), (2, .ref (w 0)), (1, .ref (z 0)), (0, .ref b)]) hx hb dL_law_1090 hl (by decide) rfl (fun ls hl => ?_)
  refine lv_goto (tgt := 1207) hx hb dL_law_1092 (by decide) ?_
  refine W.widen (k := k0 + 3) (n := n0 + 27) (by omega) (by omega) ?_
  exact kk _ _ _ _ _ ls ⟨⟨F, hK, hE, hNc, hX, hbl⟩, ⟨hQ2, hP2_, hO2⟩, ⟨hD1, hDM1, hDO1⟩, ⟨hdis1, (kdis_symm hSM2), (kdis_symm hOM2)⟩, hS2, hq.2, hq.1.1, hq.1.2.1⟩ hq.1.2.2 (lv_sub hl [2, 3, 4, 5, 6, 7] rfl)
theorem dL_law_1095 : decode cL_law 1095 = .ok (.aload_n 1, 1) := by decide +kernel
theorem dL_law_1096 : decode cL_law 1096 = .ok (.invokevirtual 209, 3) := by decide +kernel
theorem dL_law_1099 : decode cL_law 1099 = .ok (.aload_n 2, 1) := by decide +kernel
theorem dL_law_1100 : decode cL_law 1100 = .ok (.invokevirtual 212, 3) := by decide +kernel
theorem dL_law_1103 : decode cL_law 1103 = .ok (.if_icmp .eq 104, 3) := by decide +kernel
theorem dL_law_1106 : decode cL_law 1106 = .ok (.iconst 0, 1) := by decide +kernel
theorem dL_law_1107 : decode cL_law 1107 = .ok (.ireturn, 1) := by decide +kernel
set_option maxHeartbeats 4000000 in
set_option maxRecDepth 100000 in
theorem kcase_minute {p : Program} {l : Launch} {e : Env} {s : State} {m : MethodId} {below : List Frame} {meth : Method} {c : Code} {b L : Nat} {xs : Nat → Int32} {g : kG} {e0 : Nat} {z w : Nat → Nat} {S M O : wPS} {o od : Nat} {H : Heap} {locs : List Loc} {k0 n0 t : Nat} {Q : State → Prop} {ls : Array Slot} {i n1 n2 n3 n4 : Int32} (hl0 : l.stackTraces = false) (C : kLc p s m c b L xs g e0 z w S M O o od H locs) (hi : kIx L xs i n1 n2 n3 n4) (hR : kRel z w t S M) (ht : t < 512) (hk0 : k0 + 3 ≤ 601024) (hn0 : n0 + 27 ≤ 7293034) (hl : lv_has ls 8 [(5, .int i), (4, .ref od), (3, .ref o), (2, .ref (w 0)), (1, .ref (z 0)), (0, .ref b)])
    (kk : ∀ (S1 M1 O1 : wPS) (H1 : Heap) (locs1 : List Loc) (ls1 : Array Slot), kLc p s m c b L xs g e0 z w S1 M1 O1 o od H1 locs1 → kRel z w (t + 1) S1 M1 → lv_has ls1 8 [(5, .int i), (4, .ref od), (3, .ref o), (2, .ref (w 0)), (1, .ref (z 0)), (0, .ref b)] → W p l e room_1 s m #[Value.ref b] below meth c H1 locs1 (k0 + 3) (n0 + 27) Q (F0 m 1207 ls1 [])) :
    W p l e room_1 s m #[Value.ref b] below meth c H locs k0 n0 Q (F0 m 1095 ls []) := by
  obtain ⟨⟨F, hK, hE, hNc, hX, hbl⟩, ⟨hP, hM, hO⟩, ⟨hD, hDM, hDO⟩, ⟨hdSO, hdSM, hdOM⟩, hS, ho, hI, hMI⟩ := C
  obtain ⟨⟨i1, i2, i3, i4⟩, v1, v2, v3, v4⟩ := hi
  have hx := F.1
  have hb := F.2.1
  have hbA : ¬ kAs s b := Nat.not_le.mpr hbl
  have hA : ∀ q : Nat, s.heap.size ≤ q → kAs s q := fun _ h => h
  obtain ⟨cn, hcn, hc⟩ := hR.2.2.2.2.2
  refine lv_aload_n hx hb dL_law_1095 rfl (lv_at hl 4 rfl) ?_
  refine kcallWI (kV (n := 0) (As := []) (rest := []) (b := (z 0)) (C := RX5) F hE hK hP hD hS hA (c_X5_minute l hl0 g e0 z S H.size hI) (rr_Pickwave hK hP hI.ob0) kw_682 kw_683 kw_684 kw_2 kw_685 (by decide +kernel) ⟨Nat.le_of_ble_eq_true rfl, Nat.le_of_ble_eq_true rfl⟩ rfl hl.1 rfl (Nat.le_of_ble_eq_true rfl) dL_law_1096 ⟨(by show k0 + 0 ≤ 601024; omega), (by show n0 + 0 ≤ 7293034; omega)⟩) rfl hD hS hA (fun _ _ _ _ _ h => False.elim h) (fun r2 S1 H2 locs2 hp hP2_ hDx2 hD1 _ hf2 hS2 => ?_)
  have hM2 := kO_keep hM hdSM hf2
  have hO2 := kO_keep hO hdSO hf2
  have hMS1 := kdis_symm (kdis_keep hM hdSM hDx2)
  have hdis1 := kdis_keep hO hdSO hDx2
  refine lv_aload_n hx hb dL_law_1099 rfl (lv_at hl 3 rfl) ?_
  refine kcallWI (kV (n := 0) (As := []) (rest := [.int r2]) (b := (w 0)) (C := RX6) F hE hK hM2 hDM hS2 hA (c_X6_minute l hl0 g e0 w M H2.size hMI) (rr_Model hK hM2 (hMI.ob (i := 0) (by decide))) kw_686 kw_687 kw_688 kw_5 kw_689 (by decide +kernel) ⟨Nat.le_of_ble_eq_true rfl, Nat.le_of_ble_eq_true rfl⟩ rfl hl.1 rfl (Nat.le_of_ble_eq_true rfl) dL_law_1100 ⟨(by show k0 + 0 + 0 ≤ 601024; omega), (by show n0 + 0 + 0 ≤ 7293034; omega)⟩) rfl hDM hS2 hA (fun _ _ _ _ _ h => False.elim h) (fun r3 M1 H3 locs3 hm3 hP3_ hDx3 hDM1 _ hf3 hS3 => ?_)
  have hO3 := kO_keep hO2 (kdis_symm hdOM) hf3
  have hOM3 := kdis_keep hO2 (kdis_symm hdOM) hDx3
  have hQ3 := kO_keep hP2_ hMS1 hf3
  have hSM3 := kdis_keep hP2_ hMS1 hDx3
  have hq := kg_minute (r2 := r3) hI hMI hR hcn hc hp hm3
  refine lv_icmp_eq (tgt := 1207) hx hb dL_law_1103 (by decide) (fun c1 => ?_) (fun c1 => ?_)
  · refine W.widen (k := k0 + 3) (n := n0 + 27) (by omega) (by omega) ?_
    exact kk _ _ _ _ _ ls ⟨⟨F, hK, hE, hNc, hX, hbl⟩, ⟨hQ3, hP3_, hO3⟩, ⟨hD1, hDM1, hDO⟩, ⟨hdis1, (kdis_symm hSM3), (kdis_symm hOM3)⟩, hS3, ho, hq.1.1, hq.1.2.1⟩ hq.1.2.2 (lv_sub hl [0, 1, 2, 3, 4, 5] rfl)
  · exact absurd hq.2 c1
theorem dL_law_1108 : decode cL_law 1108 = .ok (.aload_n 1, 1) := by decide +kernel
theorem dL_law_1109 : decode cL_law 1109 = .ok (.invokevirtual 213, 3) := by decide +kernel
theorem dL_law_1112 : decode cL_law 1112 = .ok (.pop, 1) := by decide +kernel
theorem dL_law_1113 : decode cL_law 1113 = .ok (.aload_n 2, 1) := by decide +kernel
theorem dL_law_1114 : decode cL_law 1114 = .ok (.invokevirtual 216, 3) := by decide +kernel
theorem dL_law_1117 : decode cL_law 1117 = .ok (.pop, 1) := by decide +kernel
theorem dL_law_1118 : decode cL_law 1118 = .ok (.goto 89, 3) := by decide +kernel
set_option maxHeartbeats 4000000 in
set_option maxRecDepth 100000 in
theorem kcase_scans {p : Program} {l : Launch} {e : Env} {s : State} {m : MethodId} {below : List Frame} {meth : Method} {c : Code} {b L : Nat} {xs : Nat → Int32} {g : kG} {e0 : Nat} {z w : Nat → Nat} {S M O : wPS} {o od : Nat} {H : Heap} {locs : List Loc} {k0 n0 t : Nat} {Q : State → Prop} {ls : Array Slot} {i n1 n2 n3 n4 : Int32} (hl0 : l.stackTraces = false) (C : kLc p s m c b L xs g e0 z w S M O o od H locs) (hi : kIx L xs i n1 n2 n3 n4) (hR : kRel z w t S M) (ht : t < 512) (hk0 : k0 + 3 ≤ 601024) (hn0 : n0 + 27 ≤ 7293034) (hl : lv_has ls 8 [(5, .int i), (4, .ref od), (3, .ref o), (2, .ref (w 0)), (1, .ref (z 0)), (0, .ref b)])
    (kk : ∀ (S1 M1 O1 : wPS) (H1 : Heap) (locs1 : List Loc) (ls1 : Array Slot), kLc p s m c b L xs g e0 z w S1 M1 O1 o od H1 locs1 → kRel z w (t + 1) S1 M1 → lv_has ls1 8 [(5, .int i), (4, .ref od), (3, .ref o), (2, .ref (w 0)), (1, .ref (z 0)), (0, .ref b)] → W p l e room_1 s m #[Value.ref b] below meth c H1 locs1 (k0 + 3) (n0 + 27) Q (F0 m 1207 ls1 [])) :
    W p l e room_1 s m #[Value.ref b] below meth c H locs k0 n0 Q (F0 m 1108 ls []) := by
  obtain ⟨⟨F, hK, hE, hNc, hX, hbl⟩, ⟨hP, hM, hO⟩, ⟨hD, hDM, hDO⟩, ⟨hdSO, hdSM, hdOM⟩, hS, ho, hI, hMI⟩ := C
  obtain ⟨⟨i1, i2, i3, i4⟩, v1, v2, v3, v4⟩ := hi
  have hx := F.1
  have hb := F.2.1
  have hbA : ¬ kAs s b := Nat.not_le.mpr hbl
  have hA : ∀ q : Nat, s.heap.size ≤ q → kAs s q := fun _ h => h
  obtain ⟨cn, hcn, hc⟩ := hR.2.2.2.2.2
  refine lv_aload_n hx hb dL_law_1108 rfl (lv_at hl 4 rfl) ?_
  refine kcallWI (kV (n := 0) (As := []) (rest := []) (b := (z 0)) (C := RX5) F hE hK hP hD hS hA (c_X5_scans l hl0 g e0 z S H.size hI) (rr_Pickwave hK hP hI.ob0) kw_690 kw_691 kw_692 kw_2 kw_693 (by decide +kernel) ⟨Nat.le_of_ble_eq_true rfl, Nat.le_of_ble_eq_true rfl⟩ rfl hl.1 rfl (Nat.le_of_ble_eq_true rfl) dL_law_1109 ⟨(by show k0 + 0 ≤ 601024; omega), (by show n0 + 0 ≤ 7293034; omega)⟩) rfl hD hS hA (fun _ _ _ _ _ h => False.elim h) (fun r2 S1 H2 locs2 hp hP2_ hDx2 hD1 _ hf2 hS2 => ?_)
  have hM2 := kO_keep hM hdSM hf2
  have hO2 := kO_keep hO hdSO hf2
  have hMS1 := kdis_symm (kdis_keep hM hdSM hDx2)
  have hdis1 := kdis_keep hO hdSO hDx2
  refine lv_pop hx hb dL_law_1112 rfl ?_
  refine lv_aload_n hx hb dL_law_1113 rfl (lv_at hl 3 rfl) ?_
  refine kcallWI (kV (n := 0) (As := []) (rest := []) (b := (w 0)) (C := RX6) F hE hK hM2 hDM hS2 hA (c_X6_scans l hl0 g e0 w M H2.size hMI) (rr_Model hK hM2 (hMI.ob (i := 0) (by decide))) kw_695 kw_696 kw_697 kw_5 kw_698 (by decide +kernel) ⟨Nat.le_of_ble_eq_true rfl, Nat.le_of_ble_eq_true rfl⟩ rfl hl.1 rfl (Nat.le_of_ble_eq_true rfl) dL_law_1114 ⟨(by show k0 + 0 + 0 ≤ 601024; omega), (by show n0 + 0 + 0 ≤ 7293034; omega)⟩) rfl hDM hS2 hA (fun _ _ _ _ _ h => False.elim h) (fun r3 M1 H3 locs3 hm3 hP3_ hDx3 hDM1 _ hf3 hS3 => ?_)
  have hO3 := kO_keep hO2 (kdis_symm hdOM) hf3
  have hOM3 := kdis_keep hO2 (kdis_symm hdOM) hDx3
  have hQ3 := kO_keep hP2_ hMS1 hf3
  have hSM3 := kdis_keep hP2_ hMS1 hDx3
  have hq := kg_scans (r2 := r3) hI hMI hR hcn hc hp hm3
  refine lv_pop hx hb dL_law_1117 rfl ?_
  refine lv_goto (tgt := 1207) hx hb dL_law_1118 (by decide) ?_
  refine W.widen (k := k0 + 3) (n := n0 + 27) (by omega) (by omega) ?_
  exact kk _ _ _ _ _ ls ⟨⟨F, hK, hE, hNc, hX, hbl⟩, ⟨hQ3, hP3_, hO3⟩, ⟨hD1, hDM1, hDO⟩, ⟨hdis1, (kdis_symm hSM3), (kdis_symm hOM3)⟩, hS3, ho, hq.1, hq.2.1⟩ hq.2.2 (lv_sub hl [0, 1, 2, 3, 4, 5] rfl)
