theorem dL_law_1121 : decode cL_law 1121 = .ok (.aload_n 1, 1) := by decide +kernel
theorem dL_law_1122 : decode cL_law 1122 = .ok (.aload_n 0, 1) := by decide +kernel
theorem dL_law_1123 : decode cL_law 1123 = .ok (.iload 5, 2) := by decide +kernel
theorem dL_law_1125 : decode cL_law 1125 = .ok (.iconst 1, 1) := by decide +kernel
theorem dL_law_1126 : decode cL_law 1126 = .ok (.iadd, 1) := by decide +kernel
theorem dL_law_1127 : decode cL_law 1127 = .ok (.iaload, 1) := by decide +kernel
theorem dL_law_1128 : decode cL_law 1128 = .ok (.aload_n 3, 1) := by decide +kernel
theorem dL_law_1129 : decode cL_law 1129 = .ok (.invokestatic 217, 3) := by decide +kernel
theorem dL_law_1132 : decode cL_law 1132 = .ok (.istore 6, 2) := by decide +kernel
theorem dL_law_1134 : decode cL_law 1134 = .ok (.aload_n 2, 1) := by decide +kernel
theorem dL_law_1135 : decode cL_law 1135 = .ok (.aload_n 0, 1) := by decide +kernel
theorem dL_law_1136 : decode cL_law 1136 = .ok (.iload 5, 2) := by decide +kernel
theorem dL_law_1138 : decode cL_law 1138 = .ok (.iconst 1, 1) := by decide +kernel
theorem dL_law_1139 : decode cL_law 1139 = .ok (.iadd, 1) := by decide +kernel
theorem dL_law_1140 : decode cL_law 1140 = .ok (.iaload, 1) := by decide +kernel
theorem dL_law_1141 : decode cL_law 1141 = .ok (.invokevirtual 219, 3) := by decide +kernel
theorem dL_law_1144 : decode cL_law 1144 = .ok (.istore 7, 2) := by decide +kernel
theorem dL_law_1146 : decode cL_law 1146 = .ok (.goto 61, 3) := by decide +kernel
set_option maxHeartbeats 4000000 in
set_option maxRecDepth 100000 in
theorem kcase_scanOrder {p : Program} {l : Launch} {e : Env} {s : State} {m : MethodId} {below : List Frame} {meth : Method} {c : Code} {b L : Nat} {xs : Nat → Int32} {g : kG} {e0 : Nat} {z w : Nat → Nat} {S M O : wPS} {o od : Nat} {H : Heap} {locs : List Loc} {k0 n0 t : Nat} {Q : State → Prop} {ls : Array Slot} {i n1 n2 n3 n4 : Int32} (hl0 : l.stackTraces = false) (C : kLc p s m c b L xs g e0 z w S M O o od H locs) (hi : kIx L xs i n1 n2 n3 n4) (hR : kRel z w t S M) (ht : t < 512) (hk0 : k0 + 3 ≤ 601024) (hn0 : n0 + 27 ≤ 7293034) (hl : lv_has ls 8 [(5, .int i), (4, .ref od), (3, .ref o), (2, .ref (w 0)), (1, .ref (z 0)), (0, .ref b)])
    (kk : ∀ (S1 M1 O1 : wPS) (H1 : Heap) (locs1 : List Loc) (ls1 : Array Slot), kLc p s m c b L xs g e0 z w S1 M1 O1 o od H1 locs1 → kRel z w (t + 1) S1 M1 → lv_has ls1 8 [(5, .int i), (4, .ref od), (3, .ref o), (2, .ref (w 0)), (1, .ref (z 0)), (0, .ref b)] → W p l e room_1 s m #[Value.ref b] below meth c H1 locs1 (k0 + 3) (n0 + 27) Q (F0 m 1207 ls1 [])) :
    W p l e room_1 s m #[Value.ref b] below meth c H locs k0 n0 Q (F0 m 1121 ls []) := by
  obtain ⟨⟨F, hK, hE, hNc, hX, hbl⟩, ⟨hP, hM, hO⟩, ⟨hD, hDM, hDO⟩, ⟨hdSO, hdSM, hdOM⟩, hS, ho, hI, hMI⟩ := C
  obtain ⟨⟨i1, i2, i3, i4⟩, v1, v2, v3, v4⟩ := hi
  have hx := F.1
  have hb := F.2.1
  have hbA : ¬ kAs s b := Nat.not_le.mpr hbl
  have hA : ∀ q : Nat, s.heap.size ≤ q → kAs s q := fun _ h => h
  obtain ⟨cn, hcn, hc⟩ := hR.2.2.2.2.2
  refine lv_aload_n hx hb dL_law_1121 rfl (lv_at hl 4 rfl) ?_
  refine lv_aload_n hx hb dL_law_1122 rfl (lv_at hl 5 rfl) ?_
  refine lv_iload hx hb dL_law_1123 (lv_at hl 0 rfl) ?_
  refine lv_iconst (v := 1) hx hb dL_law_1125 (by decide) ?_
  refine lv_iadd hx hb dL_law_1126 ?_
  refine ksld hx hb hX hbl hbA hS i1 v1 dL_law_1127 ?_
  refine lv_aload_n hx hb dL_law_1128 rfl (lv_at hl 2 rfl) ?_
  refine kcallw (kStw (n := 3) (As := [.ref (z 0), .int n1, .ref o]) (rest := []) F hE hNc hK hP hO hD hDO hdSO hS hA (kw_scanOrder_ l g e0 S O H.size (z 0) o n1 _ _ (hI.ob0) ho.1 ho.2.1 (c_X5_scanOrder l hl0 g e0 z S H.size hI n1) (fun E h => by rcases h with rfl <;> simp)) kw_699 kw_700 kw_87 kw_701 (by decide +kernel) ⟨Nat.le_of_ble_eq_true rfl, Nat.le_of_ble_eq_true rfl⟩ rfl hl.1 rfl (Nat.le_of_ble_eq_true rfl) dL_law_1129 ⟨(by show k0 + 1 ≤ 601024; omega), (by show n0 + 6 ≤ 7293034; omega)⟩) rfl hD hDO hS hA (fun r S1 O1 H1 locs1 hp hP1 hO1 hDs1 hDa1 hD1 hDO1 hdis1 _ hf1 hS1 => ?_)
  have hM1 := kM_keep hM hdSM hdOM hf1
  have hMO1 := kdis_symm (kdis_keepM hM hdSM hdOM hDa1)
  have hMS1 := kdis_symm (kdis_keepM hM hdSM hdOM hDs1)
  refine lv_istore (lv' := [(6, .int r), (5, .int i), (4, .ref od), (3, .ref o), (2, .ref (w 0)), (1, .ref (z 0)), (0, .ref b)]) hx hb dL_law_1132 hl (by decide) rfl (fun ls hl => ?_)
  refine lv_aload_n hx hb dL_law_1134 rfl (lv_at hl 4 rfl) ?_
  refine lv_aload_n hx hb dL_law_1135 rfl (lv_at hl 6 rfl) ?_
  refine lv_iload hx hb dL_law_1136 (lv_at hl 1 rfl) ?_
  refine lv_iconst (v := 1) hx hb dL_law_1138 (by decide) ?_
  refine lv_iadd hx hb dL_law_1139 ?_
  refine ksld hx hb hX hbl hbA hS1 i1 v1 dL_law_1140 ?_
  refine kcallWI (kV (n := 1) (As := [.int n1]) (rest := []) (b := (w 0)) (C := RX6) F hE hK hM1 hDM hS1 hA (c_X6_scanOrder l hl0 g e0 w M H1.size hMI n1 cn hc (by omega)) (rr_Model hK hM1 (hMI.ob (i := 0) (by decide))) kw_711 kw_712 kw_713 kw_5 kw_714 (by decide +kernel) ⟨Nat.le_of_ble_eq_true rfl, Nat.le_of_ble_eq_true rfl⟩ rfl hl.1 rfl (Nat.le_of_ble_eq_true rfl) dL_law_1141 ⟨(by show k0 + 1 + 0 ≤ 601024; omega), (by show n0 + 6 + 0 ≤ 7293034; omega)⟩) rfl hDM hS1 hA (fun _ _ _ _ _ h => False.elim h) (fun r2 M1 H2 locs2 hm2 hP2_ hDx2 hDM1 _ hf2 hS2 => ?_)
  have hO2 := kO_keep hO1 hMO1 hf2
  have hOM2 := kdis_keep hO1 hMO1 hDx2
  have hQ2 := kO_keep hP1 hMS1 hf2
  have hSM2 := kdis_keep hP1 hMS1 hDx2
  have hq := kg_scanOrder (n1 := n1) hI hMI hR hcn hc ho hp hm2
  refine lv_istore (lv' := [(7, .int r2), (6, .int r), (5, .int i), (4, .ref od), (3, .ref o), (2, .ref (w 0)), (1, .ref (z 0)), (0, .ref b)]) hx hb dL_law_1144 hl (by decide) rfl (fun ls hl => ?_)
  refine lv_goto (tgt := 1207) hx hb dL_law_1146 (by decide) ?_
  refine W.widen (k := k0 + 3) (n := n0 + 27) (by omega) (by omega) ?_
  exact kk _ _ _ _ _ ls ⟨⟨F, hK, hE, hNc, hX, hbl⟩, ⟨hQ2, hP2_, hO2⟩, ⟨hD1, hDM1, hDO1⟩, ⟨hdis1, (kdis_symm hSM2), (kdis_symm hOM2)⟩, hS2, hq.2, hq.1.1, hq.1.2.1⟩ hq.1.2.2 (lv_sub hl [2, 3, 4, 5, 6, 7] rfl)
theorem dL_law_1149 : decode cL_law 1149 = .ok (.aload_n 1, 1) := by decide +kernel
theorem dL_law_1150 : decode cL_law 1150 = .ok (.aload_n 0, 1) := by decide +kernel
theorem dL_law_1151 : decode cL_law 1151 = .ok (.iload 5, 2) := by decide +kernel
theorem dL_law_1153 : decode cL_law 1153 = .ok (.iconst 1, 1) := by decide +kernel
theorem dL_law_1154 : decode cL_law 1154 = .ok (.iadd, 1) := by decide +kernel
theorem dL_law_1155 : decode cL_law 1155 = .ok (.iaload, 1) := by decide +kernel
theorem dL_law_1156 : decode cL_law 1156 = .ok (.aload_n 3, 1) := by decide +kernel
theorem dL_law_1157 : decode cL_law 1157 = .ok (.invokestatic 220, 3) := by decide +kernel
theorem dL_law_1160 : decode cL_law 1160 = .ok (.istore 6, 2) := by decide +kernel
theorem dL_law_1162 : decode cL_law 1162 = .ok (.aload_n 2, 1) := by decide +kernel
theorem dL_law_1163 : decode cL_law 1163 = .ok (.aload_n 0, 1) := by decide +kernel
theorem dL_law_1164 : decode cL_law 1164 = .ok (.iload 5, 2) := by decide +kernel
theorem dL_law_1166 : decode cL_law 1166 = .ok (.iconst 1, 1) := by decide +kernel
theorem dL_law_1167 : decode cL_law 1167 = .ok (.iadd, 1) := by decide +kernel
theorem dL_law_1168 : decode cL_law 1168 = .ok (.iaload, 1) := by decide +kernel
theorem dL_law_1169 : decode cL_law 1169 = .ok (.invokevirtual 222, 3) := by decide +kernel
theorem dL_law_1172 : decode cL_law 1172 = .ok (.istore 7, 2) := by decide +kernel
theorem dL_law_1174 : decode cL_law 1174 = .ok (.goto 33, 3) := by decide +kernel
set_option maxHeartbeats 4000000 in
set_option maxRecDepth 100000 in
theorem kcase_scanSign {p : Program} {l : Launch} {e : Env} {s : State} {m : MethodId} {below : List Frame} {meth : Method} {c : Code} {b L : Nat} {xs : Nat → Int32} {g : kG} {e0 : Nat} {z w : Nat → Nat} {S M O : wPS} {o od : Nat} {H : Heap} {locs : List Loc} {k0 n0 t : Nat} {Q : State → Prop} {ls : Array Slot} {i n1 n2 n3 n4 : Int32} (hl0 : l.stackTraces = false) (C : kLc p s m c b L xs g e0 z w S M O o od H locs) (hi : kIx L xs i n1 n2 n3 n4) (hR : kRel z w t S M) (ht : t < 512) (hk0 : k0 + 3 ≤ 601024) (hn0 : n0 + 27 ≤ 7293034) (hl : lv_has ls 8 [(5, .int i), (4, .ref od), (3, .ref o), (2, .ref (w 0)), (1, .ref (z 0)), (0, .ref b)])
    (kk : ∀ (S1 M1 O1 : wPS) (H1 : Heap) (locs1 : List Loc) (ls1 : Array Slot), kLc p s m c b L xs g e0 z w S1 M1 O1 o od H1 locs1 → kRel z w (t + 1) S1 M1 → lv_has ls1 8 [(5, .int i), (4, .ref od), (3, .ref o), (2, .ref (w 0)), (1, .ref (z 0)), (0, .ref b)] → W p l e room_1 s m #[Value.ref b] below meth c H1 locs1 (k0 + 3) (n0 + 27) Q (F0 m 1207 ls1 [])) :
    W p l e room_1 s m #[Value.ref b] below meth c H locs k0 n0 Q (F0 m 1149 ls []) := by
  obtain ⟨⟨F, hK, hE, hNc, hX, hbl⟩, ⟨hP, hM, hO⟩, ⟨hD, hDM, hDO⟩, ⟨hdSO, hdSM, hdOM⟩, hS, ho, hI, hMI⟩ := C
  obtain ⟨⟨i1, i2, i3, i4⟩, v1, v2, v3, v4⟩ := hi
  have hx := F.1
  have hb := F.2.1
  have hbA : ¬ kAs s b := Nat.not_le.mpr hbl
  have hA : ∀ q : Nat, s.heap.size ≤ q → kAs s q := fun _ h => h
  obtain ⟨cn, hcn, hc⟩ := hR.2.2.2.2.2
  refine lv_aload_n hx hb dL_law_1149 rfl (lv_at hl 4 rfl) ?_
  refine lv_aload_n hx hb dL_law_1150 rfl (lv_at hl 5 rfl) ?_
  refine lv_iload hx hb dL_law_1151 (lv_at hl 0 rfl) ?_
  refine lv_iconst (v := 1) hx hb dL_law_1153 (by decide) ?_
  refine lv_iadd hx hb dL_law_1154 ?_
  refine ksld hx hb hX hbl hbA hS i1 v1 dL_law_1155 ?_
  refine lv_aload_n hx hb dL_law_1156 rfl (lv_at hl 2 rfl) ?_
  refine kcallw (kStw (n := 3) (As := [.ref (z 0), .int n1, .ref o]) (rest := []) F hE hNc hK hP hO hD hDO hdSO hS hA (kw_scanSign_ l g e0 S O H.size (z 0) o n1 _ _ (hI.ob0) ho.1 ho.2.1 (c_X5_scanSign l hl0 g e0 z S H.size hI n1) (fun E h => by rcases h with rfl <;> simp)) kw_715 kw_716 kw_87 kw_717 (by decide +kernel) ⟨Nat.le_of_ble_eq_true rfl, Nat.le_of_ble_eq_true rfl⟩ rfl hl.1 rfl (Nat.le_of_ble_eq_true rfl) dL_law_1157 ⟨(by show k0 + 1 ≤ 601024; omega), (by show n0 + 6 ≤ 7293034; omega)⟩) rfl hD hDO hS hA (fun r S1 O1 H1 locs1 hp hP1 hO1 hDs1 hDa1 hD1 hDO1 hdis1 _ hf1 hS1 => ?_)
  have hM1 := kM_keep hM hdSM hdOM hf1
  have hMO1 := kdis_symm (kdis_keepM hM hdSM hdOM hDa1)
  have hMS1 := kdis_symm (kdis_keepM hM hdSM hdOM hDs1)
  refine lv_istore (lv' := [(6, .int r), (5, .int i), (4, .ref od), (3, .ref o), (2, .ref (w 0)), (1, .ref (z 0)), (0, .ref b)]) hx hb dL_law_1160 hl (by decide) rfl (fun ls hl => ?_)
  refine lv_aload_n hx hb dL_law_1162 rfl (lv_at hl 4 rfl) ?_
  refine lv_aload_n hx hb dL_law_1163 rfl (lv_at hl 6 rfl) ?_
  refine lv_iload hx hb dL_law_1164 (lv_at hl 1 rfl) ?_
  refine lv_iconst (v := 1) hx hb dL_law_1166 (by decide) ?_
  refine lv_iadd hx hb dL_law_1167 ?_
  refine ksld hx hb hX hbl hbA hS1 i1 v1 dL_law_1168 ?_
  refine kcallWI (kV (n := 1) (As := [.int n1]) (rest := []) (b := (w 0)) (C := RX6) F hE hK hM1 hDM hS1 hA (c_X6_scanSign l hl0 g e0 w M H1.size hMI n1 cn hc (by omega)) (rr_Model hK hM1 (hMI.ob (i := 0) (by decide))) kw_723 kw_724 kw_725 kw_5 kw_726 (by decide +kernel) ⟨Nat.le_of_ble_eq_true rfl, Nat.le_of_ble_eq_true rfl⟩ rfl hl.1 rfl (Nat.le_of_ble_eq_true rfl) dL_law_1169 ⟨(by show k0 + 1 + 0 ≤ 601024; omega), (by show n0 + 6 + 0 ≤ 7293034; omega)⟩) rfl hDM hS1 hA (fun _ _ _ _ _ h => False.elim h) (fun r2 M1 H2 locs2 hm2 hP2_ hDx2 hDM1 _ hf2 hS2 => ?_)
  have hO2 := kO_keep hO1 hMO1 hf2
  have hOM2 := kdis_keep hO1 hMO1 hDx2
  have hQ2 := kO_keep hP1 hMS1 hf2
  have hSM2 := kdis_keep hP1 hMS1 hDx2
  have hq := kg_scanSign (n1 := n1) (r2 := r2) hI hMI hR hcn hc ho hp hm2
  refine lv_istore (lv' := [(7, .int r2), (6, .int r), (5, .int i), (4, .ref od), (3, .ref o), (2, .ref (w 0)), (1, .ref (z 0)), (0, .ref b)]) hx hb dL_law_1172 hl (by decide) rfl (fun ls hl => ?_)
  refine lv_goto (tgt := 1207) hx hb dL_law_1174 (by decide) ?_
  refine W.widen (k := k0 + 3) (n := n0 + 27) (by omega) (by omega) ?_
  exact kk _ _ _ _ _ ls ⟨⟨F, hK, hE, hNc, hX, hbl⟩, ⟨hQ2, hP2_, hO2⟩, ⟨hD1, hDM1, hDO1⟩, ⟨hdis1, (kdis_symm hSM2), (kdis_symm hOM2)⟩, hS2, hq.2, hq.1.1, hq.1.2.1⟩ hq.1.2.2 (lv_sub hl [2, 3, 4, 5, 6, 7] rfl)
theorem dL_law_1177 : decode cL_law 1177 = .ok (.aload_n 1, 1) := by decide +kernel
theorem dL_law_1178 : decode cL_law 1178 = .ok (.invokevirtual 223, 3) := by decide +kernel
theorem dL_law_1181 : decode cL_law 1181 = .ok (.pop2, 1) := by decide +kernel
theorem dL_law_1182 : decode cL_law 1182 = .ok (.aload_n 2, 1) := by decide +kernel
theorem dL_law_1183 : decode cL_law 1183 = .ok (.invokevirtual 227, 3) := by decide +kernel
theorem dL_law_1186 : decode cL_law 1186 = .ok (.pop2, 1) := by decide +kernel
theorem dL_law_1187 : decode cL_law 1187 = .ok (.goto 20, 3) := by decide +kernel
set_option maxHeartbeats 4000000 in
set_option maxRecDepth 100000 in
theorem kcase_shipped {p : Program} {l : Launch} {e : Env} {s : State} {m : MethodId} {below : List Frame} {meth : Method} {c : Code} {b L : Nat} {xs : Nat → Int32} {g : kG} {e0 : Nat} {z w : Nat → Nat} {S M O : wPS} {o od : Nat} {H : Heap} {locs : List Loc} {k0 n0 t : Nat} {Q : State → Prop} {ls : Array Slot} {i n1 n2 n3 n4 : Int32} (hl0 : l.stackTraces = false) (C : kLc p s m c b L xs g e0 z w S M O o od H locs) (hi : kIx L xs i n1 n2 n3 n4) (hR : kRel z w t S M) (ht : t < 512) (hk0 : k0 + 3 ≤ 601024) (hn0 : n0 + 27 ≤ 7293034) (hl : lv_has ls 8 [(5, .int i), (4, .ref od), (3, .ref o), (2, .ref (w 0)), (1, .ref (z 0)), (0, .ref b)])
    (kk : ∀ (S1 M1 O1 : wPS) (H1 : Heap) (locs1 : List Loc) (ls1 : Array Slot), kLc p s m c b L xs g e0 z w S1 M1 O1 o od H1 locs1 → kRel z w (t + 1) S1 M1 → lv_has ls1 8 [(5, .int i), (4, .ref od), (3, .ref o), (2, .ref (w 0)), (1, .ref (z 0)), (0, .ref b)] → W p l e room_1 s m #[Value.ref b] below meth c H1 locs1 (k0 + 3) (n0 + 27) Q (F0 m 1207 ls1 [])) :
    W p l e room_1 s m #[Value.ref b] below meth c H locs k0 n0 Q (F0 m 1177 ls []) := by
  obtain ⟨⟨F, hK, hE, hNc, hX, hbl⟩, ⟨hP, hM, hO⟩, ⟨hD, hDM, hDO⟩, ⟨hdSO, hdSM, hdOM⟩, hS, ho, hI, hMI⟩ := C
  obtain ⟨⟨i1, i2, i3, i4⟩, v1, v2, v3, v4⟩ := hi
  have hx := F.1
  have hb := F.2.1
  have hbA : ¬ kAs s b := Nat.not_le.mpr hbl
  have hA : ∀ q : Nat, s.heap.size ≤ q → kAs s q := fun _ h => h
  obtain ⟨cn, hcn, hc⟩ := hR.2.2.2.2.2
  refine lv_aload_n hx hb dL_law_1177 rfl (lv_at hl 4 rfl) ?_
  refine kcallWL (kV (n := 0) (As := []) (rest := []) (b := (z 0)) (C := RX5) F hE hK hP hD hS hA (c_X5_shipped l hl0 g e0 z S H.size hI) (rr_Pickwave hK hP hI.ob0) kw_727 kw_728 kw_729 kw_2 kw_730 (by decide +kernel) ⟨Nat.le_of_ble_eq_true rfl, Nat.le_of_ble_eq_true rfl⟩ rfl hl.1 rfl (Nat.le_of_ble_eq_true rfl) dL_law_1178 ⟨(by show k0 + 0 ≤ 601024; omega), (by show n0 + 0 ≤ 7293034; omega)⟩) rfl hD hS hA (fun _ _ _ _ _ h => False.elim h) (fun r2 S1 H2 locs2 hp hP2_ hDx2 hD1 _ hf2 hS2 => ?_)
  have hM2 := kO_keep hM hdSM hf2
  have hO2 := kO_keep hO hdSO hf2
  have hMS1 := kdis_symm (kdis_keep hM hdSM hDx2)
  have hdis1 := kdis_keep hO hdSO hDx2
  refine lv_pop2_2 hx hb dL_law_1181 rfl ?_
  refine lv_aload_n hx hb dL_law_1182 rfl (lv_at hl 3 rfl) ?_
  refine kcallWL (kV (n := 0) (As := []) (rest := []) (b := (w 0)) (C := RX6) F hE hK hM2 hDM hS2 hA (c_X6_shipped l hl0 g e0 w M H2.size hMI) (rr_Model hK hM2 (hMI.ob (i := 0) (by decide))) kw_731 kw_732 kw_733 kw_5 kw_734 (by decide +kernel) ⟨Nat.le_of_ble_eq_true rfl, Nat.le_of_ble_eq_true rfl⟩ rfl hl.1 rfl (Nat.le_of_ble_eq_true rfl) dL_law_1183 ⟨(by show k0 + 0 + 0 ≤ 601024; omega), (by show n0 + 0 + 0 ≤ 7293034; omega)⟩) rfl hDM hS2 hA (fun _ _ _ _ _ h => False.elim h) (fun r3 M1 H3 locs3 hm3 hP3_ hDx3 hDM1 _ hf3 hS3 => ?_)
  have hO3 := kO_keep hO2 (kdis_symm hdOM) hf3
  have hOM3 := kdis_keep hO2 (kdis_symm hdOM) hDx3
  have hQ3 := kO_keep hP2_ hMS1 hf3
  have hSM3 := kdis_keep hP2_ hMS1 hDx3
  have hq := kg_shipped (r2 := r3) hI hMI hR hcn hc hp hm3
  refine lv_pop2_2 hx hb dL_law_1186 rfl ?_
  refine lv_goto (tgt := 1207) hx hb dL_law_1187 (by decide) ?_
  refine W.widen (k := k0 + 3) (n := n0 + 27) (by omega) (by omega) ?_
  exact kk _ _ _ _ _ ls ⟨⟨F, hK, hE, hNc, hX, hbl⟩, ⟨hQ3, hP3_, hO3⟩, ⟨hD1, hDM1, hDO⟩, ⟨hdis1, (kdis_symm hSM3), (kdis_symm hOM3)⟩, hS3, ho, hq.1, hq.2.1⟩ hq.2.2 (lv_sub hl [0, 1, 2, 3, 4, 5] rfl)
theorem dL_law_1190 : decode cL_law 1190 = .ok (.aload_n 1, 1) := by decide +kernel
theorem dL_law_1191 : decode cL_law 1191 = .ok (.aload 4, 2) := by decide +kernel
theorem dL_law_1193 : decode cL_law 1193 = .ok (.invokestatic 228, 3) := by decide +kernel
theorem dL_law_1196 : decode cL_law 1196 = .ok (.istore 6, 2) := by decide +kernel
theorem dL_law_1198 : decode cL_law 1198 = .ok (.aload_n 2, 1) := by decide +kernel
theorem dL_law_1199 : decode cL_law 1199 = .ok (.invokevirtual 231, 3) := by decide +kernel
theorem dL_law_1202 : decode cL_law 1202 = .ok (.fstore 7, 2) := by decide +kernel
theorem dL_law_1204 : decode cL_law 1204 = .ok (.goto 3, 3) := by decide +kernel
set_option maxHeartbeats 4000000 in
set_option maxRecDepth 100000 in
theorem kcase_shippedShare {p : Program} {l : Launch} {e : Env} {s : State} {m : MethodId} {below : List Frame} {meth : Method} {c : Code} {b L : Nat} {xs : Nat → Int32} {g : kG} {e0 : Nat} {z w : Nat → Nat} {S M O : wPS} {o od : Nat} {H : Heap} {locs : List Loc} {k0 n0 t : Nat} {Q : State → Prop} {ls : Array Slot} {i n1 n2 n3 n4 : Int32} (hl0 : l.stackTraces = false) (C : kLc p s m c b L xs g e0 z w S M O o od H locs) (hi : kIx L xs i n1 n2 n3 n4) (hR : kRel z w t S M) (ht : t < 512) (hk0 : k0 + 3 ≤ 601024) (hn0 : n0 + 27 ≤ 7293034) (hl : lv_has ls 8 [(5, .int i), (4, .ref od), (3, .ref o), (2, .ref (w 0)), (1, .ref (z 0)), (0, .ref b)])
    (kk : ∀ (S1 M1 O1 : wPS) (H1 : Heap) (locs1 : List Loc) (ls1 : Array Slot), kLc p s m c b L xs g e0 z w S1 M1 O1 o od H1 locs1 → kRel z w (t + 1) S1 M1 → lv_has ls1 8 [(5, .int i), (4, .ref od), (3, .ref o), (2, .ref (w 0)), (1, .ref (z 0)), (0, .ref b)] → W p l e room_1 s m #[Value.ref b] below meth c H1 locs1 (k0 + 3) (n0 + 27) Q (F0 m 1207 ls1 [])) :
    W p l e room_1 s m #[Value.ref b] below meth c H locs k0 n0 Q (F0 m 1190 ls []) := by
  obtain ⟨⟨F, hK, hE, hNc, hX, hbl⟩, ⟨hP, hM, hO⟩, ⟨hD, hDM, hDO⟩, ⟨hdSO, hdSM, hdOM⟩, hS, ho, hI, hMI⟩ := C
  obtain ⟨⟨i1, i2, i3, i4⟩, v1, v2, v3, v4⟩ := hi
  have hx := F.1
  have hb := F.2.1
  have hbA : ¬ kAs s b := Nat.not_le.mpr hbl
  have hA : ∀ q : Nat, s.heap.size ≤ q → kAs s q := fun _ h => h
  obtain ⟨cn, hcn, hc⟩ := hR.2.2.2.2.2
  refine lv_aload_n hx hb dL_law_1190 rfl (lv_at hl 4 rfl) ?_
  refine lv_aload hx hb dL_law_1191 (lv_at hl 1 rfl) ?_
  refine kcallw (kStw (n := 2) (As := [.ref (z 0), .ref od]) (rest := []) F hE hNc hK hP hO hD hDO hdSO hS hA (kw_shippedShare_ l g e0 S O H.size (z 0) od _ _ (hI.ob0) ho.2.2.1 ho.2.2.2 (c_X5_shippedShare l hl0 g e0 z S H.size hI) (fun E h => by rcases h with rfl <;> simp) (fun v T h => by obtain ⟨⟨k9, m9, a1, a2, a3, a4⟩, -⟩ := h; rw [a4]; exact (kshare a1 a2 a3).2)) kw_735 kw_736 kw_87 kw_737 (by decide +kernel) ⟨Nat.le_of_ble_eq_true rfl, Nat.le_of_ble_eq_true rfl⟩ rfl hl.1 rfl (Nat.le_of_ble_eq_true rfl) dL_law_1193 ⟨(by show k0 + 1 ≤ 601024; omega), (by show n0 + 6 ≤ 7293034; omega)⟩) rfl hD hDO hS hA (fun r S1 O1 H1 locs1 hp hP1 hO1 hDs1 hDa1 hD1 hDO1 hdis1 _ hf1 hS1 => ?_)
  have hM1 := kM_keep hM hdSM hdOM hf1
  have hMO1 := kdis_symm (kdis_keepM hM hdSM hdOM hDa1)
  have hMS1 := kdis_symm (kdis_keepM hM hdSM hdOM hDs1)
  refine lv_istore (lv' := [(6, .int r), (5, .int i), (4, .ref od), (3, .ref o), (2, .ref (w 0)), (1, .ref (z 0)), (0, .ref b)]) hx hb dL_law_1196 hl (by decide) rfl (fun ls hl => ?_)
  refine lv_aload_n hx hb dL_law_1198 rfl (lv_at hl 4 rfl) ?_
  refine kcallWF (kV (n := 0) (As := []) (rest := []) (b := (w 0)) (C := RX6) F hE hK hM1 hDM hS1 hA (c_X6_shippedShare l hl0 g e0 w M H1.size hMI) (rr_Model hK hM1 (hMI.ob (i := 0) (by decide))) kw_742 kw_743 kw_744 kw_5 kw_745 (by decide +kernel) ⟨Nat.le_of_ble_eq_true rfl, Nat.le_of_ble_eq_true rfl⟩ rfl hl.1 rfl (Nat.le_of_ble_eq_true rfl) dL_law_1199 ⟨(by show k0 + 1 + 0 ≤ 601024; omega), (by show n0 + 6 + 0 ≤ 7293034; omega)⟩) rfl hDM hS1 hA (fun _ _ _ _ _ h => False.elim h) (fun r2 M1 H2 locs2 hm2 hP2_ hDx2 hDM1 _ hf2 hS2 => ?_)
  have hO2 := kO_keep hO1 hMO1 hf2
  have hOM2 := kdis_keep hO1 hMO1 hDx2
  have hQ2 := kO_keep hP1 hMS1 hf2
  have hSM2 := kdis_keep hP1 hMS1 hDx2
  have hq := kg_shippedShare hI hMI hR hcn hc ho hp hm2
  refine lv_fstore (lv' := [(7, .float r2), (6, .int r), (5, .int i), (4, .ref od), (3, .ref o), (2, .ref (w 0)), (1, .ref (z 0)), (0, .ref b)]) hx hb dL_law_1202 hl (by decide) rfl (fun ls hl => ?_)
  refine lv_goto (tgt := 1207) hx hb dL_law_1204 (by decide) ?_
  refine W.widen (k := k0 + 3) (n := n0 + 27) (by omega) (by omega) ?_
  exact kk _ _ _ _ _ ls ⟨⟨F, hK, hE, hNc, hX, hbl⟩, ⟨hQ2, hP2_, hO2⟩, ⟨hD1, hDM1, hDO1⟩, ⟨hdis1, (kdis_symm hSM2), (kdis_symm hOM2)⟩, hS2, hq.2, hq.1.1, hq.1.2.1⟩ hq.1.2.2 (lv_sub hl [2, 3, 4, 5, 6, 7] rfl)
