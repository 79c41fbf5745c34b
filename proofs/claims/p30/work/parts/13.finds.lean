theorem dX5_checkCarrier_0 : decode cX5_checkCarrier 0 = .ok (.aload_n 0, 1) := by decide +kernel
theorem dX5_checkCarrier_1 : decode cX5_checkCarrier 1 = .ok (.iload_n 1, 1) := by decide +kernel
theorem dX5_checkCarrier_2 : decode cX5_checkCarrier 2 = .ok (.invokevirtual 158, 3) := by decide +kernel
theorem dX5_checkCarrier_5 : decode cX5_checkCarrier 5 = .ok (.ifCond .ne 13, 3) := by decide +kernel
theorem dX5_checkCarrier_8 : decode cX5_checkCarrier 8 = .ok (.new 275, 3) := by decide +kernel
theorem dX5_checkCarrier_11 : decode cX5_checkCarrier 11 = .ok (.dup, 1) := by decide +kernel
theorem dX5_checkCarrier_12 : decode cX5_checkCarrier 12 = .ok (.ldc 161, 2) := by decide +kernel
theorem dX5_checkCarrier_14 : decode cX5_checkCarrier 14 = .ok (.invokespecial 279, 3) := by decide +kernel
theorem dX5_checkCarrier_17 : decode cX5_checkCarrier 17 = .ok (.athrow, 1) := by decide +kernel
theorem dX5_checkCarrier_18 : decode cX5_checkCarrier 18 = .ok (.return_, 1) := by decide +kernel
set_option maxHeartbeats 4000000 in
set_option maxRecDepth 100000 in
theorem c_X5_checkCarrier (l : Launch) (hl0 : l.stackTraces = false) (g : kG) (e0 : Nat) (z : Nat → Nat) (S : wPS) (sz : Nat) (hI : Inv z e0 S) (n : Int32) : kM l g e0 yX5_checkCarrier cX5_checkCarrier 2 none 6 82 1 6 [.ref (z 0), .int n] S sz (pU (fun T => T = S ∧ ¬ n < 0 ∧ ¬ 3 ≤ n)) (fun E => E = xI ∧ (n < 0 ∨ 3 ≤ n)) := by
  refine kM.of (by decide) (Nat.le_of_ble_eq_true rfl) ?_
  intro p e s m below meth c ls B hin
  obtain ⟨F, hr, hlk, hte, hP, hK, hD, hE, hS, hA, hl, hsz⟩ := B
  subst hsz
  have hx := F.1
  have hb := F.2.1
  have hl : lv_has ls 2 [(0, .ref (z 0)), (1, .int n)] := hl
  refine lv_aload_n hx hb dX5_checkCarrier_0 rfl (lv_at hl 0 rfl) ?_
  refine lv_iload_n hx hb dX5_checkCarrier_1 rfl (lv_at hl 1 rfl) ?_
  refine kcallI (kV (n := 1) (As := [.int n]) (rest := []) (b := (z 0)) (C := RX5) F hE hK hP hD hS hA (c_X5_isCarrier l hl0 g e0 z S _ hI n) (rr_Pickwave hK hP (hI.1.1 0 (by decide))) kw_403 kw_404 kw_405 kw_2 kw_406 (by decide +kernel) ⟨Nat.le_of_ble_eq_true rfl, Nat.le_of_ble_eq_true rfl⟩ rfl hl.1 rfl (Nat.le_of_ble_eq_true rfl) dX5_checkCarrier_2 ⟨Nat.le_of_ble_eq_true rfl, Nat.le_of_ble_eq_true rfl⟩) rfl hD hS hA (fun _ _ _ _ _ h => False.elim h) (fun r1 T1 H locs hp hP hD hS => ?_)
  obtain ⟨hT, hp2⟩ := hp
  have hT := hT.symm
  subst hT
  refine lv_if_ne (tgt := 18) hx hb dX5_checkCarrier_5 (by decide) (fun c3 => ?_) (fun c3 => ?_)
  · exact kEndV F hr hlk hP hD hS (Nat.le_of_ble_eq_true rfl) (Nat.le_of_ble_eq_true rfl) dX5_checkCarrier_18 ⟨rfl, ⟨rfl, by rcases hp2 with ⟨-, h1, h2⟩ | ⟨h, -⟩; exact ⟨h1, h2⟩; exact absurd h c3⟩⟩
  · exact kth_IOOBE hl0 F hE hlk hte hP hS hl.1 (List.mem_of_getElem? (i := 9) rfl) dX5_checkCarrier_8 dX5_checkCarrier_11 dX5_checkCarrier_12 dX5_checkCarrier_14 dX5_checkCarrier_17 ⟨Nat.le_of_ble_eq_true rfl, Nat.le_of_ble_eq_true rfl, Nat.le_of_ble_eq_true rfl, Nat.le_of_ble_eq_true rfl⟩ (Nat.le_of_ble_eq_true rfl) (Nat.le_of_ble_eq_true rfl) (⟨rfl, by rcases hp2 with ⟨h, -, -⟩ | ⟨-, h⟩; exact absurd c3 (by rw [h]; decide); exact h⟩)
theorem dX5_findAisle_0 : decode cX5_findAisle 0 = .ok (.aload_n 0, 1) := by decide +kernel
theorem dX5_findAisle_1 : decode cX5_findAisle 1 = .ok (.iload_n 1, 1) := by decide +kernel
theorem dX5_findAisle_2 : decode cX5_findAisle 2 = .ok (.invokevirtual 46, 3) := by decide +kernel
theorem dX5_findAisle_5 : decode cX5_findAisle 5 = .ok (.ifCond .ne 13, 3) := by decide +kernel
theorem dX5_findAisle_8 : decode cX5_findAisle 8 = .ok (.new 275, 3) := by decide +kernel
theorem dX5_findAisle_11 : decode cX5_findAisle 11 = .ok (.dup, 1) := by decide +kernel
theorem dX5_findAisle_12 : decode cX5_findAisle 12 = .ok (.ldc 52, 2) := by decide +kernel
theorem dX5_findAisle_14 : decode cX5_findAisle 14 = .ok (.invokespecial 279, 3) := by decide +kernel
theorem dX5_findAisle_17 : decode cX5_findAisle 17 = .ok (.athrow, 1) := by decide +kernel
theorem dX5_findAisle_18 : decode cX5_findAisle 18 = .ok (.aload_n 0, 1) := by decide +kernel
theorem dX5_findAisle_19 : decode cX5_findAisle 19 = .ok (.getfield 11, 3) := by decide +kernel
theorem dX5_findAisle_22 : decode cX5_findAisle 22 = .ok (.iload_n 1, 1) := by decide +kernel
theorem dX5_findAisle_23 : decode cX5_findAisle 23 = .ok (.aaload, 1) := by decide +kernel
theorem dX5_findAisle_24 : decode cX5_findAisle 24 = .ok (.areturn, 1) := by decide +kernel
set_option maxHeartbeats 4000000 in
set_option maxRecDepth 100000 in
theorem c_X5_findAisle (l : Launch) (hl0 : l.stackTraces = false) (g : kG) (e0 : Nat) (z : Nat → Nat) (S : wPS) (sz : Nat) (hI : Inv z e0 S) (n : Int32) : kM l g e0 yX5_findAisle cX5_findAisle 2 (some (.object "Pickwave$Aisle")) 6 82 1 6 [.ref (z 0), .int n] S sz (pR (fun b T => T = S ∧ ∃ j, j < 4 ∧ n = nI j ∧ b = z (2 + j))) (fun E => E = xI ∧ (n < 0 ∨ 4 ≤ n)) := by
  refine kM.of (by decide) (Nat.le_of_ble_eq_true rfl) ?_
  intro p e s m below meth c ls B hin
  obtain ⟨F, hr, hlk, hte, hP, hK, hD, hE, hS, hA, hl, hsz⟩ := B
  subst hsz
  have hx := F.1
  have hb := F.2.1
  have hl : lv_has ls 2 [(0, .ref (z 0)), (1, .int n)] := hl
  refine lv_aload_n hx hb dX5_findAisle_0 rfl (lv_at hl 0 rfl) ?_
  refine lv_iload_n hx hb dX5_findAisle_1 rfl (lv_at hl 1 rfl) ?_
  refine kcallI (kV (n := 1) (As := [.int n]) (rest := []) (b := (z 0)) (C := RX5) F hE hK hP hD hS hA (c_X5_isAisle l hl0 g e0 z S _ hI n) (rr_Pickwave hK hP (hI.1.1 0 (by decide))) kw_102 kw_103 kw_104 kw_2 kw_105 (by decide +kernel) ⟨Nat.le_of_ble_eq_true rfl, Nat.le_of_ble_eq_true rfl⟩ rfl hl.1 rfl (Nat.le_of_ble_eq_true rfl) dX5_findAisle_2 ⟨Nat.le_of_ble_eq_true rfl, Nat.le_of_ble_eq_true rfl⟩) rfl hD hS hA (fun _ _ _ _ _ h => False.elim h) (fun r1 T1 H locs hp hP hD hS => ?_)
  obtain ⟨hT, hp2⟩ := hp
  have hT := hT.symm
  subst hT
  refine lv_if_ne (tgt := 18) hx hb dX5_findAisle_5 (by decide) (fun c3 => ?_) (fun c3 => ?_)
  · have hin2 : ¬ n < 0 ∧ ¬ 4 ≤ n := by rcases hp2 with ⟨-, h1, h2⟩ | ⟨h, -⟩; exact ⟨h1, h2⟩; exact absurd h c3
    obtain ⟨j4, hj4, hn4⟩ := kix (M := 4) (N := 4) rfl (by decide) (hin2).1 (hin2).2
    refine lv_aload_n hx hb dX5_findAisle_18 rfl (lv_at hl 0 rfl) ?_
    refine rs_Pickwave_aisles (b := z 1) F hK hP (hI.1.1 0 (by decide)) hI.2.1.1 kw_15 dX5_findAisle_19 ?_
    refine lv_iload_n hx hb dX5_findAisle_22 rfl (lv_at hl 1 rfl) ?_
    refine rds_Aisle (b := z (2 + j4)) F hK hP (hI.1.1 1 (by decide)) (by rw [hn4, hI.2.2.1.1]; exact vp_in_nI hj4 (by decide)) (by rw [hn4, nI_clamp (by omega)]; exact hI.2.2.1.2.1 _ hj4) dX5_findAisle_23 ?_
    exact kEndR F hr (Or.inl ⟨_, rfl⟩) (Or.inr ⟨_, rfl⟩) hlk hP hD hS (Nat.le_of_ble_eq_true rfl) (Nat.le_of_ble_eq_true rfl) dX5_findAisle_24 ⟨_, rfl, ⟨rfl, _, hj4, hn4, rfl⟩⟩
  · exact kth_IOOBE hl0 F hE hlk hte hP hS hl.1 (List.mem_of_getElem? (i := 0) rfl) dX5_findAisle_8 dX5_findAisle_11 dX5_findAisle_12 dX5_findAisle_14 dX5_findAisle_17 ⟨Nat.le_of_ble_eq_true rfl, Nat.le_of_ble_eq_true rfl, Nat.le_of_ble_eq_true rfl, Nat.le_of_ble_eq_true rfl⟩ (Nat.le_of_ble_eq_true rfl) (Nat.le_of_ble_eq_true rfl) (⟨rfl, by rcases hp2 with ⟨h, -, -⟩ | ⟨-, h⟩; exact absurd c3 (by rw [h]; decide); exact h⟩)
theorem dX5_findRobot_0 : decode cX5_findRobot 0 = .ok (.iload_n 1, 1) := by decide +kernel
theorem dX5_findRobot_1 : decode cX5_findRobot 1 = .ok (.ifCond .lt 12, 3) := by decide +kernel
theorem dX5_findRobot_4 : decode cX5_findRobot 4 = .ok (.iload_n 1, 1) := by decide +kernel
theorem dX5_findRobot_5 : decode cX5_findRobot 5 = .ok (.aload_n 0, 1) := by decide +kernel
theorem dX5_findRobot_6 : decode cX5_findRobot 6 = .ok (.getfield 24, 3) := by decide +kernel
theorem dX5_findRobot_9 : decode cX5_findRobot 9 = .ok (.arraylength, 1) := by decide +kernel
theorem dX5_findRobot_10 : decode cX5_findRobot 10 = .ok (.if_icmp .lt 14, 3) := by decide +kernel
theorem dX5_findRobot_13 : decode cX5_findRobot 13 = .ok (.new 275, 3) := by decide +kernel
theorem dX5_findRobot_16 : decode cX5_findRobot 16 = .ok (.dup, 1) := by decide +kernel
theorem dX5_findRobot_17 : decode cX5_findRobot 17 = .ok (.ldc_w 293, 3) := by decide +kernel
theorem dX5_findRobot_20 : decode cX5_findRobot 20 = .ok (.invokespecial 279, 3) := by decide +kernel
theorem dX5_findRobot_23 : decode cX5_findRobot 23 = .ok (.athrow, 1) := by decide +kernel
theorem dX5_findRobot_24 : decode cX5_findRobot 24 = .ok (.aload_n 0, 1) := by decide +kernel
theorem dX5_findRobot_25 : decode cX5_findRobot 25 = .ok (.getfield 24, 3) := by decide +kernel
theorem dX5_findRobot_28 : decode cX5_findRobot 28 = .ok (.iload_n 1, 1) := by decide +kernel
theorem dX5_findRobot_29 : decode cX5_findRobot 29 = .ok (.aaload, 1) := by decide +kernel
theorem dX5_findRobot_30 : decode cX5_findRobot 30 = .ok (.areturn, 1) := by decide +kernel
set_option maxHeartbeats 4000000 in
set_option maxRecDepth 100000 in
theorem c_X5_findRobot (l : Launch) (hl0 : l.stackTraces = false) (g : kG) (e0 : Nat) (z : Nat → Nat) (S : wPS) (sz : Nat) (hI : Inv z e0 S) (n : Int32) : kM l g e0 yX5_findRobot cX5_findRobot 2 (some (.object "Pickwave$Robot")) 6 82 1 6 [.ref (z 0), .int n] S sz (pR (fun b T => T = S ∧ ∃ j, j < 2 ∧ n = nI j ∧ b = z (8 + j))) (fun E => E = xI ∧ (n < 0 ∨ ¬ n < 2)) := by
  refine kM.of (by decide) (Nat.le_of_ble_eq_true rfl) ?_
  intro p e s m below meth c ls B hin
  obtain ⟨F, hr, hlk, hte, hP, hK, hD, hE, hS, hA, hl, hsz⟩ := B
  subst hsz
  have hx := F.1
  have hb := F.2.1
  have hl : lv_has ls 2 [(0, .ref (z 0)), (1, .int n)] := hl
  refine lv_iload_n hx hb dX5_findRobot_0 rfl (lv_at hl 1 rfl) ?_
  refine lv_if_lt (tgt := 13) hx hb dX5_findRobot_1 (by decide) (fun c1 => ?_) (fun c1 => ?_)
  · exact kth_IOOBEW hl0 F hE hlk hte hP hS hl.1 (List.mem_of_getElem? (i := 28) rfl) dX5_findRobot_13 dX5_findRobot_16 dX5_findRobot_17 dX5_findRobot_20 dX5_findRobot_23 ⟨Nat.le_of_ble_eq_true rfl, Nat.le_of_ble_eq_true rfl, Nat.le_of_ble_eq_true rfl, Nat.le_of_ble_eq_true rfl⟩ (Nat.le_of_ble_eq_true rfl) (Nat.le_of_ble_eq_true rfl) (⟨rfl, Or.inl c1⟩)
  · refine lv_iload_n hx hb dX5_findRobot_4 rfl (lv_at hl 1 rfl) ?_
    refine lv_aload_n hx hb dX5_findRobot_5 rfl (lv_at hl 0 rfl) ?_
    refine rs_Pickwave_robots (b := z 7) F hK hP (hI.1.1 0 (by decide)) hI.2.1.2.2.1 kw_21 dX5_findRobot_6 ?_
    refine rl_Robot (v := 2) F hK hP (hI.1.1 7 (by decide)) (congrArg Int32.ofNat (show pN S (z 7) = 2 from hI.2.2.1.2.2.2.1)) dX5_findRobot_9 ?_
    refine lv_icmp_lt (tgt := 24) hx hb dX5_findRobot_10 (by decide) (fun c2 => ?_) (fun c2 => ?_)
    · have hin2 : ¬ n < 0 ∧ ¬ 2 ≤ n := ⟨c1, Int32.not_le.mpr c2⟩
      obtain ⟨j3, hj3, hn3⟩ := kix (M := 2) (N := 2) rfl (by decide) (hin2).1 (hin2).2
      refine lv_aload_n hx hb dX5_findRobot_24 rfl (lv_at hl 0 rfl) ?_
      refine rs_Pickwave_robots (b := z 7) F hK hP (hI.1.1 0 (by decide)) hI.2.1.2.2.1 kw_21 dX5_findRobot_25 ?_
      refine lv_iload_n hx hb dX5_findRobot_28 rfl (lv_at hl 1 rfl) ?_
      refine rds_Robot (b := z (8 + j3)) F hK hP (hI.1.1 7 (by decide)) (by rw [hn3, hI.2.2.1.2.2.2.1]; exact vp_in_nI hj3 (by decide)) (by rw [hn3, nI_clamp (by omega)]; exact hI.2.2.1.2.2.2.2.1 _ hj3) dX5_findRobot_29 ?_
      exact kEndR F hr (Or.inl ⟨_, rfl⟩) (Or.inr ⟨_, rfl⟩) hlk hP hD hS (Nat.le_of_ble_eq_true rfl) (Nat.le_of_ble_eq_true rfl) dX5_findRobot_30 ⟨_, rfl, ⟨rfl, _, hj3, hn3, rfl⟩⟩
    · exact kth_IOOBEW hl0 F hE hlk hte hP hS hl.1 (List.mem_of_getElem? (i := 28) rfl) dX5_findRobot_13 dX5_findRobot_16 dX5_findRobot_17 dX5_findRobot_20 dX5_findRobot_23 ⟨Nat.le_of_ble_eq_true rfl, Nat.le_of_ble_eq_true rfl, Nat.le_of_ble_eq_true rfl, Nat.le_of_ble_eq_true rfl⟩ (Nat.le_of_ble_eq_true rfl) (Nat.le_of_ble_eq_true rfl) (⟨rfl, Or.inr c2⟩)
theorem dX5_findArticle_0 : decode cX5_findArticle 0 = .ok (.iload_n 1, 1) := by decide +kernel
theorem dX5_findArticle_1 : decode cX5_findArticle 1 = .ok (.ifCond .lt 14, 3) := by decide +kernel
theorem dX5_findArticle_4 : decode cX5_findArticle 4 = .ok (.iload_n 1, 1) := by decide +kernel
theorem dX5_findArticle_5 : decode cX5_findArticle 5 = .ok (.aload_n 0, 1) := by decide +kernel
theorem dX5_findArticle_6 : decode cX5_findArticle 6 = .ok (.getfield 32, 3) := by decide +kernel
theorem dX5_findArticle_9 : decode cX5_findArticle 9 = .ok (.invokevirtual 65, 3) := by decide +kernel
theorem dX5_findArticle_12 : decode cX5_findArticle 12 = .ok (.if_icmp .lt 14, 3) := by decide +kernel
theorem dX5_findArticle_15 : decode cX5_findArticle 15 = .ok (.new 275, 3) := by decide +kernel
theorem dX5_findArticle_18 : decode cX5_findArticle 18 = .ok (.dup, 1) := by decide +kernel
theorem dX5_findArticle_19 : decode cX5_findArticle 19 = .ok (.ldc_w 289, 3) := by decide +kernel
theorem dX5_findArticle_22 : decode cX5_findArticle 22 = .ok (.invokespecial 279, 3) := by decide +kernel
theorem dX5_findArticle_25 : decode cX5_findArticle 25 = .ok (.athrow, 1) := by decide +kernel
theorem dX5_findArticle_26 : decode cX5_findArticle 26 = .ok (.aload_n 0, 1) := by decide +kernel
theorem dX5_findArticle_27 : decode cX5_findArticle 27 = .ok (.getfield 32, 3) := by decide +kernel
theorem dX5_findArticle_30 : decode cX5_findArticle 30 = .ok (.iload_n 1, 1) := by decide +kernel
theorem dX5_findArticle_31 : decode cX5_findArticle 31 = .ok (.invokevirtual 100, 3) := by decide +kernel
theorem dX5_findArticle_34 : decode cX5_findArticle 34 = .ok (.checkcast 74, 3) := by decide +kernel
theorem dX5_findArticle_37 : decode cX5_findArticle 37 = .ok (.areturn, 1) := by decide +kernel
set_option maxHeartbeats 4000000 in
set_option maxRecDepth 100000 in
theorem c_X5_findArticle (l : Launch) (hl0 : l.stackTraces = false) (g : kG) (e0 : Nat) (z : Nat → Nat) (S : wPS) (sz : Nat) (hI : Inv z e0 S) (n : Int32) : kM l g e0 yX5_findArticle cX5_findArticle 2 (some (.object "Pickwave$Article")) 6 82 1 6 [.ref (z 0), .int n] S sz (pR (fun b T => T = S ∧ Ob S 1 b ∧ ¬ n < 0 ∧ n < pF S 72 (z 10))) (fun E => E = xI ∧ (n < 0 ∨ ¬ n < pF S 72 (z 10))) := by
  refine kM.of (by decide) (Nat.le_of_ble_eq_true rfl) ?_
  intro p e s m below meth c ls B hin
  obtain ⟨F, hr, hlk, hte, hP, hK, hD, hE, hS, hA, hl, hsz⟩ := B
  subst hsz
  have hx := F.1
  have hb := F.2.1
  have hl : lv_has ls 2 [(0, .ref (z 0)), (1, .int n)] := hl
  obtain ⟨m1, hm1, hL1⟩ := hI.arts
  refine lv_iload_n hx hb dX5_findArticle_0 rfl (lv_at hl 1 rfl) ?_
  refine lv_if_lt (tgt := 15) hx hb dX5_findArticle_1 (by decide) (fun c1 => ?_) (fun c1 => ?_)
  · exact kth_IOOBEW hl0 F hE hlk hte hP hS hl.1 (List.mem_of_getElem? (i := 26) rfl) dX5_findArticle_15 dX5_findArticle_18 dX5_findArticle_19 dX5_findArticle_22 dX5_findArticle_25 ⟨Nat.le_of_ble_eq_true rfl, Nat.le_of_ble_eq_true rfl, Nat.le_of_ble_eq_true rfl, Nat.le_of_ble_eq_true rfl⟩ (Nat.le_of_ble_eq_true rfl) (Nat.le_of_ble_eq_true rfl) (⟨rfl, Or.inl c1⟩)
  · refine lv_iload_n hx hb dX5_findArticle_4 rfl (lv_at hl 1 rfl) ?_
    refine lv_aload_n hx hb dX5_findArticle_5 rfl (lv_at hl 0 rfl) ?_
    refine rs_Pickwave_articles (b := z 10) F hK hP (hI.1.1 0 (by decide)) hI.2.1.2.2.2.1 kw_27 dX5_findArticle_6 ?_
    refine kcallI (kV (n := 0) (As := []) (rest := [.int n]) (b := (z 10)) (C := RJx4a65c) F hE hK hP hD hS hA (c_Jx4a65c_size_8abf5 l hl0 g e0 S _ (z 10) (hI.1.1 10 (by decide))) (rr_ArrayList hK hP (hI.1.1 10 (by decide))) kw_109 kw_110 kw_111 kw_26 kw_112 (by decide +kernel) ⟨Nat.le_of_ble_eq_true rfl, Nat.le_of_ble_eq_true rfl⟩ rfl hl.1 rfl (Nat.le_of_ble_eq_true rfl) dX5_findArticle_9 ⟨Nat.le_of_ble_eq_true rfl, Nat.le_of_ble_eq_true rfl⟩) rfl hD hS hA (fun _ _ _ _ _ h => False.elim h) (fun r2 T2 H locs hp hP hD hS => ?_)
    obtain ⟨hT, hp3⟩ := hp
    have hT := hT.symm
    subst hT
    refine lv_icmp_lt (tgt := 26) hx hb dX5_findArticle_12 (by decide) (fun c4 => ?_) (fun c4 => ?_)
    · refine lv_aload_n hx hb dX5_findArticle_26 rfl (lv_at hl 0 rfl) ?_
      refine rs_Pickwave_articles (b := z 10) F hK hP (hI.1.1 0 (by decide)) hI.2.1.2.2.2.1 kw_27 dX5_findArticle_27 ?_
      refine lv_iload_n hx hb dX5_findArticle_30 rfl (lv_at hl 1 rfl) ?_
      refine kcallR (kV (n := 1) (As := [.int n]) (rest := []) (b := (z 10)) (C := RJx4a65c) F hE hK hP hD hS hA (c_Jx4a65c_get_915e3 l hl0 g e0 S _ (z 10) 1 _ n (hI.1.1 10 (by decide)) hL1 c1 (by rw [← hp3]; exact c4) (by omega)) (rr_ArrayList hK hP (hI.1.1 10 (by decide))) kw_203 kw_204 kw_205 kw_26 kw_206 (by decide +kernel) ⟨Nat.le_of_ble_eq_true rfl, Nat.le_of_ble_eq_true rfl⟩ rfl hl.1 rfl (Nat.le_of_ble_eq_true rfl) dX5_findArticle_31 ⟨Nat.le_of_ble_eq_true rfl, Nat.le_of_ble_eq_true rfl⟩) rfl hD hS hA (fun _ _ _ _ _ h => False.elim h) (fun b5 T5 H locs hp hP hD hS => ?_)
      obtain ⟨hT, hp6⟩ := hp
      have hT := hT.symm
      subst hT
      refine va_castS hx hb F.2.2.2.1 (F.2.2.2.2 _ kw_99) (hK.1 2 _ rfl).2 (rr_Article hK hP hp6.1) dX5_findArticle_34 ?_
      exact kEndR F hr (Or.inl ⟨_, rfl⟩) (Or.inr ⟨_, rfl⟩) hlk hP hD hS (Nat.le_of_ble_eq_true rfl) (Nat.le_of_ble_eq_true rfl) dX5_findArticle_37 ⟨_, rfl, ⟨rfl, hp6.1, c1, (by rw [← hp3]; exact c4)⟩⟩
    · exact kth_IOOBEW hl0 F hE hlk hte hP hS hl.1 (List.mem_of_getElem? (i := 26) rfl) dX5_findArticle_15 dX5_findArticle_18 dX5_findArticle_19 dX5_findArticle_22 dX5_findArticle_25 ⟨Nat.le_of_ble_eq_true rfl, Nat.le_of_ble_eq_true rfl, Nat.le_of_ble_eq_true rfl, Nat.le_of_ble_eq_true rfl⟩ (Nat.le_of_ble_eq_true rfl) (Nat.le_of_ble_eq_true rfl) (⟨rfl, Or.inr (by rw [← hp3]; exact c4)⟩)
theorem dX5_findLine_0 : decode cX5_findLine 0 = .ok (.iload_n 1, 1) := by decide +kernel
theorem dX5_findLine_1 : decode cX5_findLine 1 = .ok (.ifCond .lt 14, 3) := by decide +kernel
theorem dX5_findLine_4 : decode cX5_findLine 4 = .ok (.iload_n 1, 1) := by decide +kernel
theorem dX5_findLine_5 : decode cX5_findLine 5 = .ok (.aload_n 0, 1) := by decide +kernel
theorem dX5_findLine_6 : decode cX5_findLine 6 = .ok (.getfield 36, 3) := by decide +kernel
theorem dX5_findLine_9 : decode cX5_findLine 9 = .ok (.invokevirtual 65, 3) := by decide +kernel
theorem dX5_findLine_12 : decode cX5_findLine 12 = .ok (.if_icmp .lt 14, 3) := by decide +kernel
theorem dX5_findLine_15 : decode cX5_findLine 15 = .ok (.new 275, 3) := by decide +kernel
theorem dX5_findLine_18 : decode cX5_findLine 18 = .ok (.dup, 1) := by decide +kernel
theorem dX5_findLine_19 : decode cX5_findLine 19 = .ok (.ldc_w 291, 3) := by decide +kernel
theorem dX5_findLine_22 : decode cX5_findLine 22 = .ok (.invokespecial 279, 3) := by decide +kernel
theorem dX5_findLine_25 : decode cX5_findLine 25 = .ok (.athrow, 1) := by decide +kernel
theorem dX5_findLine_26 : decode cX5_findLine 26 = .ok (.aload_n 0, 1) := by decide +kernel
theorem dX5_findLine_27 : decode cX5_findLine 27 = .ok (.getfield 36, 3) := by decide +kernel
theorem dX5_findLine_30 : decode cX5_findLine 30 = .ok (.iload_n 1, 1) := by decide +kernel
theorem dX5_findLine_31 : decode cX5_findLine 31 = .ok (.invokevirtual 100, 3) := by decide +kernel
theorem dX5_findLine_34 : decode cX5_findLine 34 = .ok (.checkcast 104, 3) := by decide +kernel
theorem dX5_findLine_37 : decode cX5_findLine 37 = .ok (.areturn, 1) := by decide +kernel
set_option maxHeartbeats 4000000 in
set_option maxRecDepth 100000 in
theorem c_X5_findLine (l : Launch) (hl0 : l.stackTraces = false) (g : kG) (e0 : Nat) (z : Nat → Nat) (S : wPS) (sz : Nat) (hI : Inv z e0 S) (n : Int32) : kM l g e0 yX5_findLine cX5_findLine 2 (some (.object "Pickwave$Line")) 6 82 1 6 [.ref (z 0), .int n] S sz (pR (fun b T => T = S ∧ Ob S 2 b ∧ ¬ n < 0 ∧ n < pF S 72 (z 11))) (fun E => E = xI ∧ (n < 0 ∨ ¬ n < pF S 72 (z 11))) := by
  refine kM.of (by decide) (Nat.le_of_ble_eq_true rfl) ?_
  intro p e s m below meth c ls B hin
  obtain ⟨F, hr, hlk, hte, hP, hK, hD, hE, hS, hA, hl, hsz⟩ := B
  subst hsz
  have hx := F.1
  have hb := F.2.1
  have hl : lv_has ls 2 [(0, .ref (z 0)), (1, .int n)] := hl
  obtain ⟨m1, hm1, hL1⟩ := hI.lines
  refine lv_iload_n hx hb dX5_findLine_0 rfl (lv_at hl 1 rfl) ?_
  refine lv_if_lt (tgt := 15) hx hb dX5_findLine_1 (by decide) (fun c1 => ?_) (fun c1 => ?_)
  · exact kth_IOOBEW hl0 F hE hlk hte hP hS hl.1 (List.mem_of_getElem? (i := 27) rfl) dX5_findLine_15 dX5_findLine_18 dX5_findLine_19 dX5_findLine_22 dX5_findLine_25 ⟨Nat.le_of_ble_eq_true rfl, Nat.le_of_ble_eq_true rfl, Nat.le_of_ble_eq_true rfl, Nat.le_of_ble_eq_true rfl⟩ (Nat.le_of_ble_eq_true rfl) (Nat.le_of_ble_eq_true rfl) (⟨rfl, Or.inl c1⟩)
  · refine lv_iload_n hx hb dX5_findLine_4 rfl (lv_at hl 1 rfl) ?_
    refine lv_aload_n hx hb dX5_findLine_5 rfl (lv_at hl 0 rfl) ?_
    refine rs_Pickwave_lines (b := z 11) F hK hP (hI.1.1 0 (by decide)) hI.2.1.2.2.2.2.1 kw_28 dX5_findLine_6 ?_
    refine kcallI (kV (n := 0) (As := []) (rest := [.int n]) (b := (z 11)) (C := RJx4a65c) F hE hK hP hD hS hA (c_Jx4a65c_size_8abf5 l hl0 g e0 S _ (z 11) (hI.1.1 11 (by decide))) (rr_ArrayList hK hP (hI.1.1 11 (by decide))) kw_109 kw_110 kw_111 kw_26 kw_112 (by decide +kernel) ⟨Nat.le_of_ble_eq_true rfl, Nat.le_of_ble_eq_true rfl⟩ rfl hl.1 rfl (Nat.le_of_ble_eq_true rfl) dX5_findLine_9 ⟨Nat.le_of_ble_eq_true rfl, Nat.le_of_ble_eq_true rfl⟩) rfl hD hS hA (fun _ _ _ _ _ h => False.elim h) (fun r2 T2 H locs hp hP hD hS => ?_)
    obtain ⟨hT, hp3⟩ := hp
    have hT := hT.symm
    subst hT
    refine lv_icmp_lt (tgt := 26) hx hb dX5_findLine_12 (by decide) (fun c4 => ?_) (fun c4 => ?_)
    · refine lv_aload_n hx hb dX5_findLine_26 rfl (lv_at hl 0 rfl) ?_
      refine rs_Pickwave_lines (b := z 11) F hK hP (hI.1.1 0 (by decide)) hI.2.1.2.2.2.2.1 kw_28 dX5_findLine_27 ?_
      refine lv_iload_n hx hb dX5_findLine_30 rfl (lv_at hl 1 rfl) ?_
      refine kcallR (kV (n := 1) (As := [.int n]) (rest := []) (b := (z 11)) (C := RJx4a65c) F hE hK hP hD hS hA (c_Jx4a65c_get_915e3 l hl0 g e0 S _ (z 11) 2 _ n (hI.1.1 11 (by decide)) hL1 c1 (by rw [← hp3]; exact c4) (by omega)) (rr_ArrayList hK hP (hI.1.1 11 (by decide))) kw_203 kw_204 kw_205 kw_26 kw_206 (by decide +kernel) ⟨Nat.le_of_ble_eq_true rfl, Nat.le_of_ble_eq_true rfl⟩ rfl hl.1 rfl (Nat.le_of_ble_eq_true rfl) dX5_findLine_31 ⟨Nat.le_of_ble_eq_true rfl, Nat.le_of_ble_eq_true rfl⟩) rfl hD hS hA (fun _ _ _ _ _ h => False.elim h) (fun b5 T5 H locs hp hP hD hS => ?_)
      obtain ⟨hT, hp6⟩ := hp
      have hT := hT.symm
      subst hT
      refine va_castS hx hb F.2.2.2.1 (F.2.2.2.2 _ kw_283) (hK.1 3 _ rfl).2 (rr_Line hK hP hp6.1) dX5_findLine_34 ?_
      exact kEndR F hr (Or.inl ⟨_, rfl⟩) (Or.inr ⟨_, rfl⟩) hlk hP hD hS (Nat.le_of_ble_eq_true rfl) (Nat.le_of_ble_eq_true rfl) dX5_findLine_37 ⟨_, rfl, ⟨rfl, hp6.1, c1, (by rw [← hp3]; exact c4)⟩⟩
    · exact kth_IOOBEW hl0 F hE hlk hte hP hS hl.1 (List.mem_of_getElem? (i := 27) rfl) dX5_findLine_15 dX5_findLine_18 dX5_findLine_19 dX5_findLine_22 dX5_findLine_25 ⟨Nat.le_of_ble_eq_true rfl, Nat.le_of_ble_eq_true rfl, Nat.le_of_ble_eq_true rfl, Nat.le_of_ble_eq_true rfl⟩ (Nat.le_of_ble_eq_true rfl) (Nat.le_of_ble_eq_true rfl) (⟨rfl, Or.inr (by rw [← hp3]; exact c4)⟩)
