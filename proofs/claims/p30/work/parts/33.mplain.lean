theorem dX6_promisedByScans_0 : decode cX6_promisedByScans 0 = .ok (.aload_n 0, 1) := by decide +kernel
theorem dX6_promisedByScans_1 : decode cX6_promisedByScans 1 = .ok (.iload_n 1, 1) := by decide +kernel
theorem dX6_promisedByScans_2 : decode cX6_promisedByScans 2 = .ok (.invokevirtual 97, 3) := by decide +kernel
theorem dX6_promisedByScans_5 : decode cX6_promisedByScans 5 = .ok (.ireturn, 1) := by decide +kernel
set_option maxHeartbeats 4000000 in
set_option maxRecDepth 100000 in
theorem c_X6_promisedByScans (l : Launch) (hl0 : l.stackTraces = false) (g : kG) (e0 : Nat) (w : Nat → Nat) (S : wPS) (sz : Nat) (hI : MI w S) (n : Int32) : kM l g e0 yX6_promisedByScans cX6_promisedByScans 2 (some .int) 3 64 0 0 [.ref (w 0), .int n] S sz (pI (fun r T => Mr w S T ∧ pF T 106 (w 0) = pF S 106 (w 0) ∧ (pF T 100 (w 0) = 1 ∨ (∃ m, m ≤ 6 ∧ pF S 101 (w 0) = nI m ∧ ∃ j, j < m ∧ n = nI j)))) (fun E => False) := by
  refine kM.of (by decide) (Nat.le_of_ble_eq_true rfl) ?_
  intro p e s m below meth c ls B hin
  obtain ⟨F, hr, hlk, hte, hP, hK, hD, hE, hS, hA, hl, hsz⟩ := B
  subst hsz
  have hx := F.1
  have hb := F.2.1
  have hl : lv_has ls 2 [(0, .ref (w 0)), (1, .int n)] := hl
  refine lv_aload_n hx hb dX6_promisedByScans_0 rfl (lv_at hl 0 rfl) ?_
  refine lv_iload_n hx hb dX6_promisedByScans_1 rfl (lv_at hl 1 rfl) ?_
  refine kcallI (kV (n := 1) (As := [.int n]) (rest := []) (b := (w 0)) (C := RX6) F hE hK hP hD hS hA (c_X6_promised l hl0 g e0 w S _ hI n) (rr_Model hK hP (hI.1.1 0 (by decide))) kw_304 kw_273 kw_274 kw_5 kw_275 (by decide +kernel) ⟨Nat.le_of_ble_eq_true rfl, Nat.le_of_ble_eq_true rfl⟩ rfl hl.1 rfl (Nat.le_of_ble_eq_true rfl) dX6_promisedByScans_2 ⟨Nat.le_of_ble_eq_true rfl, Nat.le_of_ble_eq_true rfl⟩) rfl hD hS hA (fun _ _ _ _ _ h => False.elim h) (fun r1 T1 H locs hp hP hD hS => ?_)
  exact kEndI F hr rfl hlk hP hD hS (Nat.le_of_ble_eq_true rfl) (Nat.le_of_ble_eq_true rfl) dX6_promisedByScans_5 ⟨_, rfl, hp⟩
theorem dX6_stateByScans_0 : decode cX6_stateByScans 0 = .ok (.aload_n 0, 1) := by decide +kernel
theorem dX6_stateByScans_1 : decode cX6_stateByScans 1 = .ok (.iload_n 1, 1) := by decide +kernel
theorem dX6_stateByScans_2 : decode cX6_stateByScans 2 = .ok (.invokevirtual 121, 3) := by decide +kernel
theorem dX6_stateByScans_5 : decode cX6_stateByScans 5 = .ok (.ireturn, 1) := by decide +kernel
set_option maxHeartbeats 4000000 in
set_option maxRecDepth 100000 in
theorem c_X6_stateByScans (l : Launch) (hl0 : l.stackTraces = false) (g : kG) (e0 : Nat) (w : Nat → Nat) (S : wPS) (sz : Nat) (hI : MI w S) (n : Int32) : kM l g e0 yX6_stateByScans cX6_stateByScans 2 (some .char) 3 64 0 0 [.ref (w 0), .int n] S sz (pI (fun r T => Mr w S T ∧ pF T 106 (w 0) = pF S 106 (w 0) ∧ kCh r ∧ (pF T 100 (w 0) = 1 ∨ (∃ m, m ≤ 12 ∧ pF S 102 (w 0) = nI m ∧ ∃ j, j < m ∧ n = nI j)))) (fun E => False) := by
  refine kM.of (by decide) (Nat.le_of_ble_eq_true rfl) ?_
  intro p e s m below meth c ls B hin
  obtain ⟨F, hr, hlk, hte, hP, hK, hD, hE, hS, hA, hl, hsz⟩ := B
  subst hsz
  have hx := F.1
  have hb := F.2.1
  have hl : lv_has ls 2 [(0, .ref (w 0)), (1, .int n)] := hl
  refine lv_aload_n hx hb dX6_stateByScans_0 rfl (lv_at hl 0 rfl) ?_
  refine lv_iload_n hx hb dX6_stateByScans_1 rfl (lv_at hl 1 rfl) ?_
  refine kcallI (kV (n := 1) (As := [.int n]) (rest := []) (b := (w 0)) (C := RX6) F hE hK hP hD hS hA (c_X6_state l hl0 g e0 w S _ hI n) (rr_Model hK hP (hI.1.1 0 (by decide))) kw_473 kw_459 kw_460 kw_5 kw_461 (by decide +kernel) ⟨Nat.le_of_ble_eq_true rfl, Nat.le_of_ble_eq_true rfl⟩ rfl hl.1 rfl (Nat.le_of_ble_eq_true rfl) dX6_stateByScans_2 ⟨Nat.le_of_ble_eq_true rfl, Nat.le_of_ble_eq_true rfl⟩) rfl hD hS hA (fun _ _ _ _ _ h => False.elim h) (fun r1 T1 H locs hp hP hD hS => ?_)
  exact kEndI F hr hp.2.2.1.1 hlk hP hD hS (Nat.le_of_ble_eq_true rfl) (Nat.le_of_ble_eq_true rfl) dX6_stateByScans_5 ⟨_, rfl, hp⟩
theorem dX6_writtenOff_0 : decode cX6_writtenOff 0 = .ok (.aload_n 0, 1) := by decide +kernel
theorem dX6_writtenOff_1 : decode cX6_writtenOff 1 = .ok (.iconst 0, 1) := by decide +kernel
theorem dX6_writtenOff_2 : decode cX6_writtenOff 2 = .ok (.putfield 62, 3) := by decide +kernel
theorem dX6_writtenOff_5 : decode cX6_writtenOff 5 = .ok (.aload_n 0, 1) := by decide +kernel
theorem dX6_writtenOff_6 : decode cX6_writtenOff 6 = .ok (.getfield 107, 3) := by decide +kernel
theorem dX6_writtenOff_9 : decode cX6_writtenOff 9 = .ok (.ireturn, 1) := by decide +kernel
set_option maxHeartbeats 4000000 in
set_option maxRecDepth 100000 in
theorem c_X6_writtenOff (l : Launch) (hl0 : l.stackTraces = false) (g : kG) (e0 : Nat) (w : Nat → Nat) (S : wPS) (sz : Nat) (hI : MI w S)  : kM l g e0 yX6_writtenOff cX6_writtenOff 1 (some .int) 0 0 0 0 [.ref (w 0)] S sz (pI (fun r T => Mr w S T ∧ pF T 106 (w 0) = pF S 106 (w 0) ∧ pF T 100 (w 0) = 0 ∧ r = pF S 105 (w 0))) (fun E => False) := by
  refine kM.of (by decide) (Nat.le_of_ble_eq_true rfl) ?_
  intro p e s m below meth c ls B hin
  obtain ⟨F, hr, hlk, hte, hP, hK, hD, hE, hS, hA, hl, hsz⟩ := B
  subst hsz
  have hx := F.1
  have hb := F.2.1
  have hl : lv_has ls 1 [(0, .ref (w 0))] := hl
  refine lv_aload_n hx hb dX6_writtenOff_0 rfl (lv_at hl 0 rfl) ?_
  refine lv_iconst (v := 0) hx hb dX6_writtenOff_1 (by decide) ?_
  refine rp_Model_thrown F hK hP hD hS (hI.1.1 0 (by decide)) kw_179 dX6_writtenOff_2 (fun H locs hP hD hS => ?_)
  have m1 : Mr w S (setF S 100 (w 0) 0) := (Mr.rf hI).thr
  refine lv_aload_n hx hb dX6_writtenOff_5 rfl (lv_at hl 0 rfl) ?_
  refine rg_Model_bad F hK hP (m1.1.1.1 0 (by decide)) kw_383 dX6_writtenOff_6 ?_
  refine lv_topi (fun x2 ex2 => ?_)
  exact kEndI F hr rfl hlk hP hD hS (Nat.le_of_ble_eq_true rfl) (Nat.le_of_ble_eq_true rfl) dX6_writtenOff_9 ⟨_, rfl, ⟨m1, ((uF_of (Or.inl (by decide))).trans rfl), uF_at, ex2.trans (uF_of (Or.inl (by decide)))⟩⟩
theorem dX6_orders_0 : decode cX6_orders 0 = .ok (.aload_n 0, 1) := by decide +kernel
theorem dX6_orders_1 : decode cX6_orders 1 = .ok (.iconst 0, 1) := by decide +kernel
theorem dX6_orders_2 : decode cX6_orders 2 = .ok (.putfield 62, 3) := by decide +kernel
theorem dX6_orders_5 : decode cX6_orders 5 = .ok (.aload_n 0, 1) := by decide +kernel
theorem dX6_orders_6 : decode cX6_orders 6 = .ok (.getfield 73, 3) := by decide +kernel
theorem dX6_orders_9 : decode cX6_orders 9 = .ok (.ireturn, 1) := by decide +kernel
set_option maxHeartbeats 4000000 in
set_option maxRecDepth 100000 in
theorem c_X6_orders (l : Launch) (hl0 : l.stackTraces = false) (g : kG) (e0 : Nat) (w : Nat → Nat) (S : wPS) (sz : Nat) (hI : MI w S)  : kM l g e0 yX6_orders cX6_orders 1 (some .int) 0 0 0 0 [.ref (w 0)] S sz (pI (fun r T => Mr w S T ∧ pF T 106 (w 0) = pF S 106 (w 0) ∧ pF T 100 (w 0) = 0 ∧ r = pF S 102 (w 0))) (fun E => False) := by
  refine kM.of (by decide) (Nat.le_of_ble_eq_true rfl) ?_
  intro p e s m below meth c ls B hin
  obtain ⟨F, hr, hlk, hte, hP, hK, hD, hE, hS, hA, hl, hsz⟩ := B
  subst hsz
  have hx := F.1
  have hb := F.2.1
  have hl : lv_has ls 1 [(0, .ref (w 0))] := hl
  refine lv_aload_n hx hb dX6_orders_0 rfl (lv_at hl 0 rfl) ?_
  refine lv_iconst (v := 0) hx hb dX6_orders_1 (by decide) ?_
  refine rp_Model_thrown F hK hP hD hS (hI.1.1 0 (by decide)) kw_179 dX6_orders_2 (fun H locs hP hD hS => ?_)
  have m1 : Mr w S (setF S 100 (w 0) 0) := (Mr.rf hI).thr
  refine lv_aload_n hx hb dX6_orders_5 rfl (lv_at hl 0 rfl) ?_
  refine rg_Model_orders F hK hP (m1.1.1.1 0 (by decide)) kw_263 dX6_orders_6 ?_
  refine lv_topi (fun x2 ex2 => ?_)
  exact kEndI F hr rfl hlk hP hD hS (Nat.le_of_ble_eq_true rfl) (Nat.le_of_ble_eq_true rfl) dX6_orders_9 ⟨_, rfl, ⟨m1, ((uF_of (Or.inl (by decide))).trans rfl), uF_at, ex2.trans (uF_of (Or.inl (by decide)))⟩⟩
theorem dX6_waves_0 : decode cX6_waves 0 = .ok (.aload_n 0, 1) := by decide +kernel
theorem dX6_waves_1 : decode cX6_waves 1 = .ok (.iconst 0, 1) := by decide +kernel
theorem dX6_waves_2 : decode cX6_waves 2 = .ok (.putfield 62, 3) := by decide +kernel
theorem dX6_waves_5 : decode cX6_waves 5 = .ok (.aload_n 0, 1) := by decide +kernel
theorem dX6_waves_6 : decode cX6_waves 6 = .ok (.getfield 130, 3) := by decide +kernel
theorem dX6_waves_9 : decode cX6_waves 9 = .ok (.ireturn, 1) := by decide +kernel
set_option maxHeartbeats 4000000 in
set_option maxRecDepth 100000 in
theorem c_X6_waves (l : Launch) (hl0 : l.stackTraces = false) (g : kG) (e0 : Nat) (w : Nat → Nat) (S : wPS) (sz : Nat) (hI : MI w S)  : kM l g e0 yX6_waves cX6_waves 1 (some .int) 0 0 0 0 [.ref (w 0)] S sz (pI (fun r T => Mr w S T ∧ pF T 106 (w 0) = pF S 106 (w 0) ∧ pF T 100 (w 0) = 0 ∧ r = pF S 103 (w 0))) (fun E => False) := by
  refine kM.of (by decide) (Nat.le_of_ble_eq_true rfl) ?_
  intro p e s m below meth c ls B hin
  obtain ⟨F, hr, hlk, hte, hP, hK, hD, hE, hS, hA, hl, hsz⟩ := B
  subst hsz
  have hx := F.1
  have hb := F.2.1
  have hl : lv_has ls 1 [(0, .ref (w 0))] := hl
  refine lv_aload_n hx hb dX6_waves_0 rfl (lv_at hl 0 rfl) ?_
  refine lv_iconst (v := 0) hx hb dX6_waves_1 (by decide) ?_
  refine rp_Model_thrown F hK hP hD hS (hI.1.1 0 (by decide)) kw_179 dX6_waves_2 (fun H locs hP hD hS => ?_)
  have m1 : Mr w S (setF S 100 (w 0) 0) := (Mr.rf hI).thr
  refine lv_aload_n hx hb dX6_waves_5 rfl (lv_at hl 0 rfl) ?_
  refine rg_Model_waves F hK hP (m1.1.1.1 0 (by decide)) kw_569 dX6_waves_6 ?_
  refine lv_topi (fun x2 ex2 => ?_)
  exact kEndI F hr rfl hlk hP hD hS (Nat.le_of_ble_eq_true rfl) (Nat.le_of_ble_eq_true rfl) dX6_waves_9 ⟨_, rfl, ⟨m1, ((uF_of (Or.inl (by decide))).trans rfl), uF_at, ex2.trans (uF_of (Or.inl (by decide)))⟩⟩
theorem dX6_minute_0 : decode cX6_minute 0 = .ok (.aload_n 0, 1) := by decide +kernel
theorem dX6_minute_1 : decode cX6_minute 1 = .ok (.iconst 0, 1) := by decide +kernel
theorem dX6_minute_2 : decode cX6_minute 2 = .ok (.putfield 62, 3) := by decide +kernel
theorem dX6_minute_5 : decode cX6_minute 5 = .ok (.aload_n 0, 1) := by decide +kernel
theorem dX6_minute_6 : decode cX6_minute 6 = .ok (.getfield 127, 3) := by decide +kernel
theorem dX6_minute_9 : decode cX6_minute 9 = .ok (.ireturn, 1) := by decide +kernel
set_option maxHeartbeats 4000000 in
set_option maxRecDepth 100000 in
theorem c_X6_minute (l : Launch) (hl0 : l.stackTraces = false) (g : kG) (e0 : Nat) (w : Nat → Nat) (S : wPS) (sz : Nat) (hI : MI w S)  : kM l g e0 yX6_minute cX6_minute 1 (some .int) 0 0 0 0 [.ref (w 0)] S sz (pI (fun r T => Mr w S T ∧ pF T 106 (w 0) = pF S 106 (w 0) ∧ pF T 100 (w 0) = 0 ∧ r = pF S 104 (w 0))) (fun E => False) := by
  refine kM.of (by decide) (Nat.le_of_ble_eq_true rfl) ?_
  intro p e s m below meth c ls B hin
  obtain ⟨F, hr, hlk, hte, hP, hK, hD, hE, hS, hA, hl, hsz⟩ := B
  subst hsz
  have hx := F.1
  have hb := F.2.1
  have hl : lv_has ls 1 [(0, .ref (w 0))] := hl
  refine lv_aload_n hx hb dX6_minute_0 rfl (lv_at hl 0 rfl) ?_
  refine lv_iconst (v := 0) hx hb dX6_minute_1 (by decide) ?_
  refine rp_Model_thrown F hK hP hD hS (hI.1.1 0 (by decide)) kw_179 dX6_minute_2 (fun H locs hP hD hS => ?_)
  have m1 : Mr w S (setF S 100 (w 0) 0) := (Mr.rf hI).thr
  refine lv_aload_n hx hb dX6_minute_5 rfl (lv_at hl 0 rfl) ?_
  refine rg_Model_minute F hK hP (m1.1.1.1 0 (by decide)) kw_568 dX6_minute_6 ?_
  refine lv_topi (fun x2 ex2 => ?_)
  exact kEndI F hr rfl hlk hP hD hS (Nat.le_of_ble_eq_true rfl) (Nat.le_of_ble_eq_true rfl) dX6_minute_9 ⟨_, rfl, ⟨m1, ((uF_of (Or.inl (by decide))).trans rfl), uF_at, ex2.trans (uF_of (Or.inl (by decide)))⟩⟩
theorem dX6_scans_0 : decode cX6_scans 0 = .ok (.aload_n 0, 1) := by decide +kernel
theorem dX6_scans_1 : decode cX6_scans 1 = .ok (.iconst 0, 1) := by decide +kernel
theorem dX6_scans_2 : decode cX6_scans 2 = .ok (.putfield 62, 3) := by decide +kernel
theorem dX6_scans_5 : decode cX6_scans 5 = .ok (.aload_n 0, 1) := by decide +kernel
theorem dX6_scans_6 : decode cX6_scans 6 = .ok (.getfield 76, 3) := by decide +kernel
theorem dX6_scans_9 : decode cX6_scans 9 = .ok (.ireturn, 1) := by decide +kernel
set_option maxHeartbeats 4000000 in
set_option maxRecDepth 100000 in
theorem c_X6_scans (l : Launch) (hl0 : l.stackTraces = false) (g : kG) (e0 : Nat) (w : Nat → Nat) (S : wPS) (sz : Nat) (hI : MI w S)  : kM l g e0 yX6_scans cX6_scans 1 (some .int) 0 0 0 0 [.ref (w 0)] S sz (pI (fun r T => Mr w S T ∧ pF T 106 (w 0) = pF S 106 (w 0) ∧ pF T 100 (w 0) = 0 ∧ r = pF S 106 (w 0))) (fun E => False) := by
  refine kM.of (by decide) (Nat.le_of_ble_eq_true rfl) ?_
  intro p e s m below meth c ls B hin
  obtain ⟨F, hr, hlk, hte, hP, hK, hD, hE, hS, hA, hl, hsz⟩ := B
  subst hsz
  have hx := F.1
  have hb := F.2.1
  have hl : lv_has ls 1 [(0, .ref (w 0))] := hl
  refine lv_aload_n hx hb dX6_scans_0 rfl (lv_at hl 0 rfl) ?_
  refine lv_iconst (v := 0) hx hb dX6_scans_1 (by decide) ?_
  refine rp_Model_thrown F hK hP hD hS (hI.1.1 0 (by decide)) kw_179 dX6_scans_2 (fun H locs hP hD hS => ?_)
  have m1 : Mr w S (setF S 100 (w 0) 0) := (Mr.rf hI).thr
  refine lv_aload_n hx hb dX6_scans_5 rfl (lv_at hl 0 rfl) ?_
  refine rg_Model_scans F hK hP (m1.1.1.1 0 (by decide)) kw_347 dX6_scans_6 ?_
  refine lv_topi (fun x2 ex2 => ?_)
  exact kEndI F hr rfl hlk hP hD hS (Nat.le_of_ble_eq_true rfl) (Nat.le_of_ble_eq_true rfl) dX6_scans_9 ⟨_, rfl, ⟨m1, ((uF_of (Or.inl (by decide))).trans rfl), uF_at, ex2.trans (uF_of (Or.inl (by decide)))⟩⟩
theorem dX6_minutesLeft_0 : decode cX6_minutesLeft 0 = .ok (.aload_n 0, 1) := by decide +kernel
theorem dX6_minutesLeft_1 : decode cX6_minutesLeft 1 = .ok (.iload_n 1, 1) := by decide +kernel
theorem dX6_minutesLeft_2 : decode cX6_minutesLeft 2 = .ok (.invokevirtual 124, 3) := by decide +kernel
theorem dX6_minutesLeft_5 : decode cX6_minutesLeft 5 = .ok (.ifCond .ne 5, 3) := by decide +kernel
theorem dX6_minutesLeft_8 : decode cX6_minutesLeft 8 = .ok (.iconst 0, 1) := by decide +kernel
theorem dX6_minutesLeft_9 : decode cX6_minutesLeft 9 = .ok (.ireturn, 1) := by decide +kernel
theorem dX6_minutesLeft_10 : decode cX6_minutesLeft 10 = .ok (.aload_n 0, 1) := by decide +kernel
theorem dX6_minutesLeft_11 : decode cX6_minutesLeft 11 = .ok (.getfield 127, 3) := by decide +kernel
theorem dX6_minutesLeft_14 : decode cX6_minutesLeft 14 = .ok (.aload_n 0, 1) := by decide +kernel
theorem dX6_minutesLeft_15 : decode cX6_minutesLeft 15 = .ok (.getfield 44, 3) := by decide +kernel
theorem dX6_minutesLeft_18 : decode cX6_minutesLeft 18 = .ok (.iload_n 1, 1) := by decide +kernel
theorem dX6_minutesLeft_19 : decode cX6_minutesLeft 19 = .ok (.iaload, 1) := by decide +kernel
theorem dX6_minutesLeft_20 : decode cX6_minutesLeft 20 = .ok (.if_icmp .le 7, 3) := by decide +kernel
theorem dX6_minutesLeft_23 : decode cX6_minutesLeft 23 = .ok (.iconst (-1), 1) := by decide +kernel
theorem dX6_minutesLeft_24 : decode cX6_minutesLeft 24 = .ok (.goto 14, 3) := by decide +kernel
theorem dX6_minutesLeft_27 : decode cX6_minutesLeft 27 = .ok (.aload_n 0, 1) := by decide +kernel
theorem dX6_minutesLeft_28 : decode cX6_minutesLeft 28 = .ok (.getfield 44, 3) := by decide +kernel
theorem dX6_minutesLeft_31 : decode cX6_minutesLeft 31 = .ok (.iload_n 1, 1) := by decide +kernel
theorem dX6_minutesLeft_32 : decode cX6_minutesLeft 32 = .ok (.iaload, 1) := by decide +kernel
theorem dX6_minutesLeft_33 : decode cX6_minutesLeft 33 = .ok (.aload_n 0, 1) := by decide +kernel
theorem dX6_minutesLeft_34 : decode cX6_minutesLeft 34 = .ok (.getfield 127, 3) := by decide +kernel
theorem dX6_minutesLeft_37 : decode cX6_minutesLeft 37 = .ok (.isub, 1) := by decide +kernel
theorem dX6_minutesLeft_38 : decode cX6_minutesLeft 38 = .ok (.ireturn, 1) := by decide +kernel
set_option maxHeartbeats 4000000 in
set_option maxRecDepth 100000 in
theorem c_X6_minutesLeft (l : Launch) (hl0 : l.stackTraces = false) (g : kG) (e0 : Nat) (w : Nat → Nat) (S : wPS) (sz : Nat) (hI : MI w S) (n : Int32) : kM l g e0 yX6_minutesLeft cX6_minutesLeft 2 (some .int) 2 43 0 0 [.ref (w 0), .int n] S sz (pI (fun r T => Mr w S T ∧ pF T 106 (w 0) = pF S 106 (w 0) ∧ ((pF T 100 (w 0) = 1 ∧ (n < 0 ∨ 2 < n)) ∨ (pF T 100 (w 0) = 0 ∧ ∃ j, j < 3 ∧ n = nI j ∧ r = if pX S (w 12) j < pF S 104 (w 0) then -1 else pX S (w 12) j - pF S 104 (w 0))))) (fun E => False) := by
  refine kM.of (by decide) (Nat.le_of_ble_eq_true rfl) ?_
  intro p e s m below meth c ls B hin
  obtain ⟨F, hr, hlk, hte, hP, hK, hD, hE, hS, hA, hl, hsz⟩ := B
  subst hsz
  have hx := F.1
  have hb := F.2.1
  have hl : lv_has ls 2 [(0, .ref (w 0)), (1, .int n)] := hl
  refine lv_aload_n hx hb dX6_minutesLeft_0 rfl (lv_at hl 0 rfl) ?_
  refine lv_iload_n hx hb dX6_minutesLeft_1 rfl (lv_at hl 1 rfl) ?_
  refine kcallI (kV (n := 1) (As := [.int n]) (rest := []) (b := (w 0)) (C := RX6) F hE hK hP hD hS hA (c_X6_isCarrier l hl0 g e0 w S _ hI n) (rr_Model hK hP (hI.1.1 0 (by decide))) kw_532 kw_533 kw_534 kw_5 kw_535 (by decide +kernel) ⟨Nat.le_of_ble_eq_true rfl, Nat.le_of_ble_eq_true rfl⟩ rfl hl.1 rfl (Nat.le_of_ble_eq_true rfl) dX6_minutesLeft_2 ⟨Nat.le_of_ble_eq_true rfl, Nat.le_of_ble_eq_true rfl⟩) rfl hD hS hA (fun _ _ _ _ _ h => False.elim h) (fun r1 T1 H locs hp hP hD hS => ?_)
  have hp := hp
  rcases hp with ⟨hr, hT, j2, hj2, hn2⟩ | ⟨hr, hT, ho2⟩
  · subst hT
    subst hr
    have m2 : Mr w S (setF S 100 (w 0) 0) := (Mr.rf hI).thr
    refine lv_if_ne (tgt := 10) hx hb dX6_minutesLeft_5 (by decide) (fun c3 => ?_) (fun c3 => ?_)
    · have hcl : n.toNatClampNeg = j2 := by rw [hn2, nI_clamp (by omega)]
      refine lv_aload_n hx hb dX6_minutesLeft_10 rfl (lv_at hl 0 rfl) ?_
      refine rg_Model_minute F hK hP (m2.1.1.1 0 (by decide)) kw_568 dX6_minutesLeft_11 ?_
      refine lv_topi (fun x4 ex4 => ?_)
      refine lv_aload_n hx hb dX6_minutesLeft_14 rfl (lv_at hl 0 rfl) ?_
      refine rs_Model_cutOff (b := w 12) F hK hP (m2.1.1.1 0 (by decide)) ((m2.1.2.1 12 (by decide) (by decide)).1) kw_79 dX6_minutesLeft_15 ?_
      refine lv_iload_n hx hb dX6_minutesLeft_18 rfl (lv_at hl 1 rfl) ?_
      refine rd_I F hK hP (m2.1.1.1 12 (by decide)) (by rw [show pN (setF S 100 (w 0) 0) (w 12) = 3 from (m2.1.2.1 12 (by decide) (by decide)).2, hn2]; exact vp_in_nI (by omega) (by decide)) dX6_minutesLeft_19 ?_
      refine lv_topi (fun x5 ex5 => ?_)
      have hmi : x4 = pF S 104 (w 0) := ex4.trans (uF_of (Or.inl (by decide)))
      have hco : x5 = pX S (w 12) j2 := ex5.trans (congrArg (pX S (w 12)) hcl)
      refine lv_icmp_le (tgt := 27) hx hb dX6_minutesLeft_20 (by decide) (fun c6 => ?_) (fun c6 => ?_)
      · refine lv_aload_n hx hb dX6_minutesLeft_27 rfl (lv_at hl 0 rfl) ?_
        refine rs_Model_cutOff (b := w 12) F hK hP (m2.1.1.1 0 (by decide)) ((m2.1.2.1 12 (by decide) (by decide)).1) kw_79 dX6_minutesLeft_28 ?_
        refine lv_iload_n hx hb dX6_minutesLeft_31 rfl (lv_at hl 1 rfl) ?_
        refine rd_I F hK hP (m2.1.1.1 12 (by decide)) (by rw [show pN (setF S 100 (w 0) 0) (w 12) = 3 from (m2.1.2.1 12 (by decide) (by decide)).2, hn2]; exact vp_in_nI (by omega) (by decide)) dX6_minutesLeft_32 ?_
        refine lv_topi (fun x7 ex7 => ?_)
        refine lv_aload_n hx hb dX6_minutesLeft_33 rfl (lv_at hl 0 rfl) ?_
        refine rg_Model_minute F hK hP (m2.1.1.1 0 (by decide)) kw_568 dX6_minutesLeft_34 ?_
        refine lv_topi (fun x8 ex8 => ?_)
        refine lv_isub hx hb dX6_minutesLeft_37 ?_
        refine lv_topi (fun x9 ex9 => ?_)
        exact kEndI F hr rfl hlk hP hD hS (Nat.le_of_ble_eq_true rfl) (Nat.le_of_ble_eq_true rfl) dX6_minutesLeft_38 ⟨_, rfl, ⟨m2, ((uF_of (Or.inl (by decide))).trans rfl), Or.inr ⟨uF_at, j2, hj2, hn2, by rw [if_neg (by rw [← hco, ← hmi]; exact Int32.not_lt.mpr c6), ex9, show x7 = pX S (w 12) j2 from ex7.trans (congrArg (pX S (w 12)) hcl), show x8 = pF S 104 (w 0) from ex8.trans (uF_of (Or.inl (by decide)))]⟩⟩⟩
      · refine lv_iconst (v := (-1)) hx hb dX6_minutesLeft_23 (by decide) ?_
        refine lv_goto (tgt := 38) hx hb dX6_minutesLeft_24 (by decide) ?_
        exact kEndI F hr rfl hlk hP hD hS (Nat.le_of_ble_eq_true rfl) (Nat.le_of_ble_eq_true rfl) dX6_minutesLeft_38 ⟨_, rfl, ⟨m2, ((uF_of (Or.inl (by decide))).trans rfl), Or.inr ⟨uF_at, j2, hj2, hn2, by rw [if_pos (by rw [← hco, ← hmi]; exact Int32.not_le.mp c6)]⟩⟩⟩
    · exact absurd c3 (by decide)
  · subst hT
    subst hr
    have m2 : Mr w S (setF S 100 (w 0) 1) := (Mr.rf hI).thr
    refine lv_if_ne (tgt := 10) hx hb dX6_minutesLeft_5 (by decide) (fun c10 => ?_) (fun c10 => ?_)
    · exact absurd c10 (by decide)
    · refine lv_iconst (v := 0) hx hb dX6_minutesLeft_8 (by decide) ?_
      exact kEndI F hr rfl hlk hP hD hS (Nat.le_of_ble_eq_true rfl) (Nat.le_of_ble_eq_true rfl) dX6_minutesLeft_9 ⟨_, rfl, ⟨m2, ((uF_of (Or.inl (by decide))).trans rfl), Or.inl ⟨uF_at, ho2⟩⟩⟩
theorem dX6_aisleOf_0 : decode cX6_aisleOf 0 = .ok (.aload_n 0, 1) := by decide +kernel
theorem dX6_aisleOf_1 : decode cX6_aisleOf 1 = .ok (.iload_n 1, 1) := by decide +kernel
theorem dX6_aisleOf_2 : decode cX6_aisleOf 2 = .ok (.invokevirtual 133, 3) := by decide +kernel
theorem dX6_aisleOf_5 : decode cX6_aisleOf 5 = .ok (.ifCond .ne 5, 3) := by decide +kernel
theorem dX6_aisleOf_8 : decode cX6_aisleOf 8 = .ok (.iconst 0, 1) := by decide +kernel
theorem dX6_aisleOf_9 : decode cX6_aisleOf 9 = .ok (.ireturn, 1) := by decide +kernel
theorem dX6_aisleOf_10 : decode cX6_aisleOf 10 = .ok (.aload_n 0, 1) := by decide +kernel
theorem dX6_aisleOf_11 : decode cX6_aisleOf 11 = .ok (.getfield 47, 3) := by decide +kernel
theorem dX6_aisleOf_14 : decode cX6_aisleOf 14 = .ok (.iload_n 1, 1) := by decide +kernel
theorem dX6_aisleOf_15 : decode cX6_aisleOf 15 = .ok (.iaload, 1) := by decide +kernel
theorem dX6_aisleOf_16 : decode cX6_aisleOf 16 = .ok (.ifCond .ne 11, 3) := by decide +kernel
theorem dX6_aisleOf_19 : decode cX6_aisleOf 19 = .ok (.aload_n 0, 1) := by decide +kernel
theorem dX6_aisleOf_20 : decode cX6_aisleOf 20 = .ok (.iconst 2, 1) := by decide +kernel
theorem dX6_aisleOf_21 : decode cX6_aisleOf 21 = .ok (.invokevirtual 87, 3) := by decide +kernel
theorem dX6_aisleOf_24 : decode cX6_aisleOf 24 = .ok (.goto 14, 3) := by decide +kernel
theorem dX6_aisleOf_27 : decode cX6_aisleOf 27 = .ok (.aload_n 0, 1) := by decide +kernel
theorem dX6_aisleOf_28 : decode cX6_aisleOf 28 = .ok (.getfield 7, 3) := by decide +kernel
theorem dX6_aisleOf_31 : decode cX6_aisleOf 31 = .ok (.aload_n 0, 1) := by decide +kernel
theorem dX6_aisleOf_32 : decode cX6_aisleOf 32 = .ok (.getfield 53, 3) := by decide +kernel
theorem dX6_aisleOf_35 : decode cX6_aisleOf 35 = .ok (.iload_n 1, 1) := by decide +kernel
theorem dX6_aisleOf_36 : decode cX6_aisleOf 36 = .ok (.iaload, 1) := by decide +kernel
theorem dX6_aisleOf_37 : decode cX6_aisleOf 37 = .ok (.iaload, 1) := by decide +kernel
theorem dX6_aisleOf_38 : decode cX6_aisleOf 38 = .ok (.ireturn, 1) := by decide +kernel
set_option maxHeartbeats 4000000 in
set_option maxRecDepth 100000 in
theorem c_X6_aisleOf (l : Launch) (hl0 : l.stackTraces = false) (g : kG) (e0 : Nat) (w : Nat → Nat) (S : wPS) (sz : Nat) (hI : MI w S) (n : Int32) : kM l g e0 yX6_aisleOf cX6_aisleOf 2 (some .int) 2 43 0 0 [.ref (w 0), .int n] S sz (pI (fun r T => Mr w S T ∧ pF T 106 (w 0) = pF S 106 (w 0) ∧ ((pF T 100 (w 0) = 1 ∧ (n < 0 ∨ 1 < n)) ∨ (∃ j, j < 2 ∧ n = nI j ∧ (pX S (w 13) j = 0 → pF T 100 (w 0) = 2))))) (fun E => False) := by
  refine kM.of (by decide) (Nat.le_of_ble_eq_true rfl) ?_
  intro p e s m below meth c ls B hin
  obtain ⟨F, hr, hlk, hte, hP, hK, hD, hE, hS, hA, hl, hsz⟩ := B
  subst hsz
  have hx := F.1
  have hb := F.2.1
  have hl : lv_has ls 2 [(0, .ref (w 0)), (1, .int n)] := hl
  refine lv_aload_n hx hb dX6_aisleOf_0 rfl (lv_at hl 0 rfl) ?_
  refine lv_iload_n hx hb dX6_aisleOf_1 rfl (lv_at hl 1 rfl) ?_
  refine kcallI (kV (n := 1) (As := [.int n]) (rest := []) (b := (w 0)) (C := RX6) F hE hK hP hD hS hA (c_X6_isRobot l hl0 g e0 w S _ hI n) (rr_Model hK hP (hI.1.1 0 (by decide))) kw_630 kw_631 kw_632 kw_5 kw_633 (by decide +kernel) ⟨Nat.le_of_ble_eq_true rfl, Nat.le_of_ble_eq_true rfl⟩ rfl hl.1 rfl (Nat.le_of_ble_eq_true rfl) dX6_aisleOf_2 ⟨Nat.le_of_ble_eq_true rfl, Nat.le_of_ble_eq_true rfl⟩) rfl hD hS hA (fun _ _ _ _ _ h => False.elim h) (fun r1 T1 H locs hp hP hD hS => ?_)
  have hp := hp
  rcases hp with ⟨hr, hT, j2, hj2, hn2⟩ | ⟨hr, hT, ho2⟩
  · subst hT
    subst hr
    have m2 : Mr w S (setF S 100 (w 0) 0) := (Mr.rf hI).thr
    refine lv_if_ne (tgt := 10) hx hb dX6_aisleOf_5 (by decide) (fun c3 => ?_) (fun c3 => ?_)
    · have hcl : n.toNatClampNeg = j2 := by rw [hn2, nI_clamp (by omega)]
      refine lv_aload_n hx hb dX6_aisleOf_10 rfl (lv_at hl 0 rfl) ?_
      refine rs_Model_load (b := w 13) F hK hP (m2.1.1.1 0 (by decide)) ((m2.1.2.1 13 (by decide) (by decide)).1) kw_80 dX6_aisleOf_11 ?_
      refine lv_iload_n hx hb dX6_aisleOf_14 rfl (lv_at hl 1 rfl) ?_
      refine rd_I F hK hP (m2.1.1.1 13 (by decide)) (by rw [show pN (setF S 100 (w 0) 0) (w 13) = 2 from (m2.1.2.1 13 (by decide) (by decide)).2, hn2]; exact vp_in_nI (by omega) (by decide)) dX6_aisleOf_15 ?_
      refine lv_topi (fun x4 ex4 => ?_)
      refine lv_if_ne (tgt := 27) hx hb dX6_aisleOf_16 (by decide) (fun c5 => ?_) (fun c5 => ?_)
      · refine lv_aload_n hx hb dX6_aisleOf_27 rfl (lv_at hl 0 rfl) ?_
        refine rs_Model_aisle (b := w 1) F hK hP (m2.1.1.1 0 (by decide)) ((m2.1.2.1 1 (by decide) (by decide)).1) kw_67 dX6_aisleOf_28 ?_
        refine lv_aload_n hx hb dX6_aisleOf_31 rfl (lv_at hl 0 rfl) ?_
        refine rs_Model_goal (b := w 15) F hK hP (m2.1.1.1 0 (by decide)) ((m2.1.2.1 15 (by decide) (by decide)).1) kw_82 dX6_aisleOf_32 ?_
        refine lv_iload_n hx hb dX6_aisleOf_35 rfl (lv_at hl 1 rfl) ?_
        refine rd_I F hK hP (m2.1.1.1 15 (by decide)) (by rw [show pN (setF S 100 (w 0) 0) (w 15) = 2 from (m2.1.2.1 15 (by decide) (by decide)).2, hn2]; exact vp_in_nI (by omega) (by decide)) dX6_aisleOf_36 ?_
        refine lv_topi (fun x6 ex6 => ?_)
        obtain ⟨jg, hjg, hxg⟩ : ∃ q, q < 6 ∧ x6 = nI q := by rw [ex6]; exact hI.2.2.2.2.2.1 _
        refine rd_I F hK hP (m2.1.1.1 1 (by decide)) (by rw [show pN (setF S 100 (w 0) 0) (w 1) = 6 from (m2.1.2.1 1 (by decide) (by decide)).2, hxg]; exact vp_in_nI (by omega) (by decide)) dX6_aisleOf_37 ?_
        refine lv_topi (fun x7 ex7 => ?_)
        exact kEndI F hr rfl hlk hP hD hS (Nat.le_of_ble_eq_true rfl) (Nat.le_of_ble_eq_true rfl) dX6_aisleOf_38 ⟨_, rfl, ⟨m2, ((uF_of (Or.inl (by decide))).trans rfl), Or.inr ⟨j2, hj2, hn2, fun h => absurd (show x4 = 0 from ex4.trans ((congrArg (pX S (w 13)) hcl).trans h)) c5⟩⟩⟩
      · refine lv_aload_n hx hb dX6_aisleOf_19 rfl (lv_at hl 0 rfl) ?_
        refine lv_iconst (v := 2) hx hb dX6_aisleOf_20 (by decide) ?_
        refine kcallI (kV (n := 1) (As := [.int 2]) (rest := []) (b := (w 0)) (C := RX6) F hE hK hP hD hS hA (c_X6_fails l hl0 g e0 (setF S 100 (w 0) 0) _ (w 0) 2 (m2.1.1.1 0 (by decide))) (rr_Model hK hP (m2.1.1.1 0 (by decide))) kw_183 kw_184 kw_185 kw_5 kw_186 (by decide +kernel) ⟨Nat.le_of_ble_eq_true rfl, Nat.le_of_ble_eq_true rfl⟩ rfl hl.1 rfl (Nat.le_of_ble_eq_true rfl) dX6_aisleOf_21 ⟨Nat.le_of_ble_eq_true rfl, Nat.le_of_ble_eq_true rfl⟩) rfl hD hS hA (fun _ _ _ _ _ h => False.elim h) (fun r8 T8 H locs hp hP hD hS => ?_)
        obtain ⟨hT, hr9⟩ := hp
        subst hT
        have m9 : Mr w S (setF (setF S 100 (w 0) 0) 100 (w 0) 2) := m2.thr
        subst hr9
        refine lv_goto (tgt := 38) hx hb dX6_aisleOf_24 (by decide) ?_
        exact kEndI F hr rfl hlk hP hD hS (Nat.le_of_ble_eq_true rfl) (Nat.le_of_ble_eq_true rfl) dX6_aisleOf_38 ⟨_, rfl, ⟨m9, ((uF_of (Or.inl (by decide))).trans ((uF_of (Or.inl (by decide))).trans rfl)), Or.inr ⟨j2, hj2, hn2, fun _ => uF_at⟩⟩⟩
    · exact absurd c3 (by decide)
  · subst hT
    subst hr
    have m2 : Mr w S (setF S 100 (w 0) 1) := (Mr.rf hI).thr
    refine lv_if_ne (tgt := 10) hx hb dX6_aisleOf_5 (by decide) (fun c10 => ?_) (fun c10 => ?_)
    · exact absurd c10 (by decide)
    · refine lv_iconst (v := 0) hx hb dX6_aisleOf_8 (by decide) ?_
      exact kEndI F hr rfl hlk hP hD hS (Nat.le_of_ble_eq_true rfl) (Nat.le_of_ble_eq_true rfl) dX6_aisleOf_9 ⟨_, rfl, ⟨m2, ((uF_of (Or.inl (by decide))).trans rfl), Or.inl ⟨uF_at, ho2⟩⟩⟩
theorem dX6_scanOrder_0 : decode cX6_scanOrder 0 = .ok (.iload_n 1, 1) := by decide +kernel
theorem dX6_scanOrder_1 : decode cX6_scanOrder 1 = .ok (.iconst 0, 1) := by decide +kernel
theorem dX6_scanOrder_2 : decode cX6_scanOrder 2 = .ok (.aload_n 0, 1) := by decide +kernel
theorem dX6_scanOrder_3 : decode cX6_scanOrder 3 = .ok (.getfield 76, 3) := by decide +kernel
theorem dX6_scanOrder_6 : decode cX6_scanOrder 6 = .ok (.iconst 1, 1) := by decide +kernel
theorem dX6_scanOrder_7 : decode cX6_scanOrder 7 = .ok (.isub, 1) := by decide +kernel
theorem dX6_scanOrder_8 : decode cX6_scanOrder 8 = .ok (.invokestatic 69, 3) := by decide +kernel
theorem dX6_scanOrder_11 : decode cX6_scanOrder 11 = .ok (.ifCond .ne 9, 3) := by decide +kernel
theorem dX6_scanOrder_14 : decode cX6_scanOrder 14 = .ok (.aload_n 0, 1) := by decide +kernel
theorem dX6_scanOrder_15 : decode cX6_scanOrder 15 = .ok (.iconst 1, 1) := by decide +kernel
theorem dX6_scanOrder_16 : decode cX6_scanOrder 16 = .ok (.invokevirtual 87, 3) := by decide +kernel
theorem dX6_scanOrder_19 : decode cX6_scanOrder 19 = .ok (.ireturn, 1) := by decide +kernel
theorem dX6_scanOrder_20 : decode cX6_scanOrder 20 = .ok (.aload_n 0, 1) := by decide +kernel
theorem dX6_scanOrder_21 : decode cX6_scanOrder 21 = .ok (.iconst 0, 1) := by decide +kernel
theorem dX6_scanOrder_22 : decode cX6_scanOrder 22 = .ok (.putfield 62, 3) := by decide +kernel
theorem dX6_scanOrder_25 : decode cX6_scanOrder 25 = .ok (.aload_n 0, 1) := by decide +kernel
theorem dX6_scanOrder_26 : decode cX6_scanOrder 26 = .ok (.getfield 56, 3) := by decide +kernel
theorem dX6_scanOrder_29 : decode cX6_scanOrder 29 = .ok (.iload_n 1, 1) := by decide +kernel
theorem dX6_scanOrder_30 : decode cX6_scanOrder 30 = .ok (.iaload, 1) := by decide +kernel
theorem dX6_scanOrder_31 : decode cX6_scanOrder 31 = .ok (.ireturn, 1) := by decide +kernel
set_option maxHeartbeats 4000000 in
set_option maxRecDepth 100000 in
theorem c_X6_scanOrder (l : Launch) (hl0 : l.stackTraces = false) (g : kG) (e0 : Nat) (w : Nat → Nat) (S : wPS) (sz : Nat) (hI : MI w S) (n : Int32) (cn : Nat) (hc : pF S 106 (w 0) = nI cn) (hc7 : cn ≤ 7000) : kM l g e0 yX6_scanOrder cX6_scanOrder 2 (some .int) 1 22 0 0 [.ref (w 0), .int n] S sz (pI (fun r T => Mr w S T ∧ pF T 106 (w 0) = pF S 106 (w 0) ∧ (pF T 100 (w 0) = 1 ∨ ∃ j, j < cn ∧ n = nI j))) (fun E => False) := by
  refine kM.of (by decide) (Nat.le_of_ble_eq_true rfl) ?_
  intro p e s m below meth c ls B hin
  obtain ⟨F, hr, hlk, hte, hP, hK, hD, hE, hS, hA, hl, hsz⟩ := B
  subst hsz
  have hx := F.1
  have hb := F.2.1
  have hl : lv_has ls 2 [(0, .ref (w 0)), (1, .int n)] := hl
  refine lv_iload_n hx hb dX6_scanOrder_0 rfl (lv_at hl 1 rfl) ?_
  refine lv_iconst (v := 0) hx hb dX6_scanOrder_1 (by decide) ?_
  refine lv_aload_n hx hb dX6_scanOrder_2 rfl (lv_at hl 0 rfl) ?_
  refine rg_Model_scans F hK hP (hI.1.1 0 (by decide)) kw_347 dX6_scanOrder_3 ?_
  refine lv_topi (fun x1 ex1 => ?_)
  refine lv_iconst (v := 1) hx hb dX6_scanOrder_6 (by decide) ?_
  refine lv_isub hx hb dX6_scanOrder_7 ?_
  refine lv_topi (fun x2 ex2 => ?_)
  refine kcallI (kSt (n := 3) (As := [.int n, .int 0, .int x2]) (rest := []) F hE hK hP hD hS hA (c_X6_in l hl0 g e0 S _ n 0 x2) kw_180 kw_181 kw_5 kw_182 (by decide +kernel) ⟨Nat.le_of_ble_eq_true rfl, Nat.le_of_ble_eq_true rfl⟩ rfl hl.1 rfl (Nat.le_of_ble_eq_true rfl) dX6_scanOrder_8 ⟨Nat.le_of_ble_eq_true rfl, Nat.le_of_ble_eq_true rfl⟩) rfl hD hS hA (fun _ _ _ _ _ h => False.elim h) (fun r3 T3 H locs hp hP hD hS => ?_)
  obtain ⟨hT, hp4⟩ := hp
  have hT := hT.symm
  subst hT
  refine lv_if_ne (tgt := 20) hx hb dX6_scanOrder_11 (by decide) (fun c5 => ?_) (fun c5 => ?_)
  · have hbb := (show _ ∧ _ from by rcases hp4 with ⟨-, h1, h2⟩ | ⟨h, -⟩; exact ⟨h1, h2⟩; exact absurd c5 (by rw [h]; decide))
    obtain ⟨j, hj, hn⟩ := kixm (n := n) (x := x1) (ex1.trans hc) hc7 (by decide) hbb.1 (by rw [← ex2]; exact hbb.2)
    refine lv_aload_n hx hb dX6_scanOrder_20 rfl (lv_at hl 0 rfl) ?_
    refine lv_iconst (v := 0) hx hb dX6_scanOrder_21 (by decide) ?_
    refine rp_Model_thrown F hK hP hD hS (hI.1.1 0 (by decide)) kw_179 dX6_scanOrder_22 (fun H locs hP hD hS => ?_)
    have m6 : Mr w S (setF S 100 (w 0) 0) := (Mr.rf hI).thr
    refine lv_aload_n hx hb dX6_scanOrder_25 rfl (lv_at hl 0 rfl) ?_
    refine rs_Model_scanOrder (b := w 16) F hK hP (m6.1.1.1 0 (by decide)) ((m6.1.2.1 16 (by decide) (by decide)).1) kw_83 dX6_scanOrder_26 ?_
    refine lv_iload_n hx hb dX6_scanOrder_29 rfl (lv_at hl 1 rfl) ?_
    refine rd_I F hK hP (m6.1.1.1 16 (by decide)) (by rw [show pN (setF S 100 (w 0) 0) (w 16) = 7000 from (m6.1.2.1 16 (by decide) (by decide)).2, hn]; exact vp_in_nI (by omega) (by decide)) dX6_scanOrder_30 ?_
    refine lv_topi (fun x7 ex7 => ?_)
    exact kEndI F hr rfl hlk hP hD hS (Nat.le_of_ble_eq_true rfl) (Nat.le_of_ble_eq_true rfl) dX6_scanOrder_31 ⟨_, rfl, ⟨m6, ((uF_of (Or.inl (by decide))).trans rfl), Or.inr ⟨j, hj, hn⟩⟩⟩
  · refine lv_aload_n hx hb dX6_scanOrder_14 rfl (lv_at hl 0 rfl) ?_
    refine lv_iconst (v := 1) hx hb dX6_scanOrder_15 (by decide) ?_
    refine kcallI (kV (n := 1) (As := [.int 1]) (rest := []) (b := (w 0)) (C := RX6) F hE hK hP hD hS hA (c_X6_fails l hl0 g e0 S _ (w 0) 1 (hI.1.1 0 (by decide))) (rr_Model hK hP (hI.1.1 0 (by decide))) kw_183 kw_184 kw_185 kw_5 kw_186 (by decide +kernel) ⟨Nat.le_of_ble_eq_true rfl, Nat.le_of_ble_eq_true rfl⟩ rfl hl.1 rfl (Nat.le_of_ble_eq_true rfl) dX6_scanOrder_16 ⟨Nat.le_of_ble_eq_true rfl, Nat.le_of_ble_eq_true rfl⟩) rfl hD hS hA (fun _ _ _ _ _ h => False.elim h) (fun r8 T8 H locs hp hP hD hS => ?_)
    obtain ⟨hT, hr9⟩ := hp
    subst hT
    have m9 : Mr w S (setF S 100 (w 0) 1) := (Mr.rf hI).thr
    subst hr9
    exact kEndI F hr rfl hlk hP hD hS (Nat.le_of_ble_eq_true rfl) (Nat.le_of_ble_eq_true rfl) dX6_scanOrder_19 ⟨_, rfl, ⟨m9, ((uF_of (Or.inl (by decide))).trans rfl), Or.inl uF_at⟩⟩
theorem dX6_scanSign_0 : decode cX6_scanSign 0 = .ok (.aload_n 0, 1) := by decide +kernel
theorem dX6_scanSign_1 : decode cX6_scanSign 1 = .ok (.iload_n 1, 1) := by decide +kernel
theorem dX6_scanSign_2 : decode cX6_scanSign 2 = .ok (.iconst 0, 1) := by decide +kernel
theorem dX6_scanSign_3 : decode cX6_scanSign 3 = .ok (.aload_n 0, 1) := by decide +kernel
theorem dX6_scanSign_4 : decode cX6_scanSign 4 = .ok (.getfield 76, 3) := by decide +kernel
theorem dX6_scanSign_7 : decode cX6_scanSign 7 = .ok (.iconst 1, 1) := by decide +kernel
theorem dX6_scanSign_8 : decode cX6_scanSign 8 = .ok (.isub, 1) := by decide +kernel
theorem dX6_scanSign_9 : decode cX6_scanSign 9 = .ok (.invokestatic 69, 3) := by decide +kernel
theorem dX6_scanSign_12 : decode cX6_scanSign 12 = .ok (.ifCond .eq 7, 3) := by decide +kernel
theorem dX6_scanSign_15 : decode cX6_scanSign 15 = .ok (.iconst 0, 1) := by decide +kernel
theorem dX6_scanSign_16 : decode cX6_scanSign 16 = .ok (.goto 4, 3) := by decide +kernel
theorem dX6_scanSign_19 : decode cX6_scanSign 19 = .ok (.iconst 1, 1) := by decide +kernel
theorem dX6_scanSign_20 : decode cX6_scanSign 20 = .ok (.putfield 62, 3) := by decide +kernel
theorem dX6_scanSign_23 : decode cX6_scanSign 23 = .ok (.aload_n 0, 1) := by decide +kernel
theorem dX6_scanSign_24 : decode cX6_scanSign 24 = .ok (.getfield 62, 3) := by decide +kernel
theorem dX6_scanSign_27 : decode cX6_scanSign 27 = .ok (.ifCond .le 7, 3) := by decide +kernel
theorem dX6_scanSign_30 : decode cX6_scanSign 30 = .ok (.iconst 0, 1) := by decide +kernel
theorem dX6_scanSign_31 : decode cX6_scanSign 31 = .ok (.goto 9, 3) := by decide +kernel
theorem dX6_scanSign_34 : decode cX6_scanSign 34 = .ok (.aload_n 0, 1) := by decide +kernel
theorem dX6_scanSign_35 : decode cX6_scanSign 35 = .ok (.getfield 59, 3) := by decide +kernel
theorem dX6_scanSign_38 : decode cX6_scanSign 38 = .ok (.iload_n 1, 1) := by decide +kernel
theorem dX6_scanSign_39 : decode cX6_scanSign 39 = .ok (.iaload, 1) := by decide +kernel
theorem dX6_scanSign_40 : decode cX6_scanSign 40 = .ok (.i2c, 1) := by decide +kernel
theorem dX6_scanSign_41 : decode cX6_scanSign 41 = .ok (.ireturn, 1) := by decide +kernel
set_option maxHeartbeats 4000000 in
set_option maxRecDepth 100000 in
theorem c_X6_scanSign (l : Launch) (hl0 : l.stackTraces = false) (g : kG) (e0 : Nat) (w : Nat → Nat) (S : wPS) (sz : Nat) (hI : MI w S) (n : Int32) (cn : Nat) (hc : pF S 106 (w 0) = nI cn) (hc7 : cn ≤ 7000) : kM l g e0 yX6_scanSign cX6_scanSign 2 (some .char) 1 22 0 0 [.ref (w 0), .int n] S sz (pI (fun r T => Mr w S T ∧ pF T 106 (w 0) = pF S 106 (w 0) ∧ kCh r ∧ (pF T 100 (w 0) = 1 ∨ ∃ j, j < cn ∧ n = nI j))) (fun E => False) := by
  refine kM.of (by decide) (Nat.le_of_ble_eq_true rfl) ?_
  intro p e s m below meth c ls B hin
  obtain ⟨F, hr, hlk, hte, hP, hK, hD, hE, hS, hA, hl, hsz⟩ := B
  subst hsz
  have hx := F.1
  have hb := F.2.1
  have hl : lv_has ls 2 [(0, .ref (w 0)), (1, .int n)] := hl
  refine lv_aload_n hx hb dX6_scanSign_0 rfl (lv_at hl 0 rfl) ?_
  refine lv_iload_n hx hb dX6_scanSign_1 rfl (lv_at hl 1 rfl) ?_
  refine lv_iconst (v := 0) hx hb dX6_scanSign_2 (by decide) ?_
  refine lv_aload_n hx hb dX6_scanSign_3 rfl (lv_at hl 0 rfl) ?_
  refine rg_Model_scans F hK hP (hI.1.1 0 (by decide)) kw_347 dX6_scanSign_4 ?_
  refine lv_topi (fun x1 ex1 => ?_)
  refine lv_iconst (v := 1) hx hb dX6_scanSign_7 (by decide) ?_
  refine lv_isub hx hb dX6_scanSign_8 ?_
  refine lv_topi (fun x2 ex2 => ?_)
  refine kcallI (kSt (n := 3) (As := [.int n, .int 0, .int x2]) (rest := [.ref (w 0)]) F hE hK hP hD hS hA (c_X6_in l hl0 g e0 S _ n 0 x2) kw_180 kw_181 kw_5 kw_182 (by decide +kernel) ⟨Nat.le_of_ble_eq_true rfl, Nat.le_of_ble_eq_true rfl⟩ rfl hl.1 rfl (Nat.le_of_ble_eq_true rfl) dX6_scanSign_9 ⟨Nat.le_of_ble_eq_true rfl, Nat.le_of_ble_eq_true rfl⟩) rfl hD hS hA (fun _ _ _ _ _ h => False.elim h) (fun r3 T3 H locs hp hP hD hS => ?_)
  obtain ⟨hT, hp4⟩ := hp
  have hT := hT.symm
  subst hT
  refine lv_if_eq (tgt := 19) hx hb dX6_scanSign_12 (by decide) (fun c5 => ?_) (fun c5 => ?_)
  · refine lv_iconst (v := 1) hx hb dX6_scanSign_19 (by decide) ?_
    refine rp_Model_thrown F hK hP hD hS (hI.1.1 0 (by decide)) kw_179 dX6_scanSign_20 (fun H locs hP hD hS => ?_)
    have m6 : Mr w S (setF S 100 (w 0) 1) := (Mr.rf hI).thr
    refine lv_aload_n hx hb dX6_scanSign_23 rfl (lv_at hl 0 rfl) ?_
    refine rg_Model_thrown F hK hP (m6.1.1.1 0 (by decide)) kw_179 dX6_scanSign_24 ?_
    refine lv_topi (fun x7 ex7 => ?_)
    have hx7 : x7 = 1 := by rw [ex7]; exact uF_at
    rw [hx7]
    refine lv_if_le (tgt := 34) hx hb dX6_scanSign_27 (by decide) (fun c8 => ?_) (fun c8 => ?_)
    · exact absurd c8 (by decide)
    · refine lv_iconst (v := 0) hx hb dX6_scanSign_30 (by decide) ?_
      refine lv_goto (tgt := 40) hx hb dX6_scanSign_31 (by decide) ?_
      refine lv_i2c (v := ((0 : Int32).toUInt32 % 65536).toInt32) hx hb dX6_scanSign_40 rfl ?_
      refine lv_topi (fun x9 ex9 => ?_)
      exact kEndI F hr ((kch_i2c ex9).1) hlk hP hD hS (Nat.le_of_ble_eq_true rfl) (Nat.le_of_ble_eq_true rfl) dX6_scanSign_41 ⟨_, rfl, ⟨m6, ((uF_of (Or.inl (by decide))).trans rfl), kch_i2c ex9, Or.inl uF_at⟩⟩
  · refine lv_iconst (v := 0) hx hb dX6_scanSign_15 (by decide) ?_
    refine lv_goto (tgt := 20) hx hb dX6_scanSign_16 (by decide) ?_
    refine rp_Model_thrown F hK hP hD hS (hI.1.1 0 (by decide)) kw_179 dX6_scanSign_20 (fun H locs hP hD hS => ?_)
    have m10 : Mr w S (setF S 100 (w 0) 0) := (Mr.rf hI).thr
    refine lv_aload_n hx hb dX6_scanSign_23 rfl (lv_at hl 0 rfl) ?_
    refine rg_Model_thrown F hK hP (m10.1.1.1 0 (by decide)) kw_179 dX6_scanSign_24 ?_
    refine lv_topi (fun x11 ex11 => ?_)
    have hx11 : x11 = 0 := by rw [ex11]; exact uF_at
    rw [hx11]
    have hbb := (show _ ∧ _ from by rcases hp4 with ⟨-, h1, h2⟩ | ⟨h, -⟩; exact ⟨h1, h2⟩; exact absurd c5 (by rw [h]; decide))
    obtain ⟨j, hj, hn⟩ := kixm (n := n) (x := x1) (ex1.trans hc) hc7 (by decide) hbb.1 (by rw [← ex2]; exact hbb.2)
    refine lv_if_le (tgt := 34) hx hb dX6_scanSign_27 (by decide) (fun c12 => ?_) (fun c12 => ?_)
    · refine lv_aload_n hx hb dX6_scanSign_34 rfl (lv_at hl 0 rfl) ?_
      refine rs_Model_scanSign (b := w 17) F hK hP (m10.1.1.1 0 (by decide)) ((m10.1.2.1 17 (by decide) (by decide)).1) kw_84 dX6_scanSign_35 ?_
      refine lv_iload_n hx hb dX6_scanSign_38 rfl (lv_at hl 1 rfl) ?_
      refine rd_I F hK hP (m10.1.1.1 17 (by decide)) (by rw [show pN (setF S 100 (w 0) 0) (w 17) = 7000 from (m10.1.2.1 17 (by decide) (by decide)).2, hn]; exact vp_in_nI (by omega) (by decide)) dX6_scanSign_39 ?_
      refine lv_topi (fun x13 ex13 => ?_)
      refine lv_i2c (v := (x13.toUInt32 % 65536).toInt32) hx hb dX6_scanSign_40 rfl ?_
      refine lv_topi (fun x14 ex14 => ?_)
      exact kEndI F hr ((kch_i2c ex14).1) hlk hP hD hS (Nat.le_of_ble_eq_true rfl) (Nat.le_of_ble_eq_true rfl) dX6_scanSign_41 ⟨_, rfl, ⟨m10, ((uF_of (Or.inl (by decide))).trans rfl), kch_i2c ex14, Or.inr ⟨j, hj, hn⟩⟩⟩
    · exact absurd (by decide) c12
