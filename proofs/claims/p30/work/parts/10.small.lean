theorem dX1_freeUnits_0 : decode cX1_freeUnits 0 = .ok (.aload_n 0, 1) := by decide +kernel
theorem dX1_freeUnits_1 : decode cX1_freeUnits 1 = .ok (.getfield 13, 3) := by decide +kernel
theorem dX1_freeUnits_4 : decode cX1_freeUnits 4 = .ok (.aload_n 0, 1) := by decide +kernel
theorem dX1_freeUnits_5 : decode cX1_freeUnits 5 = .ok (.getfield 23, 3) := by decide +kernel
theorem dX1_freeUnits_8 : decode cX1_freeUnits 8 = .ok (.isub, 1) := by decide +kernel
theorem dX1_freeUnits_9 : decode cX1_freeUnits 9 = .ok (.ireturn, 1) := by decide +kernel
set_option maxHeartbeats 4000000 in
set_option maxRecDepth 100000 in
theorem c_X1_freeUnits (l : Launch) (hl0 : l.stackTraces = false) (g : kG) (e0 : Nat) (S : wPS) (sz : Nat) (a : Nat) (oa : Ob S 1 a) : kM l g e0 yX1_freeUnits cX1_freeUnits 1 (some .int) 0 0 0 0 [.ref a] S sz (pI (fun r T => T = S ∧ r = pF S 12 a - pF S 14 a)) (fun E => False) := by
  refine kM.of (by decide) (Nat.le_of_ble_eq_true rfl) ?_
  intro p e s m below meth c ls B hin
  obtain ⟨F, hr, hlk, hte, hP, hK, hD, hE, hS, hA, hl, hsz⟩ := B
  subst hsz
  have hx := F.1
  have hb := F.2.1
  have hl : lv_has ls 1 [(0, .ref a)] := hl
  refine lv_aload_n hx hb dX1_freeUnits_0 rfl (lv_at hl 0 rfl) ?_
  refine rg_Article_stock F hK hP oa kw_119 dX1_freeUnits_1 ?_
  refine lv_topi (fun x1 ex1 => ?_)
  refine lv_aload_n hx hb dX1_freeUnits_4 rfl (lv_at hl 0 rfl) ?_
  refine rg_Article_promisedUnits F hK hP oa kw_250 dX1_freeUnits_5 ?_
  refine lv_topi (fun x2 ex2 => ?_)
  refine lv_isub hx hb dX1_freeUnits_8 ?_
  refine lv_topi (fun x3 ex3 => ?_)
  exact kEndI F hr rfl hlk hP hD hS (Nat.le_of_ble_eq_true rfl) (Nat.le_of_ble_eq_true rfl) dX1_freeUnits_9 ⟨_, rfl, ⟨rfl, by subst_vars; rfl⟩⟩
theorem dX1_roomLeft_0 : decode cX1_roomLeft 0 = .ok (.aload_n 0, 1) := by decide +kernel
theorem dX1_roomLeft_1 : decode cX1_roomLeft 1 = .ok (.getfield 20, 3) := by decide +kernel
theorem dX1_roomLeft_4 : decode cX1_roomLeft 4 = .ok (.aload_n 0, 1) := by decide +kernel
theorem dX1_roomLeft_5 : decode cX1_roomLeft 5 = .ok (.getfield 13, 3) := by decide +kernel
theorem dX1_roomLeft_8 : decode cX1_roomLeft 8 = .ok (.isub, 1) := by decide +kernel
theorem dX1_roomLeft_9 : decode cX1_roomLeft 9 = .ok (.ireturn, 1) := by decide +kernel
set_option maxHeartbeats 4000000 in
set_option maxRecDepth 100000 in
theorem c_X1_roomLeft (l : Launch) (hl0 : l.stackTraces = false) (g : kG) (e0 : Nat) (S : wPS) (sz : Nat) (a : Nat) (oa : Ob S 1 a) : kM l g e0 yX1_roomLeft cX1_roomLeft 1 (some .int) 0 0 0 0 [.ref a] S sz (pI (fun r T => T = S ∧ r = pF S 11 a - pF S 12 a)) (fun E => False) := by
  refine kM.of (by decide) (Nat.le_of_ble_eq_true rfl) ?_
  intro p e s m below meth c ls B hin
  obtain ⟨F, hr, hlk, hte, hP, hK, hD, hE, hS, hA, hl, hsz⟩ := B
  subst hsz
  have hx := F.1
  have hb := F.2.1
  have hl : lv_has ls 1 [(0, .ref a)] := hl
  refine lv_aload_n hx hb dX1_roomLeft_0 rfl (lv_at hl 0 rfl) ?_
  refine rg_Article_room F hK hP oa kw_121 dX1_roomLeft_1 ?_
  refine lv_topi (fun x1 ex1 => ?_)
  refine lv_aload_n hx hb dX1_roomLeft_4 rfl (lv_at hl 0 rfl) ?_
  refine rg_Article_stock F hK hP oa kw_119 dX1_roomLeft_5 ?_
  refine lv_topi (fun x2 ex2 => ?_)
  refine lv_isub hx hb dX1_roomLeft_8 ?_
  refine lv_topi (fun x3 ex3 => ?_)
  exact kEndI F hr rfl hlk hP hD hS (Nat.le_of_ble_eq_true rfl) (Nat.le_of_ble_eq_true rfl) dX1_roomLeft_9 ⟨_, rfl, ⟨rfl, by subst_vars; rfl⟩⟩
theorem dX1_putAway_0 : decode cX1_putAway 0 = .ok (.iload_n 1, 1) := by decide +kernel
theorem dX1_putAway_1 : decode cX1_putAway 1 = .ok (.aload_n 0, 1) := by decide +kernel
theorem dX1_putAway_2 : decode cX1_putAway 2 = .ok (.invokevirtual 26, 3) := by decide +kernel
theorem dX1_putAway_5 : decode cX1_putAway 5 = .ok (.invokestatic 30, 3) := by decide +kernel
theorem dX1_putAway_8 : decode cX1_putAway 8 = .ok (.istore_n 2, 1) := by decide +kernel
theorem dX1_putAway_9 : decode cX1_putAway 9 = .ok (.aload_n 0, 1) := by decide +kernel
theorem dX1_putAway_10 : decode cX1_putAway 10 = .ok (.dup, 1) := by decide +kernel
theorem dX1_putAway_11 : decode cX1_putAway 11 = .ok (.getfield 13, 3) := by decide +kernel
theorem dX1_putAway_14 : decode cX1_putAway 14 = .ok (.iload_n 2, 1) := by decide +kernel
theorem dX1_putAway_15 : decode cX1_putAway 15 = .ok (.iadd, 1) := by decide +kernel
theorem dX1_putAway_16 : decode cX1_putAway 16 = .ok (.putfield 13, 3) := by decide +kernel
theorem dX1_putAway_19 : decode cX1_putAway 19 = .ok (.aload_n 0, 1) := by decide +kernel
theorem dX1_putAway_20 : decode cX1_putAway 20 = .ok (.dup, 1) := by decide +kernel
theorem dX1_putAway_21 : decode cX1_putAway 21 = .ok (.getfield 17, 3) := by decide +kernel
theorem dX1_putAway_24 : decode cX1_putAway 24 = .ok (.iload_n 1, 1) := by decide +kernel
theorem dX1_putAway_25 : decode cX1_putAway 25 = .ok (.iload_n 2, 1) := by decide +kernel
theorem dX1_putAway_26 : decode cX1_putAway 26 = .ok (.isub, 1) := by decide +kernel
theorem dX1_putAway_27 : decode cX1_putAway 27 = .ok (.iadd, 1) := by decide +kernel
theorem dX1_putAway_28 : decode cX1_putAway 28 = .ok (.putfield 17, 3) := by decide +kernel
theorem dX1_putAway_31 : decode cX1_putAway 31 = .ok (.iload_n 2, 1) := by decide +kernel
theorem dX1_putAway_32 : decode cX1_putAway 32 = .ok (.ireturn, 1) := by decide +kernel
set_option maxHeartbeats 4000000 in
set_option maxRecDepth 100000 in
theorem c_X1_putAway (l : Launch) (hl0 : l.stackTraces = false) (g : kG) (e0 : Nat) (z : Nat → Nat) (S : wPS) (sz : Nat) (hI : Inv z e0 S) (a : Nat) (oa : Ob S 1 a) (u : Int32) : kM l g e0 yX1_putAway cX1_putAway 3 (some .int) 1 20 0 0 [.ref a, .int u] S sz (pI (fun r T => Kp z S T)) (fun E => False) := by
  refine kM.of (by decide) (Nat.le_of_ble_eq_true rfl) ?_
  intro p e s m below meth c ls B hin
  obtain ⟨F, hr, hlk, hte, hP, hK, hD, hE, hS, hA, hl, hsz⟩ := B
  subst hsz
  have hx := F.1
  have hb := F.2.1
  have hl : lv_has ls 3 [(0, .ref a), (1, .int u)] := hl
  refine lv_iload_n hx hb dX1_putAway_0 rfl (lv_at hl 1 rfl) ?_
  refine lv_aload_n hx hb dX1_putAway_1 rfl (lv_at hl 0 rfl) ?_
  refine kcallI (kV (n := 0) (As := []) (rest := [.int u]) (b := a) (C := RX1) F hE hK hP hD hS hA (c_X1_roomLeft l hl0 g e0 S _ a oa) (rr_Article hK hP oa) kw_378 kw_370 kw_371 kw_101 kw_372 (by decide +kernel) ⟨Nat.le_of_ble_eq_true rfl, Nat.le_of_ble_eq_true rfl⟩ rfl hl.1 rfl (Nat.le_of_ble_eq_true rfl) dX1_putAway_2 ⟨Nat.le_of_ble_eq_true rfl, Nat.le_of_ble_eq_true rfl⟩) rfl hD hS hA (fun _ _ _ _ _ h => False.elim h) (fun r1 T1 H locs hp hP hD hS => ?_)
  obtain ⟨hT, hp2⟩ := hp
  have hT := hT.symm
  subst hT
  refine va_mmin hx hb (by rw [F.2.2.1]; exact hl.1.symm) F.2.2.2.1 (F.2.2.2.2 _ kw_377) (F.2.2.2.2 _ kw_168) (F.2.2.2.2 _ kw_142) (F.2.2.2.2 _ kw_169) (Nat.le_of_ble_eq_true rfl) (Nat.le_of_ble_eq_true rfl) (Nat.le_of_ble_eq_true rfl) (Nat.le_of_ble_eq_true rfl) dX1_putAway_5 ?_
  refine lv_topi (fun x3 ex3 => ?_)
  refine lv_istore_n (lv' := [(2, .int x3), (0, .ref a), (1, .int u)]) hx hb dX1_putAway_8 rfl hl (by decide) rfl (fun ls hl => ?_)
  refine lv_aload_n hx hb dX1_putAway_9 rfl (lv_at hl 1 rfl) ?_
  refine lv_dup hx hb dX1_putAway_10 rfl ?_
  refine rg_Article_stock F hK hP oa kw_119 dX1_putAway_11 ?_
  refine lv_topi (fun x4 ex4 => ?_)
  refine lv_iload_n hx hb dX1_putAway_14 rfl (lv_at hl 0 rfl) ?_
  refine lv_iadd hx hb dX1_putAway_15 ?_
  refine lv_topi (fun x5 ex5 => ?_)
  refine rp_Article_stock F hK hP hD hS oa kw_119 dX1_putAway_16 (fun H locs hP hD hS => ?_)
  refine lv_aload_n hx hb dX1_putAway_19 rfl (lv_at hl 1 rfl) ?_
  refine lv_dup hx hb dX1_putAway_20 rfl ?_
  refine rg_Article_reserve F hK hP oa kw_120 dX1_putAway_21 ?_
  refine lv_topi (fun x6 ex6 => ?_)
  refine lv_iload_n hx hb dX1_putAway_24 rfl (lv_at hl 2 rfl) ?_
  refine lv_iload_n hx hb dX1_putAway_25 rfl (lv_at hl 0 rfl) ?_
  refine lv_isub hx hb dX1_putAway_26 ?_
  refine lv_topi (fun x7 ex7 => ?_)
  refine lv_iadd hx hb dX1_putAway_27 ?_
  refine lv_topi (fun x8 ex8 => ?_)
  refine rp_Article_reserve F hK hP hD hS oa kw_120 dX1_putAway_28 (fun H locs hP hD hS => ?_)
  refine lv_iload_n hx hb dX1_putAway_31 rfl (lv_at hl 0 rfl) ?_
  exact kEndI F hr rfl hlk hP hD hS (Nat.le_of_ble_eq_true rfl) (Nat.le_of_ble_eq_true rfl) dX1_putAway_32 ⟨_, rfl, (kp_setF (kp_setF hI.kp (by decide) (by decide)) (by decide) (by decide))⟩
theorem dX4_write_0 : decode cX4_write 0 = .ok (.aload_n 0, 1) := by decide +kernel
theorem dX4_write_1 : decode cX4_write 1 = .ok (.getfield 19, 3) := by decide +kernel
theorem dX4_write_4 : decode cX4_write 4 = .ok (.aload_n 0, 1) := by decide +kernel
theorem dX4_write_5 : decode cX4_write 5 = .ok (.getfield 9, 3) := by decide +kernel
theorem dX4_write_8 : decode cX4_write 8 = .ok (.arraylength, 1) := by decide +kernel
theorem dX4_write_9 : decode cX4_write 9 = .ok (.if_icmp .ge 45, 3) := by decide +kernel
theorem dX4_write_12 : decode cX4_write 12 = .ok (.aload_n 0, 1) := by decide +kernel
theorem dX4_write_13 : decode cX4_write 13 = .ok (.getfield 19, 3) := by decide +kernel
theorem dX4_write_16 : decode cX4_write 16 = .ok (.aload_n 0, 1) := by decide +kernel
theorem dX4_write_17 : decode cX4_write 17 = .ok (.getfield 15, 3) := by decide +kernel
theorem dX4_write_20 : decode cX4_write 20 = .ok (.arraylength, 1) := by decide +kernel
theorem dX4_write_21 : decode cX4_write 21 = .ok (.if_icmp .ge 33, 3) := by decide +kernel
theorem dX4_write_24 : decode cX4_write 24 = .ok (.aload_n 0, 1) := by decide +kernel
theorem dX4_write_25 : decode cX4_write 25 = .ok (.getfield 9, 3) := by decide +kernel
theorem dX4_write_28 : decode cX4_write 28 = .ok (.aload_n 0, 1) := by decide +kernel
theorem dX4_write_29 : decode cX4_write 29 = .ok (.getfield 19, 3) := by decide +kernel
theorem dX4_write_32 : decode cX4_write 32 = .ok (.iload_n 1, 1) := by decide +kernel
theorem dX4_write_33 : decode cX4_write 33 = .ok (.iastore, 1) := by decide +kernel
theorem dX4_write_34 : decode cX4_write 34 = .ok (.aload_n 0, 1) := by decide +kernel
theorem dX4_write_35 : decode cX4_write 35 = .ok (.getfield 15, 3) := by decide +kernel
theorem dX4_write_38 : decode cX4_write 38 = .ok (.aload_n 0, 1) := by decide +kernel
theorem dX4_write_39 : decode cX4_write 39 = .ok (.getfield 19, 3) := by decide +kernel
theorem dX4_write_42 : decode cX4_write 42 = .ok (.iload_n 2, 1) := by decide +kernel
theorem dX4_write_43 : decode cX4_write 43 = .ok (.castore, 1) := by decide +kernel
theorem dX4_write_44 : decode cX4_write 44 = .ok (.aload_n 0, 1) := by decide +kernel
theorem dX4_write_45 : decode cX4_write 45 = .ok (.dup, 1) := by decide +kernel
theorem dX4_write_46 : decode cX4_write 46 = .ok (.getfield 19, 3) := by decide +kernel
theorem dX4_write_49 : decode cX4_write 49 = .ok (.iconst 1, 1) := by decide +kernel
theorem dX4_write_50 : decode cX4_write 50 = .ok (.iadd, 1) := by decide +kernel
theorem dX4_write_51 : decode cX4_write 51 = .ok (.putfield 19, 3) := by decide +kernel
theorem dX4_write_54 : decode cX4_write 54 = .ok (.return_, 1) := by decide +kernel
set_option maxHeartbeats 4000000 in
set_option maxRecDepth 100000 in
theorem c_X4_write (l : Launch) (hl0 : l.stackTraces = false) (g : kG) (e0 : Nat) (z : Nat → Nat) (S : wPS) (sz : Nat) (hI : Inv z e0 S) (n sg : Int32) (hsg : kCh sg) : kM l g e0 yX4_write cX4_write 3 none 0 0 0 0 [.ref (z 12), .int n, .int sg] S sz (pU (fun T => Kp z S T)) (fun E => False) := by
  refine kM.of (by decide) (Nat.le_of_ble_eq_true rfl) ?_
  intro p e s m below meth c ls B hin
  obtain ⟨F, hr, hlk, hte, hP, hK, hD, hE, hS, hA, hl, hsz⟩ := B
  subst hsz
  have hx := F.1
  have hb := F.2.1
  have hl : lv_has ls 3 [(0, .ref (z 12)), (1, .int n), (2, .int sg)] := hl
  obtain ⟨ct, hct1, hct2⟩ := hI.2.2.2.1.1
  refine lv_aload_n hx hb dX4_write_0 rfl (lv_at hl 0 rfl) ?_
  refine rg_ScanLog_count F hK hP (hI.1.1 12 (by decide)) kw_295 dX4_write_1 ?_
  refine lv_topi (fun x1 ex1 => ?_)
  refine lv_aload_n hx hb dX4_write_4 rfl (lv_at hl 0 rfl) ?_
  refine rs_ScanLog_numbers (b := z 13) F hK hP (hI.1.1 12 (by decide)) hI.2.1.2.2.2.2.2.2.1 kw_60 dX4_write_5 ?_
  refine rl_I (v := 516) F hK hP (hI.1.1 13 (by decide)) (congrArg Int32.ofNat (show pN S (z 13) = 516 from hI.2.2.1.2.2.2.2.2.1)) dX4_write_8 ?_
  refine lv_icmp_ge (tgt := 54) hx hb dX4_write_9 (by decide) (fun c2 => ?_) (fun c2 => ?_)
  · exact kEndV F hr hlk hP hD hS (Nat.le_of_ble_eq_true rfl) (Nat.le_of_ble_eq_true rfl) dX4_write_54 ⟨rfl, hI.kp⟩
  · have hlt : ct < 516 := by
      rcases Nat.lt_or_ge ct 516 with h | h
      · exact h
      · exact absurd (by rw [ex1, hct2]; exact nI_le h (by omega)) c2
    refine lv_aload_n hx hb dX4_write_12 rfl (lv_at hl 0 rfl) ?_
    refine rg_ScanLog_count F hK hP (hI.1.1 12 (by decide)) kw_295 dX4_write_13 ?_
    refine lv_topi (fun x3 ex3 => ?_)
    refine lv_aload_n hx hb dX4_write_16 rfl (lv_at hl 0 rfl) ?_
    refine rs_ScanLog_signs (b := z 14) F hK hP (hI.1.1 12 (by decide)) hI.2.1.2.2.2.2.2.2.2 kw_62 dX4_write_17 ?_
    refine rl_C (v := 516) F hK hP (hI.1.1 14 (by decide)) (congrArg Int32.ofNat (show pN S (z 14) = 516 from hI.2.2.1.2.2.2.2.2.2)) dX4_write_20 ?_
    refine lv_icmp_ge (tgt := 54) hx hb dX4_write_21 (by decide) (fun c4 => ?_) (fun c4 => ?_)
    · exact kEndV F hr hlk hP hD hS (Nat.le_of_ble_eq_true rfl) (Nat.le_of_ble_eq_true rfl) dX4_write_54 ⟨rfl, hI.kp⟩
    · refine lv_aload_n hx hb dX4_write_24 rfl (lv_at hl 0 rfl) ?_
      refine rs_ScanLog_numbers (b := z 13) F hK hP (hI.1.1 12 (by decide)) hI.2.1.2.2.2.2.2.2.1 kw_60 dX4_write_25 ?_
      refine lv_aload_n hx hb dX4_write_28 rfl (lv_at hl 0 rfl) ?_
      refine rg_ScanLog_count F hK hP (hI.1.1 12 (by decide)) kw_295 dX4_write_29 ?_
      refine lv_topi (fun x5 ex5 => ?_)
      refine lv_iload_n hx hb dX4_write_32 rfl (lv_at hl 1 rfl) ?_
      refine rt_I F hK hP hD hS (hI.1.1 13 (by decide)) (by rw [ex5]; show vp_in (pF S 42 (z 12)) (pN S (z 13)); rw [hct2, show pN S (z 13) = 516 from hI.2.2.1.2.2.2.2.2.1]; exact vp_in_nI hlt (by decide)) dX4_write_33 (fun H locs hP hD hS => ?_)
      refine lv_aload_n hx hb dX4_write_34 rfl (lv_at hl 0 rfl) ?_
      refine rs_ScanLog_signs (b := z 14) F hK hP (hI.1.1 12 (by decide)) hI.2.1.2.2.2.2.2.2.2 kw_62 dX4_write_35 ?_
      refine lv_aload_n hx hb dX4_write_38 rfl (lv_at hl 0 rfl) ?_
      refine rg_ScanLog_count F hK hP (hI.1.1 12 (by decide)) kw_295 dX4_write_39 ?_
      refine lv_topi (fun x6 ex6 => ?_)
      refine lv_iload_n hx hb dX4_write_42 rfl (lv_at hl 2 rfl) ?_
      refine rt_C F hK hP hD hS (hI.1.1 14 (by decide)) (by rw [ex6]; show vp_in (pF S 42 (z 12)) (pN S (z 14)); rw [hct2, show pN S (z 14) = 516 from hI.2.2.1.2.2.2.2.2.2]; exact vp_in_nI hlt (by decide)) dX4_write_43 (fun H locs hP hD hS => ?_)
      refine lv_aload_n hx hb dX4_write_44 rfl (lv_at hl 0 rfl) ?_
      refine lv_dup hx hb dX4_write_45 rfl ?_
      refine rg_ScanLog_count F hK hP (hI.1.1 12 (by decide)) kw_295 dX4_write_46 ?_
      refine lv_topi (fun x7 ex7 => ?_)
      refine lv_iconst (v := 1) hx hb dX4_write_49 (by decide) ?_
      refine lv_iadd hx hb dX4_write_50 ?_
      refine lv_topi (fun x8 ex8 => ?_)
      refine rp_ScanLog_count F hK hP hD hS (hI.1.1 12 (by decide)) kw_295 dX4_write_51 (fun H locs hP hD hS => ?_)
      exact kEndV F hr hlk hP hD hS (Nat.le_of_ble_eq_true rfl) (Nat.le_of_ble_eq_true rfl) dX4_write_54 ⟨rfl, kp_write hI hsg (c := ct + 1) hlt (by rw [ex8, ex7]; show pF S 42 (z 12) + 1 = _; rw [hct2]; exact nI_1 ct)⟩
theorem dX4_has_0 : decode cX4_has 0 = .ok (.iload_n 1, 1) := by decide +kernel
theorem dX4_has_1 : decode cX4_has 1 = .ok (.ifCond .lt 33, 3) := by decide +kernel
theorem dX4_has_4 : decode cX4_has 4 = .ok (.iload_n 1, 1) := by decide +kernel
theorem dX4_has_5 : decode cX4_has 5 = .ok (.aload_n 0, 1) := by decide +kernel
theorem dX4_has_6 : decode cX4_has 6 = .ok (.getfield 19, 3) := by decide +kernel
theorem dX4_has_9 : decode cX4_has 9 = .ok (.if_icmp .ge 25, 3) := by decide +kernel
theorem dX4_has_12 : decode cX4_has 12 = .ok (.iload_n 1, 1) := by decide +kernel
theorem dX4_has_13 : decode cX4_has 13 = .ok (.aload_n 0, 1) := by decide +kernel
theorem dX4_has_14 : decode cX4_has 14 = .ok (.getfield 9, 3) := by decide +kernel
theorem dX4_has_17 : decode cX4_has 17 = .ok (.arraylength, 1) := by decide +kernel
theorem dX4_has_18 : decode cX4_has 18 = .ok (.if_icmp .ge 16, 3) := by decide +kernel
theorem dX4_has_21 : decode cX4_has 21 = .ok (.iload_n 1, 1) := by decide +kernel
theorem dX4_has_22 : decode cX4_has 22 = .ok (.aload_n 0, 1) := by decide +kernel
theorem dX4_has_23 : decode cX4_has 23 = .ok (.getfield 15, 3) := by decide +kernel
theorem dX4_has_26 : decode cX4_has 26 = .ok (.arraylength, 1) := by decide +kernel
theorem dX4_has_27 : decode cX4_has 27 = .ok (.if_icmp .ge 7, 3) := by decide +kernel
theorem dX4_has_30 : decode cX4_has 30 = .ok (.iconst 1, 1) := by decide +kernel
theorem dX4_has_31 : decode cX4_has 31 = .ok (.goto 4, 3) := by decide +kernel
theorem dX4_has_34 : decode cX4_has 34 = .ok (.iconst 0, 1) := by decide +kernel
theorem dX4_has_35 : decode cX4_has 35 = .ok (.ireturn, 1) := by decide +kernel
set_option maxHeartbeats 4000000 in
set_option maxRecDepth 100000 in
theorem c_X4_has (l : Launch) (hl0 : l.stackTraces = false) (g : kG) (e0 : Nat) (z : Nat → Nat) (S : wPS) (sz : Nat) (hI : Inv z e0 S) (n : Int32) : kM l g e0 yX4_has cX4_has 2 (some .boolean) 0 0 0 0 [.ref (z 12), .int n] S sz (pI (fun r T => T = S ∧ (r = 0 ∨ (r = 1 ∧ ¬ n < 0 ∧ n < pF S 42 (z 12) ∧ n < 516)))) (fun E => False) := by
  refine kM.of (by decide) (Nat.le_of_ble_eq_true rfl) ?_
  intro p e s m below meth c ls B hin
  obtain ⟨F, hr, hlk, hte, hP, hK, hD, hE, hS, hA, hl, hsz⟩ := B
  subst hsz
  have hx := F.1
  have hb := F.2.1
  have hl : lv_has ls 2 [(0, .ref (z 12)), (1, .int n)] := hl
  refine lv_iload_n hx hb dX4_has_0 rfl (lv_at hl 1 rfl) ?_
  refine lv_if_lt (tgt := 34) hx hb dX4_has_1 (by decide) (fun c1 => ?_) (fun c1 => ?_)
  · refine lv_iconst (v := 0) hx hb dX4_has_34 (by decide) ?_
    exact kEndI F hr rfl hlk hP hD hS (Nat.le_of_ble_eq_true rfl) (Nat.le_of_ble_eq_true rfl) dX4_has_35 ⟨_, rfl, ⟨rfl, Or.inl rfl⟩⟩
  · refine lv_iload_n hx hb dX4_has_4 rfl (lv_at hl 1 rfl) ?_
    refine lv_aload_n hx hb dX4_has_5 rfl (lv_at hl 0 rfl) ?_
    refine rg_ScanLog_count F hK hP (hI.1.1 12 (by decide)) kw_295 dX4_has_6 ?_
    refine lv_topi (fun x2 ex2 => ?_)
    refine lv_icmp_ge (tgt := 34) hx hb dX4_has_9 (by decide) (fun c3 => ?_) (fun c3 => ?_)
    · refine lv_iconst (v := 0) hx hb dX4_has_34 (by decide) ?_
      exact kEndI F hr rfl hlk hP hD hS (Nat.le_of_ble_eq_true rfl) (Nat.le_of_ble_eq_true rfl) dX4_has_35 ⟨_, rfl, ⟨rfl, Or.inl rfl⟩⟩
    · refine lv_iload_n hx hb dX4_has_12 rfl (lv_at hl 1 rfl) ?_
      refine lv_aload_n hx hb dX4_has_13 rfl (lv_at hl 0 rfl) ?_
      refine rs_ScanLog_numbers (b := z 13) F hK hP (hI.1.1 12 (by decide)) hI.2.1.2.2.2.2.2.2.1 kw_60 dX4_has_14 ?_
      refine rl_I (v := 516) F hK hP (hI.1.1 13 (by decide)) (congrArg Int32.ofNat (show pN S (z 13) = 516 from hI.2.2.1.2.2.2.2.2.1)) dX4_has_17 ?_
      refine lv_icmp_ge (tgt := 34) hx hb dX4_has_18 (by decide) (fun c4 => ?_) (fun c4 => ?_)
      · refine lv_iconst (v := 0) hx hb dX4_has_34 (by decide) ?_
        exact kEndI F hr rfl hlk hP hD hS (Nat.le_of_ble_eq_true rfl) (Nat.le_of_ble_eq_true rfl) dX4_has_35 ⟨_, rfl, ⟨rfl, Or.inl rfl⟩⟩
      · refine lv_iload_n hx hb dX4_has_21 rfl (lv_at hl 1 rfl) ?_
        refine lv_aload_n hx hb dX4_has_22 rfl (lv_at hl 0 rfl) ?_
        refine rs_ScanLog_signs (b := z 14) F hK hP (hI.1.1 12 (by decide)) hI.2.1.2.2.2.2.2.2.2 kw_62 dX4_has_23 ?_
        refine rl_C (v := 516) F hK hP (hI.1.1 14 (by decide)) (congrArg Int32.ofNat (show pN S (z 14) = 516 from hI.2.2.1.2.2.2.2.2.2)) dX4_has_26 ?_
        refine lv_icmp_ge (tgt := 34) hx hb dX4_has_27 (by decide) (fun c5 => ?_) (fun c5 => ?_)
        · refine lv_iconst (v := 0) hx hb dX4_has_34 (by decide) ?_
          exact kEndI F hr rfl hlk hP hD hS (Nat.le_of_ble_eq_true rfl) (Nat.le_of_ble_eq_true rfl) dX4_has_35 ⟨_, rfl, ⟨rfl, Or.inl rfl⟩⟩
        · refine lv_iconst (v := 1) hx hb dX4_has_30 (by decide) ?_
          refine lv_goto (tgt := 35) hx hb dX4_has_31 (by decide) ?_
          exact kEndI F hr rfl hlk hP hD hS (Nat.le_of_ble_eq_true rfl) (Nat.le_of_ble_eq_true rfl) dX4_has_35 ⟨_, rfl, ⟨rfl, Or.inr ⟨rfl, c1, by rw [← ex2]; exact Int32.not_le.mp c3, Int32.not_le.mp c4⟩⟩⟩
theorem dX5_isBetween_0 : decode cX5_isBetween 0 = .ok (.iload_n 0, 1) := by decide +kernel
theorem dX5_isBetween_1 : decode cX5_isBetween 1 = .ok (.iload_n 1, 1) := by decide +kernel
theorem dX5_isBetween_2 : decode cX5_isBetween 2 = .ok (.if_icmp .lt 12, 3) := by decide +kernel
theorem dX5_isBetween_5 : decode cX5_isBetween 5 = .ok (.iload_n 0, 1) := by decide +kernel
theorem dX5_isBetween_6 : decode cX5_isBetween 6 = .ok (.iload_n 2, 1) := by decide +kernel
theorem dX5_isBetween_7 : decode cX5_isBetween 7 = .ok (.if_icmp .gt 7, 3) := by decide +kernel
theorem dX5_isBetween_10 : decode cX5_isBetween 10 = .ok (.iconst 1, 1) := by decide +kernel
theorem dX5_isBetween_11 : decode cX5_isBetween 11 = .ok (.goto 4, 3) := by decide +kernel
theorem dX5_isBetween_14 : decode cX5_isBetween 14 = .ok (.iconst 0, 1) := by decide +kernel
theorem dX5_isBetween_15 : decode cX5_isBetween 15 = .ok (.ireturn, 1) := by decide +kernel
set_option maxHeartbeats 4000000 in
set_option maxRecDepth 100000 in
theorem c_X5_isBetween (l : Launch) (hl0 : l.stackTraces = false) (g : kG) (e0 : Nat) (S : wPS) (sz : Nat) (n lo hi : Int32) : kM l g e0 yX5_isBetween cX5_isBetween 3 (some .boolean) 0 0 0 0 [.int n, .int lo, .int hi] S sz (pI (fun r T => T = S ∧ ((r = 1 ∧ ¬ n < lo ∧ ¬ hi < n) ∨ (r = 0 ∧ (n < lo ∨ hi < n))))) (fun E => False) := by
  refine kM.of (by decide) (Nat.le_of_ble_eq_true rfl) ?_
  intro p e s m below meth c ls B hin
  obtain ⟨F, hr, hlk, hte, hP, hK, hD, hE, hS, hA, hl, hsz⟩ := B
  subst hsz
  have hx := F.1
  have hb := F.2.1
  have hl : lv_has ls 3 [(0, .int n), (1, .int lo), (2, .int hi)] := hl
  refine lv_iload_n hx hb dX5_isBetween_0 rfl (lv_at hl 0 rfl) ?_
  refine lv_iload_n hx hb dX5_isBetween_1 rfl (lv_at hl 1 rfl) ?_
  refine lv_icmp_lt (tgt := 14) hx hb dX5_isBetween_2 (by decide) (fun c1 => ?_) (fun c1 => ?_)
  · refine lv_iconst (v := 0) hx hb dX5_isBetween_14 (by decide) ?_
    exact kEndI F hr rfl hlk hP hD hS (Nat.le_of_ble_eq_true rfl) (Nat.le_of_ble_eq_true rfl) dX5_isBetween_15 ⟨_, rfl, ⟨rfl, Or.inr ⟨rfl, Or.inl c1⟩⟩⟩
  · refine lv_iload_n hx hb dX5_isBetween_5 rfl (lv_at hl 0 rfl) ?_
    refine lv_iload_n hx hb dX5_isBetween_6 rfl (lv_at hl 2 rfl) ?_
    refine lv_icmp_gt (tgt := 14) hx hb dX5_isBetween_7 (by decide) (fun c2 => ?_) (fun c2 => ?_)
    · refine lv_iconst (v := 0) hx hb dX5_isBetween_14 (by decide) ?_
      exact kEndI F hr rfl hlk hP hD hS (Nat.le_of_ble_eq_true rfl) (Nat.le_of_ble_eq_true rfl) dX5_isBetween_15 ⟨_, rfl, ⟨rfl, Or.inr ⟨rfl, Or.inr c2⟩⟩⟩
    · refine lv_iconst (v := 1) hx hb dX5_isBetween_10 (by decide) ?_
      refine lv_goto (tgt := 15) hx hb dX5_isBetween_11 (by decide) ?_
      exact kEndI F hr rfl hlk hP hD hS (Nat.le_of_ble_eq_true rfl) (Nat.le_of_ble_eq_true rfl) dX5_isBetween_15 ⟨_, rfl, ⟨rfl, Or.inl ⟨rfl, c1, c2⟩⟩⟩
theorem dX5_isAisle_0 : decode cX5_isAisle 0 = .ok (.iload_n 1, 1) := by decide +kernel
theorem dX5_isAisle_1 : decode cX5_isAisle 1 = .ok (.ifCond .lt 16, 3) := by decide +kernel
theorem dX5_isAisle_4 : decode cX5_isAisle 4 = .ok (.iload_n 1, 1) := by decide +kernel
theorem dX5_isAisle_5 : decode cX5_isAisle 5 = .ok (.aload_n 0, 1) := by decide +kernel
theorem dX5_isAisle_6 : decode cX5_isAisle 6 = .ok (.getfield 11, 3) := by decide +kernel
theorem dX5_isAisle_9 : decode cX5_isAisle 9 = .ok (.arraylength, 1) := by decide +kernel
theorem dX5_isAisle_10 : decode cX5_isAisle 10 = .ok (.if_icmp .ge 7, 3) := by decide +kernel
theorem dX5_isAisle_13 : decode cX5_isAisle 13 = .ok (.iconst 1, 1) := by decide +kernel
theorem dX5_isAisle_14 : decode cX5_isAisle 14 = .ok (.goto 4, 3) := by decide +kernel
theorem dX5_isAisle_17 : decode cX5_isAisle 17 = .ok (.iconst 0, 1) := by decide +kernel
theorem dX5_isAisle_18 : decode cX5_isAisle 18 = .ok (.ireturn, 1) := by decide +kernel
set_option maxHeartbeats 4000000 in
set_option maxRecDepth 100000 in
theorem c_X5_isAisle (l : Launch) (hl0 : l.stackTraces = false) (g : kG) (e0 : Nat) (z : Nat → Nat) (S : wPS) (sz : Nat) (hI : Inv z e0 S) (n : Int32) : kM l g e0 yX5_isAisle cX5_isAisle 2 (some .boolean) 0 0 0 0 [.ref (z 0), .int n] S sz (pI (fun r T => T = S ∧ ((r = 1 ∧ ¬ n < 0 ∧ ¬ 4 ≤ n) ∨ (r = 0 ∧ (n < 0 ∨ 4 ≤ n))))) (fun E => False) := by
  refine kM.of (by decide) (Nat.le_of_ble_eq_true rfl) ?_
  intro p e s m below meth c ls B hin
  obtain ⟨F, hr, hlk, hte, hP, hK, hD, hE, hS, hA, hl, hsz⟩ := B
  subst hsz
  have hx := F.1
  have hb := F.2.1
  have hl : lv_has ls 2 [(0, .ref (z 0)), (1, .int n)] := hl
  refine lv_iload_n hx hb dX5_isAisle_0 rfl (lv_at hl 1 rfl) ?_
  refine lv_if_lt (tgt := 17) hx hb dX5_isAisle_1 (by decide) (fun c1 => ?_) (fun c1 => ?_)
  · refine lv_iconst (v := 0) hx hb dX5_isAisle_17 (by decide) ?_
    exact kEndI F hr rfl hlk hP hD hS (Nat.le_of_ble_eq_true rfl) (Nat.le_of_ble_eq_true rfl) dX5_isAisle_18 ⟨_, rfl, ⟨rfl, Or.inr ⟨rfl, Or.inl c1⟩⟩⟩
  · refine lv_iload_n hx hb dX5_isAisle_4 rfl (lv_at hl 1 rfl) ?_
    refine lv_aload_n hx hb dX5_isAisle_5 rfl (lv_at hl 0 rfl) ?_
    refine rs_Pickwave_aisles (b := z 1) F hK hP (hI.1.1 0 (by decide)) hI.2.1.1 kw_15 dX5_isAisle_6 ?_
    refine rl_Aisle (v := 4) F hK hP (hI.1.1 1 (by decide)) (congrArg Int32.ofNat (show pN S (z 1) = 4 from hI.2.2.1.1)) dX5_isAisle_9 ?_
    refine lv_icmp_ge (tgt := 17) hx hb dX5_isAisle_10 (by decide) (fun c2 => ?_) (fun c2 => ?_)
    · refine lv_iconst (v := 0) hx hb dX5_isAisle_17 (by decide) ?_
      exact kEndI F hr rfl hlk hP hD hS (Nat.le_of_ble_eq_true rfl) (Nat.le_of_ble_eq_true rfl) dX5_isAisle_18 ⟨_, rfl, ⟨rfl, Or.inr ⟨rfl, Or.inr c2⟩⟩⟩
    · refine lv_iconst (v := 1) hx hb dX5_isAisle_13 (by decide) ?_
      refine lv_goto (tgt := 18) hx hb dX5_isAisle_14 (by decide) ?_
      exact kEndI F hr rfl hlk hP hD hS (Nat.le_of_ble_eq_true rfl) (Nat.le_of_ble_eq_true rfl) dX5_isAisle_18 ⟨_, rfl, ⟨rfl, Or.inl ⟨rfl, c1, c2⟩⟩⟩
theorem dX5_isCarrier_0 : decode cX5_isCarrier 0 = .ok (.iload_n 1, 1) := by decide +kernel
theorem dX5_isCarrier_1 : decode cX5_isCarrier 1 = .ok (.ifCond .lt 16, 3) := by decide +kernel
theorem dX5_isCarrier_4 : decode cX5_isCarrier 4 = .ok (.iload_n 1, 1) := by decide +kernel
theorem dX5_isCarrier_5 : decode cX5_isCarrier 5 = .ok (.aload_n 0, 1) := by decide +kernel
theorem dX5_isCarrier_6 : decode cX5_isCarrier 6 = .ok (.getfield 18, 3) := by decide +kernel
theorem dX5_isCarrier_9 : decode cX5_isCarrier 9 = .ok (.arraylength, 1) := by decide +kernel
theorem dX5_isCarrier_10 : decode cX5_isCarrier 10 = .ok (.if_icmp .ge 7, 3) := by decide +kernel
theorem dX5_isCarrier_13 : decode cX5_isCarrier 13 = .ok (.iconst 1, 1) := by decide +kernel
theorem dX5_isCarrier_14 : decode cX5_isCarrier 14 = .ok (.goto 4, 3) := by decide +kernel
theorem dX5_isCarrier_17 : decode cX5_isCarrier 17 = .ok (.iconst 0, 1) := by decide +kernel
theorem dX5_isCarrier_18 : decode cX5_isCarrier 18 = .ok (.ireturn, 1) := by decide +kernel
set_option maxHeartbeats 4000000 in
set_option maxRecDepth 100000 in
theorem c_X5_isCarrier (l : Launch) (hl0 : l.stackTraces = false) (g : kG) (e0 : Nat) (z : Nat → Nat) (S : wPS) (sz : Nat) (hI : Inv z e0 S) (n : Int32) : kM l g e0 yX5_isCarrier cX5_isCarrier 2 (some .boolean) 0 0 0 0 [.ref (z 0), .int n] S sz (pI (fun r T => T = S ∧ ((r = 1 ∧ ¬ n < 0 ∧ ¬ 3 ≤ n) ∨ (r = 0 ∧ (n < 0 ∨ 3 ≤ n))))) (fun E => False) := by
  refine kM.of (by decide) (Nat.le_of_ble_eq_true rfl) ?_
  intro p e s m below meth c ls B hin
  obtain ⟨F, hr, hlk, hte, hP, hK, hD, hE, hS, hA, hl, hsz⟩ := B
  subst hsz
  have hx := F.1
  have hb := F.2.1
  have hl : lv_has ls 2 [(0, .ref (z 0)), (1, .int n)] := hl
  refine lv_iload_n hx hb dX5_isCarrier_0 rfl (lv_at hl 1 rfl) ?_
  refine lv_if_lt (tgt := 17) hx hb dX5_isCarrier_1 (by decide) (fun c1 => ?_) (fun c1 => ?_)
  · refine lv_iconst (v := 0) hx hb dX5_isCarrier_17 (by decide) ?_
    exact kEndI F hr rfl hlk hP hD hS (Nat.le_of_ble_eq_true rfl) (Nat.le_of_ble_eq_true rfl) dX5_isCarrier_18 ⟨_, rfl, ⟨rfl, Or.inr ⟨rfl, Or.inl c1⟩⟩⟩
  · refine lv_iload_n hx hb dX5_isCarrier_4 rfl (lv_at hl 1 rfl) ?_
    refine lv_aload_n hx hb dX5_isCarrier_5 rfl (lv_at hl 0 rfl) ?_
    refine rs_Pickwave_cutOffs (b := z 6) F hK hP (hI.1.1 0 (by decide)) hI.2.1.2.1 kw_19 dX5_isCarrier_6 ?_
    refine rl_I (v := 3) F hK hP (hI.1.1 6 (by decide)) (congrArg Int32.ofNat (show pN S (z 6) = 3 from hI.2.2.1.2.2.1)) dX5_isCarrier_9 ?_
    refine lv_icmp_ge (tgt := 17) hx hb dX5_isCarrier_10 (by decide) (fun c2 => ?_) (fun c2 => ?_)
    · refine lv_iconst (v := 0) hx hb dX5_isCarrier_17 (by decide) ?_
      exact kEndI F hr rfl hlk hP hD hS (Nat.le_of_ble_eq_true rfl) (Nat.le_of_ble_eq_true rfl) dX5_isCarrier_18 ⟨_, rfl, ⟨rfl, Or.inr ⟨rfl, Or.inr c2⟩⟩⟩
    · refine lv_iconst (v := 1) hx hb dX5_isCarrier_13 (by decide) ?_
      refine lv_goto (tgt := 18) hx hb dX5_isCarrier_14 (by decide) ?_
      exact kEndI F hr rfl hlk hP hD hS (Nat.le_of_ble_eq_true rfl) (Nat.le_of_ble_eq_true rfl) dX5_isCarrier_18 ⟨_, rfl, ⟨rfl, Or.inl ⟨rfl, c1, c2⟩⟩⟩
theorem dX5_stateAfter_0 : decode cX5_stateAfter 0 = .ok (.iload_n 0, 1) := by decide +kernel
theorem dX5_stateAfter_1 : decode cX5_stateAfter 1 = .ok (.bipush 110, 2) := by decide +kernel
theorem dX5_stateAfter_3 : decode cX5_stateAfter 3 = .ok (.if_icmp .eq 9, 3) := by decide +kernel
theorem dX5_stateAfter_6 : decode cX5_stateAfter 6 = .ok (.iload_n 0, 1) := by decide +kernel
theorem dX5_stateAfter_7 : decode cX5_stateAfter 7 = .ok (.bipush 117, 2) := by decide +kernel
theorem dX5_stateAfter_9 : decode cX5_stateAfter 9 = .ok (.if_icmp .ne 8, 3) := by decide +kernel
theorem dX5_stateAfter_12 : decode cX5_stateAfter 12 = .ok (.bipush 111, 2) := by decide +kernel
theorem dX5_stateAfter_14 : decode cX5_stateAfter 14 = .ok (.goto 4, 3) := by decide +kernel
theorem dX5_stateAfter_17 : decode cX5_stateAfter 17 = .ok (.iload_n 0, 1) := by decide +kernel
theorem dX5_stateAfter_18 : decode cX5_stateAfter 18 = .ok (.ireturn, 1) := by decide +kernel
set_option maxHeartbeats 4000000 in
set_option maxRecDepth 100000 in
theorem c_X5_stateAfter (l : Launch) (hl0 : l.stackTraces = false) (g : kG) (e0 : Nat) (S : wPS) (sz : Nat) (sg : Int32) (hsg : kCh sg) : kM l g e0 yX5_stateAfter cX5_stateAfter 1 (some .char) 0 0 0 0 [.int sg] S sz (pI (fun r T => T = S ∧ kCh r)) (fun E => False) := by
  refine kM.of (by decide) (Nat.le_of_ble_eq_true rfl) ?_
  intro p e s m below meth c ls B hin
  obtain ⟨F, hr, hlk, hte, hP, hK, hD, hE, hS, hA, hl, hsz⟩ := B
  subst hsz
  have hx := F.1
  have hb := F.2.1
  have hl : lv_has ls 1 [(0, .int sg)] := hl
  refine lv_iload_n hx hb dX5_stateAfter_0 rfl (lv_at hl 0 rfl) ?_
  refine lv_bipush (v := 110) hx hb dX5_stateAfter_1 (by decide) ?_
  refine lv_icmp_eq (tgt := 12) hx hb dX5_stateAfter_3 (by decide) (fun c1 => ?_) (fun c1 => ?_)
  · refine lv_bipush (v := 111) hx hb dX5_stateAfter_12 (by decide) ?_
    refine lv_goto (tgt := 18) hx hb dX5_stateAfter_14 (by decide) ?_
    exact kEndI F hr rfl hlk hP hD hS (Nat.le_of_ble_eq_true rfl) (Nat.le_of_ble_eq_true rfl) dX5_stateAfter_18 ⟨_, rfl, ⟨rfl, rfl, rfl⟩⟩
  · refine lv_iload_n hx hb dX5_stateAfter_6 rfl (lv_at hl 0 rfl) ?_
    refine lv_bipush (v := 117) hx hb dX5_stateAfter_7 (by decide) ?_
    refine lv_icmp_ne (tgt := 17) hx hb dX5_stateAfter_9 (by decide) (fun c2 => ?_) (fun c2 => ?_)
    · refine lv_iload_n hx hb dX5_stateAfter_17 rfl (lv_at hl 0 rfl) ?_
      exact kEndI F hr hsg.1 hlk hP hD hS (Nat.le_of_ble_eq_true rfl) (Nat.le_of_ble_eq_true rfl) dX5_stateAfter_18 ⟨_, rfl, ⟨rfl, hsg⟩⟩
    · refine lv_bipush (v := 111) hx hb dX5_stateAfter_12 (by decide) ?_
      refine lv_goto (tgt := 18) hx hb dX5_stateAfter_14 (by decide) ?_
      exact kEndI F hr rfl hlk hP hD hS (Nat.le_of_ble_eq_true rfl) (Nat.le_of_ble_eq_true rfl) dX5_stateAfter_18 ⟨_, rfl, ⟨rfl, rfl, rfl⟩⟩
theorem dX4_lastSignOf_0 : decode cX4_lastSignOf 0 = .ok (.bipush 110, 2) := by decide +kernel
theorem dX4_lastSignOf_2 : decode cX4_lastSignOf 2 = .ok (.istore_n 2, 1) := by decide +kernel
theorem dX4_lastSignOf_3 : decode cX4_lastSignOf 3 = .ok (.aload_n 0, 1) := by decide +kernel
theorem dX4_lastSignOf_4 : decode cX4_lastSignOf 4 = .ok (.getfield 19, 3) := by decide +kernel
theorem dX4_lastSignOf_7 : decode cX4_lastSignOf 7 = .ok (.aload_n 0, 1) := by decide +kernel
theorem dX4_lastSignOf_8 : decode cX4_lastSignOf 8 = .ok (.getfield 9, 3) := by decide +kernel
theorem dX4_lastSignOf_11 : decode cX4_lastSignOf 11 = .ok (.arraylength, 1) := by decide +kernel
theorem dX4_lastSignOf_12 : decode cX4_lastSignOf 12 = .ok (.aload_n 0, 1) := by decide +kernel
theorem dX4_lastSignOf_13 : decode cX4_lastSignOf 13 = .ok (.getfield 15, 3) := by decide +kernel
theorem dX4_lastSignOf_16 : decode cX4_lastSignOf 16 = .ok (.arraylength, 1) := by decide +kernel
theorem dX4_lastSignOf_17 : decode cX4_lastSignOf 17 = .ok (.invokestatic 23, 3) := by decide +kernel
theorem dX4_lastSignOf_20 : decode cX4_lastSignOf 20 = .ok (.invokestatic 23, 3) := by decide +kernel
theorem dX4_lastSignOf_23 : decode cX4_lastSignOf 23 = .ok (.istore_n 3, 1) := by decide +kernel
theorem dX4_lastSignOf_24 : decode cX4_lastSignOf 24 = .ok (.iconst 0, 1) := by decide +kernel
theorem dX4_lastSignOf_25 : decode cX4_lastSignOf 25 = .ok (.istore 4, 2) := by decide +kernel
theorem dX4_lastSignOf_27 : decode cX4_lastSignOf 27 = .ok (.iload 4, 2) := by decide +kernel
theorem dX4_lastSignOf_29 : decode cX4_lastSignOf 29 = .ok (.iload_n 3, 1) := by decide +kernel
theorem dX4_lastSignOf_30 : decode cX4_lastSignOf 30 = .ok (.if_icmp .ge 28, 3) := by decide +kernel
theorem dX4_lastSignOf_33 : decode cX4_lastSignOf 33 = .ok (.aload_n 0, 1) := by decide +kernel
theorem dX4_lastSignOf_34 : decode cX4_lastSignOf 34 = .ok (.getfield 9, 3) := by decide +kernel
theorem dX4_lastSignOf_37 : decode cX4_lastSignOf 37 = .ok (.iload 4, 2) := by decide +kernel
theorem dX4_lastSignOf_39 : decode cX4_lastSignOf 39 = .ok (.iaload, 1) := by decide +kernel
theorem dX4_lastSignOf_40 : decode cX4_lastSignOf 40 = .ok (.iload_n 1, 1) := by decide +kernel
theorem dX4_lastSignOf_41 : decode cX4_lastSignOf 41 = .ok (.if_icmp .ne 11, 3) := by decide +kernel
theorem dX4_lastSignOf_44 : decode cX4_lastSignOf 44 = .ok (.aload_n 0, 1) := by decide +kernel
theorem dX4_lastSignOf_45 : decode cX4_lastSignOf 45 = .ok (.getfield 15, 3) := by decide +kernel
theorem dX4_lastSignOf_48 : decode cX4_lastSignOf 48 = .ok (.iload 4, 2) := by decide +kernel
theorem dX4_lastSignOf_50 : decode cX4_lastSignOf 50 = .ok (.caload, 1) := by decide +kernel
theorem dX4_lastSignOf_51 : decode cX4_lastSignOf 51 = .ok (.istore_n 2, 1) := by decide +kernel
theorem dX4_lastSignOf_52 : decode cX4_lastSignOf 52 = .ok (.iinc 4 1, 3) := by decide +kernel
theorem dX4_lastSignOf_55 : decode cX4_lastSignOf 55 = .ok (.goto (-28), 3) := by decide +kernel
theorem dX4_lastSignOf_58 : decode cX4_lastSignOf 58 = .ok (.iload_n 2, 1) := by decide +kernel
theorem dX4_lastSignOf_59 : decode cX4_lastSignOf 59 = .ok (.ireturn, 1) := by decide +kernel
set_option maxHeartbeats 4000000 in
set_option maxRecDepth 100000 in
theorem c_X4_lastSignOf (l : Launch) (hl0 : l.stackTraces = false) (g : kG) (e0 : Nat) (z : Nat → Nat) (S : wPS) (sz : Nat) (hI : Inv z e0 S) (n : Int32) : kM l g e0 yX4_lastSignOf cX4_lastSignOf 5 (some .char) 1 14 0 0 [.ref (z 12), .int n] S sz (pI (fun r T => T = S ∧ kCh r)) (fun E => False) := by
  refine kM.of (by decide) (Nat.le_of_ble_eq_true rfl) ?_
  intro p e s m below meth c ls B hin
  obtain ⟨F, hr, hlk, hte, hP, hK, hD, hE, hS, hA, hl, hsz⟩ := B
  subst hsz
  have hx := F.1
  have hb := F.2.1
  have hl : lv_has ls 5 [(0, .ref (z 12)), (1, .int n)] := hl
  refine lv_bipush (v := 110) hx hb dX4_lastSignOf_0 (by decide) ?_
  refine lv_istore_n (lv' := [(2, .int 110), (0, .ref (z 12)), (1, .int n)]) hx hb dX4_lastSignOf_2 rfl hl (by decide) rfl (fun ls hl => ?_)
  refine lv_aload_n hx hb dX4_lastSignOf_3 rfl (lv_at hl 1 rfl) ?_
  refine rg_ScanLog_count F hK hP (hI.1.1 12 (by decide)) kw_295 dX4_lastSignOf_4 ?_
  refine lv_topi (fun x1 ex1 => ?_)
  refine lv_aload_n hx hb dX4_lastSignOf_7 rfl (lv_at hl 1 rfl) ?_
  refine rs_ScanLog_numbers (b := z 13) F hK hP (hI.1.1 12 (by decide)) hI.2.1.2.2.2.2.2.2.1 kw_60 dX4_lastSignOf_8 ?_
  refine rl_I (v := 516) F hK hP (hI.1.1 13 (by decide)) (congrArg Int32.ofNat (show pN S (z 13) = 516 from hI.2.2.1.2.2.2.2.2.1)) dX4_lastSignOf_11 ?_
  refine lv_aload_n hx hb dX4_lastSignOf_12 rfl (lv_at hl 1 rfl) ?_
  refine rs_ScanLog_signs (b := z 14) F hK hP (hI.1.1 12 (by decide)) hI.2.1.2.2.2.2.2.2.2 kw_62 dX4_lastSignOf_13 ?_
  refine rl_C (v := 516) F hK hP (hI.1.1 14 (by decide)) (congrArg Int32.ofNat (show pN S (z 14) = 516 from hI.2.2.1.2.2.2.2.2.2)) dX4_lastSignOf_16 ?_
  refine va_mmin hx hb (by rw [F.2.2.1]; exact hl.1.symm) F.2.2.2.1 (F.2.2.2.2 _ kw_296) (F.2.2.2.2 _ kw_168) (F.2.2.2.2 _ kw_142) (F.2.2.2.2 _ kw_169) (Nat.le_of_ble_eq_true rfl) (Nat.le_of_ble_eq_true rfl) (Nat.le_of_ble_eq_true rfl) (Nat.le_of_ble_eq_true rfl) dX4_lastSignOf_17 ?_
  refine lv_topi (fun x2 ex2 => ?_)
  refine va_mmin hx hb (by rw [F.2.2.1]; exact hl.1.symm) F.2.2.2.1 (F.2.2.2.2 _ kw_296) (F.2.2.2.2 _ kw_168) (F.2.2.2.2 _ kw_142) (F.2.2.2.2 _ kw_169) (Nat.le_of_ble_eq_true rfl) (Nat.le_of_ble_eq_true rfl) (Nat.le_of_ble_eq_true rfl) (Nat.le_of_ble_eq_true rfl) dX4_lastSignOf_20 ?_
  refine lv_topi (fun x3 ex3 => ?_)
  have hx3 : x3 ≤ 516 := kmin516 ex2 ex3
  refine lv_istore_n (lv' := [(3, .int x3), (2, .int 110), (0, .ref (z 12)), (1, .int n)]) hx hb dX4_lastSignOf_23 rfl hl (by decide) rfl (fun ls hl => ?_)
  refine lv_iconst (v := 0) hx hb dX4_lastSignOf_24 (by decide) ?_
  refine lv_istore (lv' := [(4, .int 0), (3, .int x3), (2, .int 110), (0, .ref (z 12)), (1, .int n)]) hx hb dX4_lastSignOf_25 hl (by decide) rfl (fun ls hl => ?_)
  have loop : ∀ (fu : Nat) (i : Nat) (sg xi : Int32) (H : Heap) (locs : List Loc) (ls : Array Slot), va_P (kD g) vwCl (kW g S) H → va_D (kA (pL S) s.heap.size) (kW g S) → va_S (kA (pL S) s.heap.size) s.heap H locs → lv_has ls 5 [(4, .int xi), (3, .int x3), (2, .int sg), (0, .ref (z 12)), (1, .int n)] → 516 - i < fu → (xi = nI i) → (i ≤ 516) → (kCh sg) → W p l e ({ frames := 1, cells := 0, slots := 0, locals := 14 }) s m ([.ref (z 12), .int n] : List Value).toArray below meth c H locs 0 0 (vx_MQ below (kQ g S s.heap.size (pI (fun r T => T = S ∧ kCh r))) (kX g S s.heap.size (fun E => False)) ([.ref (z 12), .int n] : List Value).toArray s 0 0 (kA (pL S) s.heap.size)) (F0 m 27 ls []) := by
    intro fu
    induction fu with
    | zero => intro i sg xi H locs ls hP hD hS hl hn hi hi0 hg; exact absurd hn (Nat.not_lt_zero _)
    | succ fu ih =>
      intro i sg xi H locs ls hP hD hS hl hn hi hi0 hg
      refine lv_iload hx hb dX4_lastSignOf_27 (lv_at hl 0 rfl) ?_
      refine lv_iload_n hx hb dX4_lastSignOf_29 rfl (lv_at hl 1 rfl) ?_
      refine lv_icmp_ge (tgt := 58) hx hb dX4_lastSignOf_30 (by decide) (fun c4 => ?_) (fun c4 => ?_)
      · refine lv_iload_n hx hb dX4_lastSignOf_58 rfl (lv_at hl 2 rfl) ?_
        exact kEndI F hr hg.1 hlk hP hD hS (Nat.le_of_ble_eq_true rfl) (Nat.le_of_ble_eq_true rfl) dX4_lastSignOf_59 ⟨_, rfl, ⟨rfl, hg⟩⟩
      · have hi5 : i < 516 := by
          rcases Nat.lt_or_ge i 516 with q | q
          · exact q
          · exact absurd (by rw [hi, show i = 516 by omega]; exact hx3) c4
        refine lv_aload_n hx hb dX4_lastSignOf_33 rfl (lv_at hl 3 rfl) ?_
        refine rs_ScanLog_numbers (b := z 13) F hK hP (hI.1.1 12 (by decide)) hI.2.1.2.2.2.2.2.2.1 kw_60 dX4_lastSignOf_34 ?_
        refine lv_iload hx hb dX4_lastSignOf_37 (lv_at hl 0 rfl) ?_
        refine rd_I F hK hP (hI.1.1 13 (by decide)) (by rw [hi]; show vp_in (nI i) (pN S (z 13)); rw [show pN S (z 13) = 516 from hI.2.2.1.2.2.2.2.2.1]; exact vp_in_nI hi5 (by decide)) dX4_lastSignOf_39 ?_
        refine lv_topi (fun x5 ex5 => ?_)
        refine lv_iload_n hx hb dX4_lastSignOf_40 rfl (lv_at hl 4 rfl) ?_
        refine lv_icmp_ne (tgt := 52) hx hb dX4_lastSignOf_41 (by decide) (fun c6 => ?_) (fun c6 => ?_)
        · obtain ⟨x7, ex7⟩ : ∃ y : Int32, y = xi + 1 := ⟨_, rfl⟩
          refine lv_iinc (v := x7) (lv' := [(4, .int x7), (3, .int x3), (2, .int sg), (0, .ref (z 12)), (1, .int n)]) hx hb dX4_lastSignOf_52 hl (k := 0) rfl (by rw [ex7]; rfl) (by decide) rfl (fun ls hl => ?_)
          refine lv_goto (tgt := 27) hx hb dX4_lastSignOf_55 (by decide) ?_
          exact ih (i + 1) sg x7 H locs ls hP hD hS (lv_sub hl [0, 1, 2, 3, 4] rfl) (by omega) (by rw [ex7, hi]; exact nI_1 i) hi5 hg
        · refine lv_aload_n hx hb dX4_lastSignOf_44 rfl (lv_at hl 3 rfl) ?_
          refine rs_ScanLog_signs (b := z 14) F hK hP (hI.1.1 12 (by decide)) hI.2.1.2.2.2.2.2.2.2 kw_62 dX4_lastSignOf_45 ?_
          refine lv_iload hx hb dX4_lastSignOf_48 (lv_at hl 0 rfl) ?_
          refine rd_C F hK hP (hI.1.1 14 (by decide)) (by rw [hi]; show vp_in (nI i) (pN S (z 14)); rw [show pN S (z 14) = 516 from hI.2.2.1.2.2.2.2.2.2]; exact vp_in_nI hi5 (by decide)) dX4_lastSignOf_50 ?_
          refine lv_topi (fun x8 ex8 => ?_)
          have hg2 : kCh x8 := by rw [ex8]; exact hI.sg _
          refine lv_istore_n (lv' := [(2, .int x8), (4, .int xi), (3, .int x3), (0, .ref (z 12)), (1, .int n)]) hx hb dX4_lastSignOf_51 rfl hl (by decide) rfl (fun ls hl => ?_)
          obtain ⟨x9, ex9⟩ : ∃ y : Int32, y = xi + 1 := ⟨_, rfl⟩
          refine lv_iinc (v := x9) (lv' := [(4, .int x9), (2, .int x8), (3, .int x3), (0, .ref (z 12)), (1, .int n)]) hx hb dX4_lastSignOf_52 hl (k := 1) rfl (by rw [ex9]; rfl) (by decide) rfl (fun ls hl => ?_)
          refine lv_goto (tgt := 27) hx hb dX4_lastSignOf_55 (by decide) ?_
          exact ih (i + 1) x8 x9 H locs ls hP hD hS (lv_sub hl [0, 2, 1, 3, 4] rfl) (by omega) (by rw [ex9, hi]; exact nI_1 i) hi5 hg2
  exact loop 517 0 110 0 _ _ _ hP hD hS (lv_sub hl [0, 1, 2, 3, 4] rfl) (by decide) rfl (by decide) ⟨rfl, rfl⟩
