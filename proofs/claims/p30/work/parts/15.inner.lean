theorem dX5_scan_0 : decode cX5_scan 0 = .ok (.iload_n 2, 1) := by decide +kernel
theorem dX5_scan_1 : decode cX5_scan 1 = .ok (.invokestatic 299, 3) := by decide +kernel
theorem dX5_scan_4 : decode cX5_scan 4 = .ok (.istore_n 3, 1) := by decide +kernel
theorem dX5_scan_5 : decode cX5_scan 5 = .ok (.aload_n 1, 1) := by decide +kernel
theorem dX5_scan_6 : decode cX5_scan 6 = .ok (.getfield 173, 3) := by decide +kernel
theorem dX5_scan_9 : decode cX5_scan 9 = .ok (.bipush 112, 2) := by decide +kernel
theorem dX5_scan_11 : decode cX5_scan 11 = .ok (.if_icmp .ne 19, 3) := by decide +kernel
theorem dX5_scan_14 : decode cX5_scan 14 = .ok (.aload_n 1, 1) := by decide +kernel
theorem dX5_scan_15 : decode cX5_scan 15 = .ok (.getfield 106, 3) := by decide +kernel
theorem dX5_scan_18 : decode cX5_scan 18 = .ok (.dup, 1) := by decide +kernel
theorem dX5_scan_19 : decode cX5_scan 19 = .ok (.getfield 97, 3) := by decide +kernel
theorem dX5_scan_22 : decode cX5_scan 22 = .ok (.aload_n 1, 1) := by decide +kernel
theorem dX5_scan_23 : decode cX5_scan 23 = .ok (.getfield 114, 3) := by decide +kernel
theorem dX5_scan_26 : decode cX5_scan 26 = .ok (.isub, 1) := by decide +kernel
theorem dX5_scan_27 : decode cX5_scan 27 = .ok (.putfield 97, 3) := by decide +kernel
theorem dX5_scan_30 : decode cX5_scan 30 = .ok (.iload_n 3, 1) := by decide +kernel
theorem dX5_scan_31 : decode cX5_scan 31 = .ok (.bipush 112, 2) := by decide +kernel
theorem dX5_scan_33 : decode cX5_scan 33 = .ok (.if_icmp .ne 19, 3) := by decide +kernel
theorem dX5_scan_36 : decode cX5_scan 36 = .ok (.aload_n 1, 1) := by decide +kernel
theorem dX5_scan_37 : decode cX5_scan 37 = .ok (.getfield 106, 3) := by decide +kernel
theorem dX5_scan_40 : decode cX5_scan 40 = .ok (.dup, 1) := by decide +kernel
theorem dX5_scan_41 : decode cX5_scan 41 = .ok (.getfield 97, 3) := by decide +kernel
theorem dX5_scan_44 : decode cX5_scan 44 = .ok (.aload_n 1, 1) := by decide +kernel
theorem dX5_scan_45 : decode cX5_scan 45 = .ok (.getfield 114, 3) := by decide +kernel
theorem dX5_scan_48 : decode cX5_scan 48 = .ok (.iadd, 1) := by decide +kernel
theorem dX5_scan_49 : decode cX5_scan 49 = .ok (.putfield 97, 3) := by decide +kernel
theorem dX5_scan_52 : decode cX5_scan 52 = .ok (.aload_n 1, 1) := by decide +kernel
theorem dX5_scan_53 : decode cX5_scan 53 = .ok (.iload_n 3, 1) := by decide +kernel
theorem dX5_scan_54 : decode cX5_scan 54 = .ok (.putfield 173, 3) := by decide +kernel
theorem dX5_scan_57 : decode cX5_scan 57 = .ok (.aload_n 0, 1) := by decide +kernel
theorem dX5_scan_58 : decode cX5_scan 58 = .ok (.getfield 42, 3) := by decide +kernel
theorem dX5_scan_61 : decode cX5_scan 61 = .ok (.aload_n 1, 1) := by decide +kernel
theorem dX5_scan_62 : decode cX5_scan 62 = .ok (.getfield 298, 3) := by decide +kernel
theorem dX5_scan_65 : decode cX5_scan 65 = .ok (.iload_n 2, 1) := by decide +kernel
theorem dX5_scan_66 : decode cX5_scan 66 = .ok (.invokevirtual 303, 3) := by decide +kernel
theorem dX5_scan_69 : decode cX5_scan 69 = .ok (.return_, 1) := by decide +kernel
set_option maxHeartbeats 4000000 in
set_option maxRecDepth 100000 in
theorem c_X5_scan (l : Launch) (hl0 : l.stackTraces = false) (g : kG) (e0 : Nat) (z : Nat → Nat) (S : wPS) (sz : Nat) (hI : Inv z e0 S) (x : Nat) (ox : Ob S 2 x) (sg : Int32) (hsg : kCh sg) : kM l g e0 yX5_scan cX5_scan 4 none 1 22 0 0 [.ref (z 0), .ref x, .int sg] S sz (pU (fun T => Kp z S T)) (fun E => False) := by
  refine kM.of (by decide) (Nat.le_of_ble_eq_true rfl) ?_
  intro p e s m below meth c ls B hin
  obtain ⟨F, hr, hlk, hte, hP, hK, hD, hE, hS, hA, hl, hsz⟩ := B
  subst hsz
  have hx := F.1
  have hb := F.2.1
  have hl : lv_has ls 4 [(0, .ref (z 0)), (1, .ref x), (2, .int sg)] := hl
  refine lv_iload_n hx hb dX5_scan_0 rfl (lv_at hl 2 rfl) ?_
  refine kcallI (kSt (n := 1) (As := [.int sg]) (rest := []) F hE hK hP hD hS hA (c_X5_stateAfter l hl0 g e0 S _ sg hsg) kw_297 kw_298 kw_2 kw_299 (by decide +kernel) ⟨Nat.le_of_ble_eq_true rfl, Nat.le_of_ble_eq_true rfl⟩ rfl hl.1 rfl (Nat.le_of_ble_eq_true rfl) dX5_scan_1 ⟨Nat.le_of_ble_eq_true rfl, Nat.le_of_ble_eq_true rfl⟩) rfl hD hS hA (fun _ _ _ _ _ h => False.elim h) (fun r1 T1 H locs hp hP hD hS => ?_)
  obtain ⟨hT, hp2⟩ := hp
  have hT := hT.symm
  subst hT
  refine lv_istore_n (lv' := [(3, .int r1), (0, .ref (z 0)), (1, .ref x), (2, .int sg)]) hx hb dX5_scan_4 rfl hl (by decide) rfl (fun ls hl => ?_)
  refine lv_aload_n hx hb dX5_scan_5 rfl (lv_at hl 2 rfl) ?_
  refine rg_Line_state F hK hP ox kw_322 dX5_scan_6 ?_
  refine lv_topi (fun x3 ex3 => ?_)
  refine lv_bipush (v := 112) hx hb dX5_scan_9 (by decide) ?_
  refine lv_icmp_ne (tgt := 30) hx hb dX5_scan_11 (by decide) (fun c4 => ?_) (fun c4 => ?_)
  · refine lv_iload_n hx hb dX5_scan_30 rfl (lv_at hl 0 rfl) ?_
    refine lv_bipush (v := 112) hx hb dX5_scan_31 (by decide) ?_
    refine lv_icmp_ne (tgt := 52) hx hb dX5_scan_33 (by decide) (fun c5 => ?_) (fun c5 => ?_)
    · refine lv_aload_n hx hb dX5_scan_52 rfl (lv_at hl 2 rfl) ?_
      refine lv_iload_n hx hb dX5_scan_53 rfl (lv_at hl 0 rfl) ?_
      refine rp_Line_state F hK hP hD hS ox kw_322 hp2.1 hp2.2 dX5_scan_54 (fun H locs hP hD hS => ?_)
      refine lv_aload_n hx hb dX5_scan_57 rfl (lv_at hl 1 rfl) ?_
      refine rs_Pickwave_log (b := z 12) F hK hP (hI.1.1 0 (by decide)) hI.2.1.2.2.2.2.2.1 kw_32 dX5_scan_58 ?_
      refine lv_aload_n hx hb dX5_scan_61 rfl (lv_at hl 2 rfl) ?_
      refine rg_Line_number F hK hP ox kw_290 dX5_scan_62 ?_
      refine lv_topi (fun x6 ex6 => ?_)
      refine lv_iload_n hx hb dX5_scan_65 rfl (lv_at hl 3 rfl) ?_
      refine kcallU (kV (n := 2) (As := [.int x6, .int sg]) (rest := []) (b := (z 12)) (C := RX4) F hE hK hP hD hS hA (c_X4_write l hl0 g e0 z (setF S 24 x r1) _ (hI.keep (kp_setSt hI.kp hp2).1) x6 sg hsg) (rr_ScanLog hK hP (hI.1.1 12 (by decide))) kw_327 kw_328 kw_329 kw_31 kw_330 (by decide +kernel) ⟨Nat.le_of_ble_eq_true rfl, Nat.le_of_ble_eq_true rfl⟩ rfl hl.1 rfl (Nat.le_of_ble_eq_true rfl) dX5_scan_66 ⟨Nat.le_of_ble_eq_true rfl, Nat.le_of_ble_eq_true rfl⟩) rfl hD hS hA (fun _ _ _ _ _ h => False.elim h) (fun T7 H locs hp hP hD hS => ?_)
      have N8 : Kp z (setF S 24 x r1) T7 := hp
      have K8 : Kp z S T7 := Kp.trans (kp_setSt hI.kp hp2) N8
      have I8 : Inv z e0 T7 := hI.keep K8.1
      have o9 : Ob T7 2 x := N8.1.ob ox
      exact kEndV F hr hlk hP hD hS (Nat.le_of_ble_eq_true rfl) (Nat.le_of_ble_eq_true rfl) dX5_scan_69 ⟨rfl, K8⟩
    · refine lv_aload_n hx hb dX5_scan_36 rfl (lv_at hl 2 rfl) ?_
      obtain ⟨b10, hb10, ob10⟩ := hI.2.2.2.2.2.2.1 x ox
      refine rs_Line_article (b := b10) F hK hP ox hb10 kw_284 dX5_scan_37 ?_
      refine lv_dup hx hb dX5_scan_40 rfl ?_
      refine rg_Article_promisedUnits F hK hP ob10 kw_271 dX5_scan_41 ?_
      refine lv_topi (fun x11 ex11 => ?_)
      refine lv_aload_n hx hb dX5_scan_44 rfl (lv_at hl 2 rfl) ?_
      refine rg_Line_amount F hK hP ox kw_285 dX5_scan_45 ?_
      refine lv_topi (fun x12 ex12 => ?_)
      refine lv_iadd hx hb dX5_scan_48 ?_
      refine lv_topi (fun x13 ex13 => ?_)
      refine rp_Article_promisedUnits F hK hP hD hS ob10 kw_271 dX5_scan_49 (fun H locs hP hD hS => ?_)
      refine lv_aload_n hx hb dX5_scan_52 rfl (lv_at hl 2 rfl) ?_
      refine lv_iload_n hx hb dX5_scan_53 rfl (lv_at hl 0 rfl) ?_
      refine rp_Line_state F hK hP hD hS ox kw_322 hp2.1 hp2.2 dX5_scan_54 (fun H locs hP hD hS => ?_)
      refine lv_aload_n hx hb dX5_scan_57 rfl (lv_at hl 1 rfl) ?_
      refine rs_Pickwave_log (b := z 12) F hK hP (hI.1.1 0 (by decide)) hI.2.1.2.2.2.2.2.1 kw_32 dX5_scan_58 ?_
      refine lv_aload_n hx hb dX5_scan_61 rfl (lv_at hl 2 rfl) ?_
      refine rg_Line_number F hK hP ox kw_290 dX5_scan_62 ?_
      refine lv_topi (fun x14 ex14 => ?_)
      refine lv_iload_n hx hb dX5_scan_65 rfl (lv_at hl 3 rfl) ?_
      refine kcallU (kV (n := 2) (As := [.int x14, .int sg]) (rest := []) (b := (z 12)) (C := RX4) F hE hK hP hD hS hA (c_X4_write l hl0 g e0 z (setF (setF S 14 b10 x13) 24 x r1) _ (hI.keep (kp_setSt (kp_setF hI.kp (by decide) (by decide)) hp2).1) x14 sg hsg) (rr_ScanLog hK hP (hI.1.1 12 (by decide))) kw_327 kw_328 kw_329 kw_31 kw_330 (by decide +kernel) ⟨Nat.le_of_ble_eq_true rfl, Nat.le_of_ble_eq_true rfl⟩ rfl hl.1 rfl (Nat.le_of_ble_eq_true rfl) dX5_scan_66 ⟨Nat.le_of_ble_eq_true rfl, Nat.le_of_ble_eq_true rfl⟩) rfl hD hS hA (fun _ _ _ _ _ h => False.elim h) (fun T15 H locs hp hP hD hS => ?_)
      have N16 : Kp z (setF (setF S 14 b10 x13) 24 x r1) T15 := hp
      have K16 : Kp z S T15 := Kp.trans (kp_setSt (kp_setF hI.kp (by decide) (by decide)) hp2) N16
      have I16 : Inv z e0 T15 := hI.keep K16.1
      have o17 : Ob T15 2 x := N16.1.ob ox
      have o18 : Ob T15 1 b10 := N16.1.ob ob10
      have g19 : pG T15 21 x = some b10 := (congrFun (N16.1.2.2.1 21 (by decide)) x).trans hb10
      exact kEndV F hr hlk hP hD hS (Nat.le_of_ble_eq_true rfl) (Nat.le_of_ble_eq_true rfl) dX5_scan_69 ⟨rfl, K16⟩
  · refine lv_aload_n hx hb dX5_scan_14 rfl (lv_at hl 2 rfl) ?_
    obtain ⟨b20, hb20, ob20⟩ := hI.2.2.2.2.2.2.1 x ox
    refine rs_Line_article (b := b20) F hK hP ox hb20 kw_284 dX5_scan_15 ?_
    refine lv_dup hx hb dX5_scan_18 rfl ?_
    refine rg_Article_promisedUnits F hK hP ob20 kw_271 dX5_scan_19 ?_
    refine lv_topi (fun x21 ex21 => ?_)
    refine lv_aload_n hx hb dX5_scan_22 rfl (lv_at hl 2 rfl) ?_
    refine rg_Line_amount F hK hP ox kw_285 dX5_scan_23 ?_
    refine lv_topi (fun x22 ex22 => ?_)
    refine lv_isub hx hb dX5_scan_26 ?_
    refine lv_topi (fun x23 ex23 => ?_)
    refine rp_Article_promisedUnits F hK hP hD hS ob20 kw_271 dX5_scan_27 (fun H locs hP hD hS => ?_)
    refine lv_iload_n hx hb dX5_scan_30 rfl (lv_at hl 0 rfl) ?_
    refine lv_bipush (v := 112) hx hb dX5_scan_31 (by decide) ?_
    refine lv_icmp_ne (tgt := 52) hx hb dX5_scan_33 (by decide) (fun c24 => ?_) (fun c24 => ?_)
    · refine lv_aload_n hx hb dX5_scan_52 rfl (lv_at hl 2 rfl) ?_
      refine lv_iload_n hx hb dX5_scan_53 rfl (lv_at hl 0 rfl) ?_
      refine rp_Line_state F hK hP hD hS ox kw_322 hp2.1 hp2.2 dX5_scan_54 (fun H locs hP hD hS => ?_)
      refine lv_aload_n hx hb dX5_scan_57 rfl (lv_at hl 1 rfl) ?_
      refine rs_Pickwave_log (b := z 12) F hK hP (hI.1.1 0 (by decide)) hI.2.1.2.2.2.2.2.1 kw_32 dX5_scan_58 ?_
      refine lv_aload_n hx hb dX5_scan_61 rfl (lv_at hl 2 rfl) ?_
      refine rg_Line_number F hK hP ox kw_290 dX5_scan_62 ?_
      refine lv_topi (fun x25 ex25 => ?_)
      refine lv_iload_n hx hb dX5_scan_65 rfl (lv_at hl 3 rfl) ?_
      refine kcallU (kV (n := 2) (As := [.int x25, .int sg]) (rest := []) (b := (z 12)) (C := RX4) F hE hK hP hD hS hA (c_X4_write l hl0 g e0 z (setF (setF S 14 b20 x23) 24 x r1) _ (hI.keep (kp_setSt (kp_setF hI.kp (by decide) (by decide)) hp2).1) x25 sg hsg) (rr_ScanLog hK hP (hI.1.1 12 (by decide))) kw_327 kw_328 kw_329 kw_31 kw_330 (by decide +kernel) ⟨Nat.le_of_ble_eq_true rfl, Nat.le_of_ble_eq_true rfl⟩ rfl hl.1 rfl (Nat.le_of_ble_eq_true rfl) dX5_scan_66 ⟨Nat.le_of_ble_eq_true rfl, Nat.le_of_ble_eq_true rfl⟩) rfl hD hS hA (fun _ _ _ _ _ h => False.elim h) (fun T26 H locs hp hP hD hS => ?_)
      have N27 : Kp z (setF (setF S 14 b20 x23) 24 x r1) T26 := hp
      have K27 : Kp z S T26 := Kp.trans (kp_setSt (kp_setF hI.kp (by decide) (by decide)) hp2) N27
      have I27 : Inv z e0 T26 := hI.keep K27.1
      have o28 : Ob T26 2 x := N27.1.ob ox
      have o29 : Ob T26 1 b20 := N27.1.ob ob20
      have g30 : pG T26 21 x = some b20 := (congrFun (N27.1.2.2.1 21 (by decide)) x).trans hb20
      exact kEndV F hr hlk hP hD hS (Nat.le_of_ble_eq_true rfl) (Nat.le_of_ble_eq_true rfl) dX5_scan_69 ⟨rfl, K27⟩
    · refine lv_aload_n hx hb dX5_scan_36 rfl (lv_at hl 2 rfl) ?_
      refine rs_Line_article (b := b20) F hK hP ox hb20 kw_284 dX5_scan_37 ?_
      refine lv_dup hx hb dX5_scan_40 rfl ?_
      refine rg_Article_promisedUnits F hK hP ob20 kw_271 dX5_scan_41 ?_
      refine lv_topi (fun x31 ex31 => ?_)
      refine lv_aload_n hx hb dX5_scan_44 rfl (lv_at hl 2 rfl) ?_
      refine rg_Line_amount F hK hP ox kw_285 dX5_scan_45 ?_
      refine lv_topi (fun x32 ex32 => ?_)
      refine lv_iadd hx hb dX5_scan_48 ?_
      refine lv_topi (fun x33 ex33 => ?_)
      refine rp_Article_promisedUnits F hK hP hD hS ob20 kw_271 dX5_scan_49 (fun H locs hP hD hS => ?_)
      refine lv_aload_n hx hb dX5_scan_52 rfl (lv_at hl 2 rfl) ?_
      refine lv_iload_n hx hb dX5_scan_53 rfl (lv_at hl 0 rfl) ?_
      refine rp_Line_state F hK hP hD hS ox kw_322 hp2.1 hp2.2 dX5_scan_54 (fun H locs hP hD hS => ?_)
      refine lv_aload_n hx hb dX5_scan_57 rfl (lv_at hl 1 rfl) ?_
      refine rs_Pickwave_log (b := z 12) F hK hP (hI.1.1 0 (by decide)) hI.2.1.2.2.2.2.2.1 kw_32 dX5_scan_58 ?_
      refine lv_aload_n hx hb dX5_scan_61 rfl (lv_at hl 2 rfl) ?_
      refine rg_Line_number F hK hP ox kw_290 dX5_scan_62 ?_
      refine lv_topi (fun x34 ex34 => ?_)
      refine lv_iload_n hx hb dX5_scan_65 rfl (lv_at hl 3 rfl) ?_
      refine kcallU (kV (n := 2) (As := [.int x34, .int sg]) (rest := []) (b := (z 12)) (C := RX4) F hE hK hP hD hS hA (c_X4_write l hl0 g e0 z (setF (setF (setF S 14 b20 x23) 14 b20 x33) 24 x r1) _ (hI.keep (kp_setSt (kp_setF (kp_setF hI.kp (by decide) (by decide)) (by decide) (by decide)) hp2).1) x34 sg hsg) (rr_ScanLog hK hP (hI.1.1 12 (by decide))) kw_327 kw_328 kw_329 kw_31 kw_330 (by decide +kernel) ⟨Nat.le_of_ble_eq_true rfl, Nat.le_of_ble_eq_true rfl⟩ rfl hl.1 rfl (Nat.le_of_ble_eq_true rfl) dX5_scan_66 ⟨Nat.le_of_ble_eq_true rfl, Nat.le_of_ble_eq_true rfl⟩) rfl hD hS hA (fun _ _ _ _ _ h => False.elim h) (fun T35 H locs hp hP hD hS => ?_)
      have N36 : Kp z (setF (setF (setF S 14 b20 x23) 14 b20 x33) 24 x r1) T35 := hp
      have K36 : Kp z S T35 := Kp.trans (kp_setSt (kp_setF (kp_setF hI.kp (by decide) (by decide)) (by decide) (by decide)) hp2) N36
      have I36 : Inv z e0 T35 := hI.keep K36.1
      have o37 : Ob T35 2 x := N36.1.ob ox
      have o38 : Ob T35 1 b20 := N36.1.ob ob20
      have g39 : pG T35 21 x = some b20 := (congrFun (N36.1.2.2.1 21 (by decide)) x).trans hb20
      exact kEndV F hr hlk hP hD hS (Nat.le_of_ble_eq_true rfl) (Nat.le_of_ble_eq_true rfl) dX5_scan_69 ⟨rfl, K36⟩
theorem dX5_canBePromised_0 : decode cX5_canBePromised 0 = .ok (.aload_n 0, 1) := by decide +kernel
theorem dX5_canBePromised_1 : decode cX5_canBePromised 1 = .ok (.getfield 106, 3) := by decide +kernel
theorem dX5_canBePromised_4 : decode cX5_canBePromised 4 = .ok (.getfield 185, 3) := by decide +kernel
theorem dX5_canBePromised_7 : decode cX5_canBePromised 7 = .ok (.getfield 121, 3) := by decide +kernel
theorem dX5_canBePromised_10 : decode cX5_canBePromised 10 = .ok (.ifCond .ne 21, 3) := by decide +kernel
theorem dX5_canBePromised_13 : decode cX5_canBePromised 13 = .ok (.aload_n 0, 1) := by decide +kernel
theorem dX5_canBePromised_14 : decode cX5_canBePromised 14 = .ok (.getfield 114, 3) := by decide +kernel
theorem dX5_canBePromised_17 : decode cX5_canBePromised 17 = .ok (.aload_n 0, 1) := by decide +kernel
theorem dX5_canBePromised_18 : decode cX5_canBePromised 18 = .ok (.getfield 106, 3) := by decide +kernel
theorem dX5_canBePromised_21 : decode cX5_canBePromised 21 = .ok (.invokevirtual 94, 3) := by decide +kernel
theorem dX5_canBePromised_24 : decode cX5_canBePromised 24 = .ok (.if_icmp .gt 7, 3) := by decide +kernel
theorem dX5_canBePromised_27 : decode cX5_canBePromised 27 = .ok (.iconst 1, 1) := by decide +kernel
theorem dX5_canBePromised_28 : decode cX5_canBePromised 28 = .ok (.goto 4, 3) := by decide +kernel
theorem dX5_canBePromised_31 : decode cX5_canBePromised 31 = .ok (.iconst 0, 1) := by decide +kernel
theorem dX5_canBePromised_32 : decode cX5_canBePromised 32 = .ok (.ireturn, 1) := by decide +kernel
set_option maxHeartbeats 4000000 in
set_option maxRecDepth 100000 in
theorem c_X5_canBePromised (l : Launch) (hl0 : l.stackTraces = false) (g : kG) (e0 : Nat) (z : Nat → Nat) (S : wPS) (sz : Nat) (hI : Inv z e0 S) (x : Nat) (ox : Ob S 2 x) : kM l g e0 yX5_canBePromised cX5_canBePromised 1 (some .boolean) 1 20 0 0 [.ref x] S sz (pI (fun r T => T = S ∧ True)) (fun E => False) := by
  refine kM.of (by decide) (Nat.le_of_ble_eq_true rfl) ?_
  intro p e s m below meth c ls B hin
  obtain ⟨F, hr, hlk, hte, hP, hK, hD, hE, hS, hA, hl, hsz⟩ := B
  subst hsz
  have hx := F.1
  have hb := F.2.1
  have hl : lv_has ls 1 [(0, .ref x)] := hl
  refine lv_aload_n hx hb dX5_canBePromised_0 rfl (lv_at hl 0 rfl) ?_
  obtain ⟨b1, hb1, ob1⟩ := hI.2.2.2.2.2.2.1 x ox
  refine rs_Line_article (b := b1) F hK hP ox hb1 kw_284 dX5_canBePromised_1 ?_
  obtain ⟨j2, hj2, hb2⟩ := hI.2.2.2.2.2.1 b1 ob1
  refine rs_Article_aisle (b := z (2 + j2)) F hK hP ob1 hb2 kw_321 dX5_canBePromised_4 ?_
  refine rg_Aisle_blocked F hK hP (hI.oa hj2) kw_312 dX5_canBePromised_7 ?_
  refine lv_topi (fun x3 ex3 => ?_)
  refine lv_if_ne (tgt := 31) hx hb dX5_canBePromised_10 (by decide) (fun c4 => ?_) (fun c4 => ?_)
  · refine lv_iconst (v := 0) hx hb dX5_canBePromised_31 (by decide) ?_
    exact kEndI F hr rfl hlk hP hD hS (Nat.le_of_ble_eq_true rfl) (Nat.le_of_ble_eq_true rfl) dX5_canBePromised_32 ⟨_, rfl, ⟨rfl, trivial⟩⟩
  · refine lv_aload_n hx hb dX5_canBePromised_13 rfl (lv_at hl 0 rfl) ?_
    refine rg_Line_amount F hK hP ox kw_285 dX5_canBePromised_14 ?_
    refine lv_topi (fun x5 ex5 => ?_)
    refine lv_aload_n hx hb dX5_canBePromised_17 rfl (lv_at hl 0 rfl) ?_
    refine rs_Line_article (b := b1) F hK hP ox hb1 kw_284 dX5_canBePromised_18 ?_
    refine kcallI (kV (n := 0) (As := []) (rest := [.int x5]) (b := b1) (C := RX1) F hE hK hP hD hS hA (c_X1_freeUnits l hl0 g e0 S _ b1 ob1) (rr_Article hK hP ob1) kw_246 kw_247 kw_248 kw_101 kw_249 (by decide +kernel) ⟨Nat.le_of_ble_eq_true rfl, Nat.le_of_ble_eq_true rfl⟩ rfl hl.1 rfl (Nat.le_of_ble_eq_true rfl) dX5_canBePromised_21 ⟨Nat.le_of_ble_eq_true rfl, Nat.le_of_ble_eq_true rfl⟩) rfl hD hS hA (fun _ _ _ _ _ h => False.elim h) (fun r6 T6 H locs hp hP hD hS => ?_)
    obtain ⟨hT, hp7⟩ := hp
    have hT := hT.symm
    subst hT
    refine lv_icmp_gt (tgt := 31) hx hb dX5_canBePromised_24 (by decide) (fun c8 => ?_) (fun c8 => ?_)
    · refine lv_iconst (v := 0) hx hb dX5_canBePromised_31 (by decide) ?_
      exact kEndI F hr rfl hlk hP hD hS (Nat.le_of_ble_eq_true rfl) (Nat.le_of_ble_eq_true rfl) dX5_canBePromised_32 ⟨_, rfl, ⟨rfl, trivial⟩⟩
    · refine lv_iconst (v := 1) hx hb dX5_canBePromised_27 (by decide) ?_
      refine lv_goto (tgt := 32) hx hb dX5_canBePromised_28 (by decide) ?_
      exact kEndI F hr rfl hlk hP hD hS (Nat.le_of_ble_eq_true rfl) (Nat.le_of_ble_eq_true rfl) dX5_canBePromised_32 ⟨_, rfl, ⟨rfl, trivial⟩⟩
theorem dX5_hasRobotIn_0 : decode cX5_hasRobotIn 0 = .ok (.iconst 0, 1) := by decide +kernel
theorem dX5_hasRobotIn_1 : decode cX5_hasRobotIn 1 = .ok (.istore_n 2, 1) := by decide +kernel
theorem dX5_hasRobotIn_2 : decode cX5_hasRobotIn 2 = .ok (.iload_n 2, 1) := by decide +kernel
theorem dX5_hasRobotIn_3 : decode cX5_hasRobotIn 3 = .ok (.aload_n 0, 1) := by decide +kernel
theorem dX5_hasRobotIn_4 : decode cX5_hasRobotIn 4 = .ok (.getfield 24, 3) := by decide +kernel
theorem dX5_hasRobotIn_7 : decode cX5_hasRobotIn 7 = .ok (.arraylength, 1) := by decide +kernel
theorem dX5_hasRobotIn_8 : decode cX5_hasRobotIn 8 = .ok (.if_icmp .ge 33, 3) := by decide +kernel
theorem dX5_hasRobotIn_11 : decode cX5_hasRobotIn 11 = .ok (.aload_n 0, 1) := by decide +kernel
theorem dX5_hasRobotIn_12 : decode cX5_hasRobotIn 12 = .ok (.getfield 24, 3) := by decide +kernel
theorem dX5_hasRobotIn_15 : decode cX5_hasRobotIn 15 = .ok (.iload_n 2, 1) := by decide +kernel
theorem dX5_hasRobotIn_16 : decode cX5_hasRobotIn 16 = .ok (.aaload, 1) := by decide +kernel
theorem dX5_hasRobotIn_17 : decode cX5_hasRobotIn 17 = .ok (.getfield 238, 3) := by decide +kernel
theorem dX5_hasRobotIn_20 : decode cX5_hasRobotIn 20 = .ok (.astore_n 3, 1) := by decide +kernel
theorem dX5_hasRobotIn_21 : decode cX5_hasRobotIn 21 = .ok (.aload_n 3, 1) := by decide +kernel
theorem dX5_hasRobotIn_22 : decode cX5_hasRobotIn 22 = .ok (.ifnull 13, 3) := by decide +kernel
theorem dX5_hasRobotIn_25 : decode cX5_hasRobotIn 25 = .ok (.aload_n 3, 1) := by decide +kernel
theorem dX5_hasRobotIn_26 : decode cX5_hasRobotIn 26 = .ok (.getfield 185, 3) := by decide +kernel
theorem dX5_hasRobotIn_29 : decode cX5_hasRobotIn 29 = .ok (.aload_n 1, 1) := by decide +kernel
theorem dX5_hasRobotIn_30 : decode cX5_hasRobotIn 30 = .ok (.if_acmp .ne 5, 3) := by decide +kernel
theorem dX5_hasRobotIn_33 : decode cX5_hasRobotIn 33 = .ok (.iconst 1, 1) := by decide +kernel
theorem dX5_hasRobotIn_34 : decode cX5_hasRobotIn 34 = .ok (.ireturn, 1) := by decide +kernel
theorem dX5_hasRobotIn_35 : decode cX5_hasRobotIn 35 = .ok (.iinc 2 1, 3) := by decide +kernel
theorem dX5_hasRobotIn_38 : decode cX5_hasRobotIn 38 = .ok (.goto (-36), 3) := by decide +kernel
theorem dX5_hasRobotIn_41 : decode cX5_hasRobotIn 41 = .ok (.iconst 0, 1) := by decide +kernel
theorem dX5_hasRobotIn_42 : decode cX5_hasRobotIn 42 = .ok (.ireturn, 1) := by decide +kernel
set_option maxHeartbeats 4000000 in
set_option maxRecDepth 100000 in
theorem c_X5_hasRobotIn (l : Launch) (hl0 : l.stackTraces = false) (g : kG) (e0 : Nat) (z : Nat → Nat) (S : wPS) (sz : Nat) (hI : Inv z e0 S) (a : Nat) (oa : Ob S 0 a) : kM l g e0 yX5_hasRobotIn cX5_hasRobotIn 4 (some .boolean) 0 0 0 0 [.ref (z 0), .ref a] S sz (pI (fun r T => T = S ∧ True)) (fun E => False) := by
  refine kM.of (by decide) (Nat.le_of_ble_eq_true rfl) ?_
  intro p e s m below meth c ls B hin
  obtain ⟨F, hr, hlk, hte, hP, hK, hD, hE, hS, hA, hl, hsz⟩ := B
  subst hsz
  have hx := F.1
  have hb := F.2.1
  have hl : lv_has ls 4 [(0, .ref (z 0)), (1, .ref a)] := hl
  refine lv_iconst (v := 0) hx hb dX5_hasRobotIn_0 (by decide) ?_
  refine lv_istore_n (lv' := [(2, .int 0), (0, .ref (z 0)), (1, .ref a)]) hx hb dX5_hasRobotIn_1 rfl hl (by decide) rfl (fun ls hl => ?_)
  refine lv_iload_n hx hb dX5_hasRobotIn_2 rfl (lv_at hl 0 rfl) ?_
  refine lv_aload_n hx hb dX5_hasRobotIn_3 rfl (lv_at hl 1 rfl) ?_
  refine rs_Pickwave_robots (b := z 7) F hK hP (hI.1.1 0 (by decide)) hI.2.1.2.2.1 kw_21 dX5_hasRobotIn_4 ?_
  refine rl_Robot (v := 2) F hK hP (hI.1.1 7 (by decide)) (congrArg Int32.ofNat (show pN S (z 7) = 2 from hI.2.2.1.2.2.2.1)) dX5_hasRobotIn_7 ?_
  refine lv_icmp_ge (tgt := 41) hx hb dX5_hasRobotIn_8 (by decide) (fun c1 => ?_) (fun c1 => ?_)
  · exact absurd c1 (by decide)
  · refine lv_aload_n hx hb dX5_hasRobotIn_11 rfl (lv_at hl 1 rfl) ?_
    refine rs_Pickwave_robots (b := z 7) F hK hP (hI.1.1 0 (by decide)) hI.2.1.2.2.1 kw_21 dX5_hasRobotIn_12 ?_
    refine lv_iload_n hx hb dX5_hasRobotIn_15 rfl (lv_at hl 0 rfl) ?_
    refine rds_Robot (b := z 8) F hK hP (hI.1.1 7 (by decide)) (by rw [hI.2.2.1.2.2.2.1]; exact vp_in_nI (n := 0) (by decide) (by decide)) (hI.2.2.1.2.2.2.2.1 0 (by decide)) dX5_hasRobotIn_16 ?_
    rcases (hI.2.2.2.2.2.2.2 _ (hI.or (j := 0) (by decide))) with ha2 | ⟨b2, ha2, ob2⟩
    · refine rz_Robot_article F hK hP (hI.or (j := 0) (by decide)) ha2 kw_610 dX5_hasRobotIn_17 ?_
      refine lv_astore_nN (lv' := [(3, .null), (2, .int 0), (0, .ref (z 0)), (1, .ref a)]) hx hb dX5_hasRobotIn_20 rfl hl (by decide) rfl (fun ls hl => ?_)
      refine lv_aload_nN hx hb dX5_hasRobotIn_21 rfl (lv_at hl 0 rfl) ?_
      refine lv_ifnullN (tgt := 35) hx hb dX5_hasRobotIn_22 (by decide) ?_
      refine lv_iinc (v := 1) (lv' := [(2, .int 1), (3, .null), (0, .ref (z 0)), (1, .ref a)]) hx hb dX5_hasRobotIn_35 hl (k := 1) rfl (by decide) (by decide) rfl (fun ls hl => ?_)
      refine lv_goto (tgt := 2) hx hb dX5_hasRobotIn_38 (by decide) ?_
      refine lv_iload_n hx hb dX5_hasRobotIn_2 rfl (lv_at hl 0 rfl) ?_
      refine lv_aload_n hx hb dX5_hasRobotIn_3 rfl (lv_at hl 2 rfl) ?_
      refine rs_Pickwave_robots (b := z 7) F hK hP (hI.1.1 0 (by decide)) hI.2.1.2.2.1 kw_21 dX5_hasRobotIn_4 ?_
      refine rl_Robot (v := 2) F hK hP (hI.1.1 7 (by decide)) (congrArg Int32.ofNat (show pN S (z 7) = 2 from hI.2.2.1.2.2.2.1)) dX5_hasRobotIn_7 ?_
      refine lv_icmp_ge (tgt := 41) hx hb dX5_hasRobotIn_8 (by decide) (fun c3 => ?_) (fun c3 => ?_)
      · exact absurd c3 (by decide)
      · refine lv_aload_n hx hb dX5_hasRobotIn_11 rfl (lv_at hl 2 rfl) ?_
        refine rs_Pickwave_robots (b := z 7) F hK hP (hI.1.1 0 (by decide)) hI.2.1.2.2.1 kw_21 dX5_hasRobotIn_12 ?_
        refine lv_iload_n hx hb dX5_hasRobotIn_15 rfl (lv_at hl 0 rfl) ?_
        refine rds_Robot (b := z 9) F hK hP (hI.1.1 7 (by decide)) (by rw [hI.2.2.1.2.2.2.1]; exact vp_in_nI (n := 1) (by decide) (by decide)) (hI.2.2.1.2.2.2.2.1 1 (by decide)) dX5_hasRobotIn_16 ?_
        rcases (hI.2.2.2.2.2.2.2 _ (hI.or (j := 1) (by decide))) with ha4 | ⟨b4, ha4, ob4⟩
        · refine rz_Robot_article F hK hP (hI.or (j := 1) (by decide)) ha4 kw_610 dX5_hasRobotIn_17 ?_
          refine lv_astore_nN (lv' := [(3, .null), (2, .int 1), (0, .ref (z 0)), (1, .ref a)]) hx hb dX5_hasRobotIn_20 rfl hl (by decide) rfl (fun ls hl => ?_)
          refine lv_aload_nN hx hb dX5_hasRobotIn_21 rfl (lv_at hl 0 rfl) ?_
          refine lv_ifnullN (tgt := 35) hx hb dX5_hasRobotIn_22 (by decide) ?_
          refine lv_iinc (v := 2) (lv' := [(2, .int 2), (3, .null), (0, .ref (z 0)), (1, .ref a)]) hx hb dX5_hasRobotIn_35 hl (k := 1) rfl (by decide) (by decide) rfl (fun ls hl => ?_)
          refine lv_goto (tgt := 2) hx hb dX5_hasRobotIn_38 (by decide) ?_
          refine lv_iload_n hx hb dX5_hasRobotIn_2 rfl (lv_at hl 0 rfl) ?_
          refine lv_aload_n hx hb dX5_hasRobotIn_3 rfl (lv_at hl 2 rfl) ?_
          refine rs_Pickwave_robots (b := z 7) F hK hP (hI.1.1 0 (by decide)) hI.2.1.2.2.1 kw_21 dX5_hasRobotIn_4 ?_
          refine rl_Robot (v := 2) F hK hP (hI.1.1 7 (by decide)) (congrArg Int32.ofNat (show pN S (z 7) = 2 from hI.2.2.1.2.2.2.1)) dX5_hasRobotIn_7 ?_
          refine lv_icmp_ge (tgt := 41) hx hb dX5_hasRobotIn_8 (by decide) (fun c5 => ?_) (fun c5 => ?_)
          · refine lv_iconst (v := 0) hx hb dX5_hasRobotIn_41 (by decide) ?_
            exact kEndI F hr rfl hlk hP hD hS (Nat.le_of_ble_eq_true rfl) (Nat.le_of_ble_eq_true rfl) dX5_hasRobotIn_42 ⟨_, rfl, ⟨rfl, trivial⟩⟩
          · exact absurd (by decide) c5
        · refine rs_Robot_article (b := b4) F hK hP (hI.or (j := 1) (by decide)) ha4 kw_610 dX5_hasRobotIn_17 ?_
          refine lv_astore_n (lv' := [(3, .ref b4), (2, .int 1), (0, .ref (z 0)), (1, .ref a)]) hx hb dX5_hasRobotIn_20 rfl hl (by decide) rfl (fun ls hl => ?_)
          refine lv_aload_n hx hb dX5_hasRobotIn_21 rfl (lv_at hl 0 rfl) ?_
          refine lv_ifnull hx hb dX5_hasRobotIn_22 ?_
          refine lv_aload_n hx hb dX5_hasRobotIn_25 rfl (lv_at hl 0 rfl) ?_
          obtain ⟨j6, hj6, hb6⟩ := hI.2.2.2.2.2.1 b4 ob4
          refine rs_Article_aisle (b := z (2 + j6)) F hK hP ob4 hb6 kw_321 dX5_hasRobotIn_26 ?_
          refine lv_aload_n hx hb dX5_hasRobotIn_29 rfl (lv_at hl 3 rfl) ?_
          refine lv_acmp_ne (rx := (some (z (2 + j6)))) (ry := (some a)) (tgt := 35) hx hb dX5_hasRobotIn_30 (by decide) (fun c7 => ?_) (fun c7 => ?_)
          · refine lv_iinc (v := 2) (lv' := [(2, .int 2), (3, .ref b4), (0, .ref (z 0)), (1, .ref a)]) hx hb dX5_hasRobotIn_35 hl (k := 1) rfl (by decide) (by decide) rfl (fun ls hl => ?_)
            refine lv_goto (tgt := 2) hx hb dX5_hasRobotIn_38 (by decide) ?_
            refine lv_iload_n hx hb dX5_hasRobotIn_2 rfl (lv_at hl 0 rfl) ?_
            refine lv_aload_n hx hb dX5_hasRobotIn_3 rfl (lv_at hl 2 rfl) ?_
            refine rs_Pickwave_robots (b := z 7) F hK hP (hI.1.1 0 (by decide)) hI.2.1.2.2.1 kw_21 dX5_hasRobotIn_4 ?_
            refine rl_Robot (v := 2) F hK hP (hI.1.1 7 (by decide)) (congrArg Int32.ofNat (show pN S (z 7) = 2 from hI.2.2.1.2.2.2.1)) dX5_hasRobotIn_7 ?_
            refine lv_icmp_ge (tgt := 41) hx hb dX5_hasRobotIn_8 (by decide) (fun c8 => ?_) (fun c8 => ?_)
            · refine lv_iconst (v := 0) hx hb dX5_hasRobotIn_41 (by decide) ?_
              exact kEndI F hr rfl hlk hP hD hS (Nat.le_of_ble_eq_true rfl) (Nat.le_of_ble_eq_true rfl) dX5_hasRobotIn_42 ⟨_, rfl, ⟨rfl, trivial⟩⟩
            · exact absurd (by decide) c8
          · refine lv_iconst (v := 1) hx hb dX5_hasRobotIn_33 (by decide) ?_
            exact kEndI F hr rfl hlk hP hD hS (Nat.le_of_ble_eq_true rfl) (Nat.le_of_ble_eq_true rfl) dX5_hasRobotIn_34 ⟨_, rfl, ⟨rfl, trivial⟩⟩
    · refine rs_Robot_article (b := b2) F hK hP (hI.or (j := 0) (by decide)) ha2 kw_610 dX5_hasRobotIn_17 ?_
      refine lv_astore_n (lv' := [(3, .ref b2), (2, .int 0), (0, .ref (z 0)), (1, .ref a)]) hx hb dX5_hasRobotIn_20 rfl hl (by decide) rfl (fun ls hl => ?_)
      refine lv_aload_n hx hb dX5_hasRobotIn_21 rfl (lv_at hl 0 rfl) ?_
      refine lv_ifnull hx hb dX5_hasRobotIn_22 ?_
      refine lv_aload_n hx hb dX5_hasRobotIn_25 rfl (lv_at hl 0 rfl) ?_
      obtain ⟨j9, hj9, hb9⟩ := hI.2.2.2.2.2.1 b2 ob2
      refine rs_Article_aisle (b := z (2 + j9)) F hK hP ob2 hb9 kw_321 dX5_hasRobotIn_26 ?_
      refine lv_aload_n hx hb dX5_hasRobotIn_29 rfl (lv_at hl 3 rfl) ?_
      refine lv_acmp_ne (rx := (some (z (2 + j9)))) (ry := (some a)) (tgt := 35) hx hb dX5_hasRobotIn_30 (by decide) (fun c10 => ?_) (fun c10 => ?_)
      · refine lv_iinc (v := 1) (lv' := [(2, .int 1), (3, .ref b2), (0, .ref (z 0)), (1, .ref a)]) hx hb dX5_hasRobotIn_35 hl (k := 1) rfl (by decide) (by decide) rfl (fun ls hl => ?_)
        refine lv_goto (tgt := 2) hx hb dX5_hasRobotIn_38 (by decide) ?_
        refine lv_iload_n hx hb dX5_hasRobotIn_2 rfl (lv_at hl 0 rfl) ?_
        refine lv_aload_n hx hb dX5_hasRobotIn_3 rfl (lv_at hl 2 rfl) ?_
        refine rs_Pickwave_robots (b := z 7) F hK hP (hI.1.1 0 (by decide)) hI.2.1.2.2.1 kw_21 dX5_hasRobotIn_4 ?_
        refine rl_Robot (v := 2) F hK hP (hI.1.1 7 (by decide)) (congrArg Int32.ofNat (show pN S (z 7) = 2 from hI.2.2.1.2.2.2.1)) dX5_hasRobotIn_7 ?_
        refine lv_icmp_ge (tgt := 41) hx hb dX5_hasRobotIn_8 (by decide) (fun c11 => ?_) (fun c11 => ?_)
        · exact absurd c11 (by decide)
        · refine lv_aload_n hx hb dX5_hasRobotIn_11 rfl (lv_at hl 2 rfl) ?_
          refine rs_Pickwave_robots (b := z 7) F hK hP (hI.1.1 0 (by decide)) hI.2.1.2.2.1 kw_21 dX5_hasRobotIn_12 ?_
          refine lv_iload_n hx hb dX5_hasRobotIn_15 rfl (lv_at hl 0 rfl) ?_
          refine rds_Robot (b := z 9) F hK hP (hI.1.1 7 (by decide)) (by rw [hI.2.2.1.2.2.2.1]; exact vp_in_nI (n := 1) (by decide) (by decide)) (hI.2.2.1.2.2.2.2.1 1 (by decide)) dX5_hasRobotIn_16 ?_
          rcases (hI.2.2.2.2.2.2.2 _ (hI.or (j := 1) (by decide))) with ha12 | ⟨b12, ha12, ob12⟩
          · refine rz_Robot_article F hK hP (hI.or (j := 1) (by decide)) ha12 kw_610 dX5_hasRobotIn_17 ?_
            refine lv_astore_nN (lv' := [(3, .null), (2, .int 1), (0, .ref (z 0)), (1, .ref a)]) hx hb dX5_hasRobotIn_20 rfl hl (by decide) rfl (fun ls hl => ?_)
            refine lv_aload_nN hx hb dX5_hasRobotIn_21 rfl (lv_at hl 0 rfl) ?_
            refine lv_ifnullN (tgt := 35) hx hb dX5_hasRobotIn_22 (by decide) ?_
            refine lv_iinc (v := 2) (lv' := [(2, .int 2), (3, .null), (0, .ref (z 0)), (1, .ref a)]) hx hb dX5_hasRobotIn_35 hl (k := 1) rfl (by decide) (by decide) rfl (fun ls hl => ?_)
            refine lv_goto (tgt := 2) hx hb dX5_hasRobotIn_38 (by decide) ?_
            refine lv_iload_n hx hb dX5_hasRobotIn_2 rfl (lv_at hl 0 rfl) ?_
            refine lv_aload_n hx hb dX5_hasRobotIn_3 rfl (lv_at hl 2 rfl) ?_
            refine rs_Pickwave_robots (b := z 7) F hK hP (hI.1.1 0 (by decide)) hI.2.1.2.2.1 kw_21 dX5_hasRobotIn_4 ?_
            refine rl_Robot (v := 2) F hK hP (hI.1.1 7 (by decide)) (congrArg Int32.ofNat (show pN S (z 7) = 2 from hI.2.2.1.2.2.2.1)) dX5_hasRobotIn_7 ?_
            refine lv_icmp_ge (tgt := 41) hx hb dX5_hasRobotIn_8 (by decide) (fun c13 => ?_) (fun c13 => ?_)
            · refine lv_iconst (v := 0) hx hb dX5_hasRobotIn_41 (by decide) ?_
              exact kEndI F hr rfl hlk hP hD hS (Nat.le_of_ble_eq_true rfl) (Nat.le_of_ble_eq_true rfl) dX5_hasRobotIn_42 ⟨_, rfl, ⟨rfl, trivial⟩⟩
            · exact absurd (by decide) c13
          · refine rs_Robot_article (b := b12) F hK hP (hI.or (j := 1) (by decide)) ha12 kw_610 dX5_hasRobotIn_17 ?_
            refine lv_astore_n (lv' := [(3, .ref b12), (2, .int 1), (0, .ref (z 0)), (1, .ref a)]) hx hb dX5_hasRobotIn_20 rfl hl (by decide) rfl (fun ls hl => ?_)
            refine lv_aload_n hx hb dX5_hasRobotIn_21 rfl (lv_at hl 0 rfl) ?_
            refine lv_ifnull hx hb dX5_hasRobotIn_22 ?_
            refine lv_aload_n hx hb dX5_hasRobotIn_25 rfl (lv_at hl 0 rfl) ?_
            obtain ⟨j14, hj14, hb14⟩ := hI.2.2.2.2.2.1 b12 ob12
            refine rs_Article_aisle (b := z (2 + j14)) F hK hP ob12 hb14 kw_321 dX5_hasRobotIn_26 ?_
            refine lv_aload_n hx hb dX5_hasRobotIn_29 rfl (lv_at hl 3 rfl) ?_
            refine lv_acmp_ne (rx := (some (z (2 + j14)))) (ry := (some a)) (tgt := 35) hx hb dX5_hasRobotIn_30 (by decide) (fun c15 => ?_) (fun c15 => ?_)
            · refine lv_iinc (v := 2) (lv' := [(2, .int 2), (3, .ref b12), (0, .ref (z 0)), (1, .ref a)]) hx hb dX5_hasRobotIn_35 hl (k := 1) rfl (by decide) (by decide) rfl (fun ls hl => ?_)
              refine lv_goto (tgt := 2) hx hb dX5_hasRobotIn_38 (by decide) ?_
              refine lv_iload_n hx hb dX5_hasRobotIn_2 rfl (lv_at hl 0 rfl) ?_
              refine lv_aload_n hx hb dX5_hasRobotIn_3 rfl (lv_at hl 2 rfl) ?_
              refine rs_Pickwave_robots (b := z 7) F hK hP (hI.1.1 0 (by decide)) hI.2.1.2.2.1 kw_21 dX5_hasRobotIn_4 ?_
              refine rl_Robot (v := 2) F hK hP (hI.1.1 7 (by decide)) (congrArg Int32.ofNat (show pN S (z 7) = 2 from hI.2.2.1.2.2.2.1)) dX5_hasRobotIn_7 ?_
              refine lv_icmp_ge (tgt := 41) hx hb dX5_hasRobotIn_8 (by decide) (fun c16 => ?_) (fun c16 => ?_)
              · refine lv_iconst (v := 0) hx hb dX5_hasRobotIn_41 (by decide) ?_
                exact kEndI F hr rfl hlk hP hD hS (Nat.le_of_ble_eq_true rfl) (Nat.le_of_ble_eq_true rfl) dX5_hasRobotIn_42 ⟨_, rfl, ⟨rfl, trivial⟩⟩
              · exact absurd (by decide) c16
            · refine lv_iconst (v := 1) hx hb dX5_hasRobotIn_33 (by decide) ?_
              exact kEndI F hr rfl hlk hP hD hS (Nat.le_of_ble_eq_true rfl) (Nat.le_of_ble_eq_true rfl) dX5_hasRobotIn_34 ⟨_, rfl, ⟨rfl, trivial⟩⟩
      · refine lv_iconst (v := 1) hx hb dX5_hasRobotIn_33 (by decide) ?_
        exact kEndI F hr rfl hlk hP hD hS (Nat.le_of_ble_eq_true rfl) (Nat.le_of_ble_eq_true rfl) dX5_hasRobotIn_34 ⟨_, rfl, ⟨rfl, trivial⟩⟩
theorem dX5_minutesOfAWay_0 : decode cX5_minutesOfAWay 0 = .ok (.iconst 3, 1) := by decide +kernel
theorem dX5_minutesOfAWay_1 : decode cX5_minutesOfAWay 1 = .ok (.iconst 2, 1) := by decide +kernel
theorem dX5_minutesOfAWay_2 : decode cX5_minutesOfAWay 2 = .ok (.aload_n 1, 1) := by decide +kernel
theorem dX5_minutesOfAWay_3 : decode cX5_minutesOfAWay 3 = .ok (.getfield 131, 3) := by decide +kernel
theorem dX5_minutesOfAWay_6 : decode cX5_minutesOfAWay 6 = .ok (.imul, 1) := by decide +kernel
theorem dX5_minutesOfAWay_7 : decode cX5_minutesOfAWay 7 = .ok (.iadd, 1) := by decide +kernel
theorem dX5_minutesOfAWay_8 : decode cX5_minutesOfAWay 8 = .ok (.istore_n 2, 1) := by decide +kernel
theorem dX5_minutesOfAWay_9 : decode cX5_minutesOfAWay 9 = .ok (.aload_n 0, 1) := by decide +kernel
theorem dX5_minutesOfAWay_10 : decode cX5_minutesOfAWay 10 = .ok (.aload_n 1, 1) := by decide +kernel
theorem dX5_minutesOfAWay_11 : decode cX5_minutesOfAWay 11 = .ok (.invokevirtual 319, 3) := by decide +kernel
theorem dX5_minutesOfAWay_14 : decode cX5_minutesOfAWay 14 = .ok (.ifCond .eq 9, 3) := by decide +kernel
theorem dX5_minutesOfAWay_17 : decode cX5_minutesOfAWay 17 = .ok (.iload_n 2, 1) := by decide +kernel
theorem dX5_minutesOfAWay_18 : decode cX5_minutesOfAWay 18 = .ok (.iconst 4, 1) := by decide +kernel
theorem dX5_minutesOfAWay_19 : decode cX5_minutesOfAWay 19 = .ok (.iadd, 1) := by decide +kernel
theorem dX5_minutesOfAWay_20 : decode cX5_minutesOfAWay 20 = .ok (.goto 4, 3) := by decide +kernel
theorem dX5_minutesOfAWay_23 : decode cX5_minutesOfAWay 23 = .ok (.iload_n 2, 1) := by decide +kernel
theorem dX5_minutesOfAWay_24 : decode cX5_minutesOfAWay 24 = .ok (.ireturn, 1) := by decide +kernel
set_option maxHeartbeats 4000000 in
set_option maxRecDepth 100000 in
theorem c_X5_minutesOfAWay (l : Launch) (hl0 : l.stackTraces = false) (g : kG) (e0 : Nat) (z : Nat → Nat) (S : wPS) (sz : Nat) (hI : Inv z e0 S) (a : Nat) (oa : Ob S 0 a) : kM l g e0 yX5_minutesOfAWay cX5_minutesOfAWay 3 (some .int) 1 23 0 0 [.ref (z 0), .ref a] S sz (pI (fun r T => T = S ∧ True)) (fun E => False) := by
  refine kM.of (by decide) (Nat.le_of_ble_eq_true rfl) ?_
  intro p e s m below meth c ls B hin
  obtain ⟨F, hr, hlk, hte, hP, hK, hD, hE, hS, hA, hl, hsz⟩ := B
  subst hsz
  have hx := F.1
  have hb := F.2.1
  have hl : lv_has ls 3 [(0, .ref (z 0)), (1, .ref a)] := hl
  refine lv_iconst (v := 3) hx hb dX5_minutesOfAWay_0 (by decide) ?_
  refine lv_iconst (v := 2) hx hb dX5_minutesOfAWay_1 (by decide) ?_
  refine lv_aload_n hx hb dX5_minutesOfAWay_2 rfl (lv_at hl 1 rfl) ?_
  refine rg_Aisle_pickers F hK hP oa kw_355 dX5_minutesOfAWay_3 ?_
  refine lv_topi (fun x1 ex1 => ?_)
  refine lv_imul hx hb dX5_minutesOfAWay_6 ?_
  refine lv_topi (fun x2 ex2 => ?_)
  refine lv_iadd hx hb dX5_minutesOfAWay_7 ?_
  refine lv_topi (fun x3 ex3 => ?_)
  refine lv_istore_n (lv' := [(2, .int x3), (0, .ref (z 0)), (1, .ref a)]) hx hb dX5_minutesOfAWay_8 rfl hl (by decide) rfl (fun ls hl => ?_)
  refine lv_aload_n hx hb dX5_minutesOfAWay_9 rfl (lv_at hl 1 rfl) ?_
  refine lv_aload_n hx hb dX5_minutesOfAWay_10 rfl (lv_at hl 2 rfl) ?_
  refine kcallI (kV (n := 1) (As := [.ref a]) (rest := []) (b := (z 0)) (C := RX5) F hE hK hP hD hS hA (c_X5_hasRobotIn l hl0 g e0 z S _ hI a oa) (rr_Pickwave hK hP (hI.1.1 0 (by decide))) kw_622 kw_623 kw_624 kw_2 kw_625 (by decide +kernel) ⟨Nat.le_of_ble_eq_true rfl, Nat.le_of_ble_eq_true rfl⟩ rfl hl.1 rfl (Nat.le_of_ble_eq_true rfl) dX5_minutesOfAWay_11 ⟨Nat.le_of_ble_eq_true rfl, Nat.le_of_ble_eq_true rfl⟩) rfl hD hS hA (fun _ _ _ _ _ h => False.elim h) (fun r4 T4 H locs hp hP hD hS => ?_)
  obtain ⟨hT, hp5⟩ := hp
  have hT := hT.symm
  subst hT
  refine lv_if_eq (tgt := 23) hx hb dX5_minutesOfAWay_14 (by decide) (fun c6 => ?_) (fun c6 => ?_)
  · refine lv_iload_n hx hb dX5_minutesOfAWay_23 rfl (lv_at hl 0 rfl) ?_
    exact kEndI F hr rfl hlk hP hD hS (Nat.le_of_ble_eq_true rfl) (Nat.le_of_ble_eq_true rfl) dX5_minutesOfAWay_24 ⟨_, rfl, ⟨rfl, trivial⟩⟩
  · refine lv_iload_n hx hb dX5_minutesOfAWay_17 rfl (lv_at hl 0 rfl) ?_
    refine lv_iconst (v := 4) hx hb dX5_minutesOfAWay_18 (by decide) ?_
    refine lv_iadd hx hb dX5_minutesOfAWay_19 ?_
    refine lv_topi (fun x7 ex7 => ?_)
    refine lv_goto (tgt := 24) hx hb dX5_minutesOfAWay_20 (by decide) ?_
    exact kEndI F hr rfl hlk hP hD hS (Nat.le_of_ble_eq_true rfl) (Nat.le_of_ble_eq_true rfl) dX5_minutesOfAWay_24 ⟨_, rfl, ⟨rfl, trivial⟩⟩
theorem dX5_passMinuteOf_0 : decode cX5_passMinuteOf 0 = .ok (.aload_n 0, 1) := by decide +kernel
theorem dX5_passMinuteOf_1 : decode cX5_passMinuteOf 1 = .ok (.getfield 238, 3) := by decide +kernel
theorem dX5_passMinuteOf_4 : decode cX5_passMinuteOf 4 = .ok (.astore_n 1, 1) := by decide +kernel
theorem dX5_passMinuteOf_5 : decode cX5_passMinuteOf 5 = .ok (.aload_n 1, 1) := by decide +kernel
theorem dX5_passMinuteOf_6 : decode cX5_passMinuteOf 6 = .ok (.ifnull 13, 3) := by decide +kernel
theorem dX5_passMinuteOf_9 : decode cX5_passMinuteOf 9 = .ok (.aload_n 1, 1) := by decide +kernel
theorem dX5_passMinuteOf_10 : decode cX5_passMinuteOf 10 = .ok (.getfield 185, 3) := by decide +kernel
theorem dX5_passMinuteOf_13 : decode cX5_passMinuteOf 13 = .ok (.getfield 121, 3) := by decide +kernel
theorem dX5_passMinuteOf_16 : decode cX5_passMinuteOf 16 = .ok (.ifCond .eq 5, 3) := by decide +kernel
theorem dX5_passMinuteOf_19 : decode cX5_passMinuteOf 19 = .ok (.iconst 0, 1) := by decide +kernel
theorem dX5_passMinuteOf_20 : decode cX5_passMinuteOf 20 = .ok (.ireturn, 1) := by decide +kernel
theorem dX5_passMinuteOf_21 : decode cX5_passMinuteOf 21 = .ok (.aload_n 0, 1) := by decide +kernel
theorem dX5_passMinuteOf_22 : decode cX5_passMinuteOf 22 = .ok (.dup, 1) := by decide +kernel
theorem dX5_passMinuteOf_23 : decode cX5_passMinuteOf 23 = .ok (.getfield 250, 3) := by decide +kernel
theorem dX5_passMinuteOf_26 : decode cX5_passMinuteOf 26 = .ok (.iconst 1, 1) := by decide +kernel
theorem dX5_passMinuteOf_27 : decode cX5_passMinuteOf 27 = .ok (.isub, 1) := by decide +kernel
theorem dX5_passMinuteOf_28 : decode cX5_passMinuteOf 28 = .ok (.putfield 250, 3) := by decide +kernel
theorem dX5_passMinuteOf_31 : decode cX5_passMinuteOf 31 = .ok (.aload_n 0, 1) := by decide +kernel
theorem dX5_passMinuteOf_32 : decode cX5_passMinuteOf 32 = .ok (.getfield 250, 3) := by decide +kernel
theorem dX5_passMinuteOf_35 : decode cX5_passMinuteOf 35 = .ok (.ifCond .le 5, 3) := by decide +kernel
theorem dX5_passMinuteOf_38 : decode cX5_passMinuteOf 38 = .ok (.iconst 0, 1) := by decide +kernel
theorem dX5_passMinuteOf_39 : decode cX5_passMinuteOf 39 = .ok (.ireturn, 1) := by decide +kernel
theorem dX5_passMinuteOf_40 : decode cX5_passMinuteOf 40 = .ok (.aload_n 0, 1) := by decide +kernel
theorem dX5_passMinuteOf_41 : decode cX5_passMinuteOf 41 = .ok (.getfield 253, 3) := by decide +kernel
theorem dX5_passMinuteOf_44 : decode cX5_passMinuteOf 44 = .ok (.istore_n 2, 1) := by decide +kernel
theorem dX5_passMinuteOf_45 : decode cX5_passMinuteOf 45 = .ok (.aload_n 0, 1) := by decide +kernel
theorem dX5_passMinuteOf_46 : decode cX5_passMinuteOf 46 = .ok (.aconst_null, 1) := by decide +kernel
theorem dX5_passMinuteOf_47 : decode cX5_passMinuteOf 47 = .ok (.putfield 238, 3) := by decide +kernel
theorem dX5_passMinuteOf_50 : decode cX5_passMinuteOf 50 = .ok (.aload_n 0, 1) := by decide +kernel
theorem dX5_passMinuteOf_51 : decode cX5_passMinuteOf 51 = .ok (.iconst 0, 1) := by decide +kernel
theorem dX5_passMinuteOf_52 : decode cX5_passMinuteOf 52 = .ok (.putfield 253, 3) := by decide +kernel
theorem dX5_passMinuteOf_55 : decode cX5_passMinuteOf 55 = .ok (.aload_n 1, 1) := by decide +kernel
theorem dX5_passMinuteOf_56 : decode cX5_passMinuteOf 56 = .ok (.iload_n 2, 1) := by decide +kernel
theorem dX5_passMinuteOf_57 : decode cX5_passMinuteOf 57 = .ok (.invokevirtual 152, 3) := by decide +kernel
theorem dX5_passMinuteOf_60 : decode cX5_passMinuteOf 60 = .ok (.ireturn, 1) := by decide +kernel
set_option maxHeartbeats 4000000 in
set_option maxRecDepth 100000 in
theorem c_X5_passMinuteOf (l : Launch) (hl0 : l.stackTraces = false) (g : kG) (e0 : Nat) (z : Nat → Nat) (S : wPS) (sz : Nat) (hI : Inv z e0 S) (x : Nat) (ox : Ob S 3 x) : kM l g e0 yX5_passMinuteOf cX5_passMinuteOf 3 (some .int) 2 42 0 0 [.ref x] S sz (pI (fun r T => Kp z S T ∧ (pG S 30 x = none → r = 0 ∧ T = S))) (fun E => False) := by
  refine kM.of (by decide) (Nat.le_of_ble_eq_true rfl) ?_
  intro p e s m below meth c ls B hin
  obtain ⟨F, hr, hlk, hte, hP, hK, hD, hE, hS, hA, hl, hsz⟩ := B
  subst hsz
  have hx := F.1
  have hb := F.2.1
  have hl : lv_has ls 3 [(0, .ref x)] := hl
  refine lv_aload_n hx hb dX5_passMinuteOf_0 rfl (lv_at hl 0 rfl) ?_
  rcases (hI.2.2.2.2.2.2.2 _ ox) with ha1 | ⟨b1, ha1, ob1⟩
  · refine rz_Robot_article F hK hP ox ha1 kw_610 dX5_passMinuteOf_1 ?_
    refine lv_astore_nN (lv' := [(1, .null), (0, .ref x)]) hx hb dX5_passMinuteOf_4 rfl hl (by decide) rfl (fun ls hl => ?_)
    refine lv_aload_nN hx hb dX5_passMinuteOf_5 rfl (lv_at hl 0 rfl) ?_
    refine lv_ifnullN (tgt := 19) hx hb dX5_passMinuteOf_6 (by decide) ?_
    refine lv_iconst (v := 0) hx hb dX5_passMinuteOf_19 (by decide) ?_
    exact kEndI F hr rfl hlk hP hD hS (Nat.le_of_ble_eq_true rfl) (Nat.le_of_ble_eq_true rfl) dX5_passMinuteOf_20 ⟨_, rfl, ⟨hI.kp, fun _ => ⟨rfl, rfl⟩⟩⟩
  · refine rs_Robot_article (b := b1) F hK hP ox ha1 kw_610 dX5_passMinuteOf_1 ?_
    refine lv_astore_n (lv' := [(1, .ref b1), (0, .ref x)]) hx hb dX5_passMinuteOf_4 rfl hl (by decide) rfl (fun ls hl => ?_)
    refine lv_aload_n hx hb dX5_passMinuteOf_5 rfl (lv_at hl 0 rfl) ?_
    refine lv_ifnull hx hb dX5_passMinuteOf_6 ?_
    refine lv_aload_n hx hb dX5_passMinuteOf_9 rfl (lv_at hl 0 rfl) ?_
    obtain ⟨j2, hj2, hb2⟩ := hI.2.2.2.2.2.1 b1 ob1
    refine rs_Article_aisle (b := z (2 + j2)) F hK hP ob1 hb2 kw_321 dX5_passMinuteOf_10 ?_
    refine rg_Aisle_blocked F hK hP (hI.oa hj2) kw_312 dX5_passMinuteOf_13 ?_
    refine lv_topi (fun x3 ex3 => ?_)
    refine lv_if_eq (tgt := 21) hx hb dX5_passMinuteOf_16 (by decide) (fun c4 => ?_) (fun c4 => ?_)
    · refine lv_aload_n hx hb dX5_passMinuteOf_21 rfl (lv_at hl 1 rfl) ?_
      refine lv_dup hx hb dX5_passMinuteOf_22 rfl ?_
      refine rg_Robot_minutes F hK hP ox kw_612 dX5_passMinuteOf_23 ?_
      refine lv_topi (fun x5 ex5 => ?_)
      refine lv_iconst (v := 1) hx hb dX5_passMinuteOf_26 (by decide) ?_
      refine lv_isub hx hb dX5_passMinuteOf_27 ?_
      refine lv_topi (fun x6 ex6 => ?_)
      refine rp_Robot_minutes F hK hP hD hS ox kw_612 dX5_passMinuteOf_28 (fun H locs hP hD hS => ?_)
      refine lv_aload_n hx hb dX5_passMinuteOf_31 rfl (lv_at hl 1 rfl) ?_
      refine rg_Robot_minutes F hK hP ox kw_612 dX5_passMinuteOf_32 ?_
      refine lv_topi (fun x7 ex7 => ?_)
      refine lv_if_le (tgt := 40) hx hb dX5_passMinuteOf_35 (by decide) (fun c8 => ?_) (fun c8 => ?_)
      · refine lv_aload_n hx hb dX5_passMinuteOf_40 rfl (lv_at hl 1 rfl) ?_
        refine rg_Robot_load F hK hP ox kw_613 dX5_passMinuteOf_41 ?_
        refine lv_topi (fun x9 ex9 => ?_)
        refine lv_istore_n (lv' := [(2, .int x9), (1, .ref b1), (0, .ref x)]) hx hb dX5_passMinuteOf_44 rfl hl (by decide) rfl (fun ls hl => ?_)
        refine lv_aload_n hx hb dX5_passMinuteOf_45 rfl (lv_at hl 2 rfl) ?_
        refine lv_null hx hb dX5_passMinuteOf_46 ?_
        refine rpn_Robot_article F hK hP hD hS ox kw_610 dX5_passMinuteOf_47 (fun H locs hP hD hS => ?_)
        refine lv_aload_n hx hb dX5_passMinuteOf_50 rfl (lv_at hl 2 rfl) ?_
        refine lv_iconst (v := 0) hx hb dX5_passMinuteOf_51 (by decide) ?_
        refine rp_Robot_load F hK hP hD hS ox kw_613 dX5_passMinuteOf_52 (fun H locs hP hD hS => ?_)
        refine lv_aload_n hx hb dX5_passMinuteOf_55 rfl (lv_at hl 1 rfl) ?_
        refine lv_iload_n hx hb dX5_passMinuteOf_56 rfl (lv_at hl 0 rfl) ?_
        refine kcallI (kV (n := 1) (As := [.int x9]) (rest := []) (b := b1) (C := RX1) F hE hK hP hD hS hA (c_X1_putAway l hl0 g e0 z (setF (setG (setF S 32 x x6) 30 x none) 31 x 0) _ (hI.keep (kp_setF (kp_idle (kp_setF hI.kp (by decide) (by decide))) (by decide) (by decide)).1) b1 ob1 x9) (rr_Article hK hP ob1) kw_373 kw_374 kw_375 kw_101 kw_376 (by decide +kernel) ⟨Nat.le_of_ble_eq_true rfl, Nat.le_of_ble_eq_true rfl⟩ rfl hl.1 rfl (Nat.le_of_ble_eq_true rfl) dX5_passMinuteOf_57 ⟨Nat.le_of_ble_eq_true rfl, Nat.le_of_ble_eq_true rfl⟩) rfl hD hS hA (fun _ _ _ _ _ h => False.elim h) (fun r10 T10 H locs hp hP hD hS => ?_)
        have N11 : Kp z (setF (setG (setF S 32 x x6) 30 x none) 31 x 0) T10 := hp
        have K11 : Kp z S T10 := Kp.trans (kp_setF (kp_idle (kp_setF hI.kp (by decide) (by decide))) (by decide) (by decide)) N11
        have I11 : Inv z e0 T10 := hI.keep K11.1
        have o12 : Ob T10 3 x := N11.1.ob ox
        have o13 : Ob T10 1 b1 := N11.1.ob ob1
        have o14 : Ob T10 0 (z (2 + j2)) := N11.1.ob (hI.oa hj2)
        have g15 : pG T10 10 b1 = some (z (2 + j2)) := (congrFun (N11.1.2.2.1 10 (by decide)) b1).trans hb2
        exact kEndI F hr rfl hlk hP hD hS (Nat.le_of_ble_eq_true rfl) (Nat.le_of_ble_eq_true rfl) dX5_passMinuteOf_60 ⟨_, rfl, ⟨K11, fun h => nomatch (ha1.symm.trans h)⟩⟩
      · refine lv_iconst (v := 0) hx hb dX5_passMinuteOf_38 (by decide) ?_
        exact kEndI F hr rfl hlk hP hD hS (Nat.le_of_ble_eq_true rfl) (Nat.le_of_ble_eq_true rfl) dX5_passMinuteOf_39 ⟨_, rfl, ⟨(kp_setF hI.kp (by decide) (by decide)), fun h => nomatch (ha1.symm.trans h)⟩⟩
    · refine lv_iconst (v := 0) hx hb dX5_passMinuteOf_19 (by decide) ?_
      exact kEndI F hr rfl hlk hP hD hS (Nat.le_of_ble_eq_true rfl) (Nat.le_of_ble_eq_true rfl) dX5_passMinuteOf_20 ⟨_, rfl, ⟨hI.kp, fun h => nomatch (ha1.symm.trans h)⟩⟩
theorem dX5_reopenInAisle_0 : decode cX5_reopenInAisle 0 = .ok (.iconst 0, 1) := by decide +kernel
theorem dX5_reopenInAisle_1 : decode cX5_reopenInAisle 1 = .ok (.istore_n 2, 1) := by decide +kernel
theorem dX5_reopenInAisle_2 : decode cX5_reopenInAisle 2 = .ok (.iload_n 2, 1) := by decide +kernel
theorem dX5_reopenInAisle_3 : decode cX5_reopenInAisle 3 = .ok (.aload_n 0, 1) := by decide +kernel
theorem dX5_reopenInAisle_4 : decode cX5_reopenInAisle 4 = .ok (.getfield 36, 3) := by decide +kernel
theorem dX5_reopenInAisle_7 : decode cX5_reopenInAisle 7 = .ok (.invokevirtual 65, 3) := by decide +kernel
theorem dX5_reopenInAisle_10 : decode cX5_reopenInAisle 10 = .ok (.if_icmp .ge 48, 3) := by decide +kernel
theorem dX5_reopenInAisle_13 : decode cX5_reopenInAisle 13 = .ok (.aload_n 0, 1) := by decide +kernel
theorem dX5_reopenInAisle_14 : decode cX5_reopenInAisle 14 = .ok (.getfield 36, 3) := by decide +kernel
theorem dX5_reopenInAisle_17 : decode cX5_reopenInAisle 17 = .ok (.iload_n 2, 1) := by decide +kernel
theorem dX5_reopenInAisle_18 : decode cX5_reopenInAisle 18 = .ok (.invokevirtual 100, 3) := by decide +kernel
theorem dX5_reopenInAisle_21 : decode cX5_reopenInAisle 21 = .ok (.checkcast 104, 3) := by decide +kernel
theorem dX5_reopenInAisle_24 : decode cX5_reopenInAisle 24 = .ok (.astore_n 3, 1) := by decide +kernel
theorem dX5_reopenInAisle_25 : decode cX5_reopenInAisle 25 = .ok (.aload_n 3, 1) := by decide +kernel
theorem dX5_reopenInAisle_26 : decode cX5_reopenInAisle 26 = .ok (.getfield 106, 3) := by decide +kernel
theorem dX5_reopenInAisle_29 : decode cX5_reopenInAisle 29 = .ok (.getfield 185, 3) := by decide +kernel
theorem dX5_reopenInAisle_32 : decode cX5_reopenInAisle 32 = .ok (.aload_n 1, 1) := by decide +kernel
theorem dX5_reopenInAisle_33 : decode cX5_reopenInAisle 33 = .ok (.if_acmp .ne 19, 3) := by decide +kernel
theorem dX5_reopenInAisle_36 : decode cX5_reopenInAisle 36 = .ok (.aload_n 3, 1) := by decide +kernel
theorem dX5_reopenInAisle_37 : decode cX5_reopenInAisle 37 = .ok (.getfield 173, 3) := by decide +kernel
theorem dX5_reopenInAisle_40 : decode cX5_reopenInAisle 40 = .ok (.bipush 112, 2) := by decide +kernel
theorem dX5_reopenInAisle_42 : decode cX5_reopenInAisle 42 = .ok (.if_icmp .ne 10, 3) := by decide +kernel
theorem dX5_reopenInAisle_45 : decode cX5_reopenInAisle 45 = .ok (.aload_n 0, 1) := by decide +kernel
theorem dX5_reopenInAisle_46 : decode cX5_reopenInAisle 46 = .ok (.aload_n 3, 1) := by decide +kernel
theorem dX5_reopenInAisle_47 : decode cX5_reopenInAisle 47 = .ok (.bipush 117, 2) := by decide +kernel
theorem dX5_reopenInAisle_49 : decode cX5_reopenInAisle 49 = .ok (.invokevirtual 179, 3) := by decide +kernel
theorem dX5_reopenInAisle_52 : decode cX5_reopenInAisle 52 = .ok (.iinc 2 1, 3) := by decide +kernel
theorem dX5_reopenInAisle_55 : decode cX5_reopenInAisle 55 = .ok (.goto (-53), 3) := by decide +kernel
theorem dX5_reopenInAisle_58 : decode cX5_reopenInAisle 58 = .ok (.return_, 1) := by decide +kernel
set_option maxHeartbeats 4000000 in
set_option maxRecDepth 100000 in
theorem c_X5_reopenInAisle (l : Launch) (hl0 : l.stackTraces = false) (g : kG) (e0 : Nat) (z : Nat → Nat) (S : wPS) (sz : Nat) (hI : Inv z e0 S) (a : Nat) (oa : Ob S 0 a) : kM l g e0 yX5_reopenInAisle cX5_reopenInAisle 4 none 3 64 0 0 [.ref (z 0), .ref a] S sz (pU (fun T => Kp z S T)) (fun E => False) := by
  refine kM.of (by decide) (Nat.le_of_ble_eq_true rfl) ?_
  intro p e s m below meth c ls B hin
  obtain ⟨F, hr, hlk, hte, hP, hK, hD, hE, hS, hA, hl, hsz⟩ := B
  subst hsz
  have hx := F.1
  have hb := F.2.1
  have hl : lv_has ls 4 [(0, .ref (z 0)), (1, .ref a)] := hl
  obtain ⟨m1, hm1, hL1⟩ := hI.lines
  refine lv_iconst (v := 0) hx hb dX5_reopenInAisle_0 (by decide) ?_
  refine lv_istore_n (lv' := [(2, .int 0), (0, .ref (z 0)), (1, .ref a)]) hx hb dX5_reopenInAisle_1 rfl hl (by decide) rfl (fun ls hl => ?_)
  have loop : ∀ (fu : Nat) (T0 : wPS) (i : Nat) (xi : Int32) (H : Heap) (locs : List Loc) (ls : Array Slot), va_P (kD g) vwCl (kW g T0) H → va_D (kA (pL S) s.heap.size) (kW g T0) → va_S (kA (pL S) s.heap.size) s.heap H locs → lv_has ls 4 [(2, .int xi), (0, .ref (z 0)), (1, .ref a)] → m1 - i < fu → (Kp z S T0) → (xi = nI i) → (i ≤ m1) → W p l e ({ frames := 3, cells := 0, slots := 0, locals := 64 }) s m ([.ref (z 0), .ref a] : List Value).toArray below meth c H locs 0 0 (vx_MQ below (kQ g S s.heap.size (pU (fun T => Kp z S T))) (kX g S s.heap.size (fun E => False)) ([.ref (z 0), .ref a] : List Value).toArray s 0 0 (kA (pL S) s.heap.size)) (F0 m 2 ls []) := by
    intro fu
    induction fu with
    | zero => intro T0 i xi H locs ls hP hD hS hl hn hKp hi hin; exact absurd hn (Nat.not_lt_zero _)
    | succ fu ih =>
      intro T0 i xi H locs ls hP hD hS hl hn hKp hi hin
      have hLT : LI T0 e0 (z 11) 2 m1 := LI.keep hKp.1 hL1
      refine lv_iload_n hx hb dX5_reopenInAisle_2 rfl (lv_at hl 0 rfl) ?_
      refine lv_aload_n hx hb dX5_reopenInAisle_3 rfl (lv_at hl 1 rfl) ?_
      refine rs_Pickwave_lines (b := z 11) F hK hP ((hI.keep hKp.1).1.1 0 (by decide)) ((hI.keep hKp.1).2.1.2.2.2.2.1) kw_28 dX5_reopenInAisle_4 ?_
      refine kcallI (kV (n := 0) (As := []) (rest := [.int xi]) (b := (z 11)) (C := RJx4a65c) F hE hK hP hD hS hA (c_Jx4a65c_size_8abf5 l hl0 g e0 T0 _ (z 11) ((hI.keep hKp.1).1.1 11 (by decide))) (rr_ArrayList hK hP ((hI.keep hKp.1).1.1 11 (by decide))) kw_109 kw_110 kw_111 kw_26 kw_112 (by decide +kernel) ⟨Nat.le_of_ble_eq_true rfl, Nat.le_of_ble_eq_true rfl⟩ rfl hl.1 rfl (Nat.le_of_ble_eq_true rfl) dX5_reopenInAisle_7 ⟨Nat.le_of_ble_eq_true rfl, Nat.le_of_ble_eq_true rfl⟩) rfl hD hS hA (fun _ _ _ _ _ h => False.elim h) (fun r1 T1 H locs hp hP hD hS => ?_)
      obtain ⟨hT, hp2⟩ := hp
      have hT := hT.symm
      subst hT
      refine lv_icmp_ge (tgt := 58) hx hb dX5_reopenInAisle_10 (by decide) (fun c3 => ?_) (fun c3 => ?_)
      · exact kEndV F hr hlk hP hD hS (Nat.le_of_ble_eq_true rfl) (Nat.le_of_ble_eq_true rfl) dX5_reopenInAisle_58 ⟨rfl, hKp⟩
      · obtain ⟨him, hx0, hx1⟩ := klp hLT ⟨hm1, hin⟩ hi hp2 c3
        refine lv_aload_n hx hb dX5_reopenInAisle_13 rfl (lv_at hl 1 rfl) ?_
        refine rs_Pickwave_lines (b := z 11) F hK hP ((hI.keep hKp.1).1.1 0 (by decide)) ((hI.keep hKp.1).2.1.2.2.2.2.1) kw_28 dX5_reopenInAisle_14 ?_
        refine lv_iload_n hx hb dX5_reopenInAisle_17 rfl (lv_at hl 0 rfl) ?_
        refine kcallR (kV (n := 1) (As := [.int xi]) (rest := []) (b := (z 11)) (C := RJx4a65c) F hE hK hP hD hS hA (c_Jx4a65c_get_915e3 l hl0 g e0 T0 _ (z 11) 2 _ xi ((hI.keep hKp.1).1.1 11 (by decide)) hLT hx0 hx1 (by omega)) (rr_ArrayList hK hP ((hI.keep hKp.1).1.1 11 (by decide))) kw_203 kw_204 kw_205 kw_26 kw_206 (by decide +kernel) ⟨Nat.le_of_ble_eq_true rfl, Nat.le_of_ble_eq_true rfl⟩ rfl hl.1 rfl (Nat.le_of_ble_eq_true rfl) dX5_reopenInAisle_18 ⟨Nat.le_of_ble_eq_true rfl, Nat.le_of_ble_eq_true rfl⟩) rfl hD hS hA (fun _ _ _ _ _ h => False.elim h) (fun b4 T4 H locs hp hP hD hS => ?_)
        obtain ⟨hT, hp5⟩ := hp
        have hT := hT.symm
        subst hT
        refine va_castS hx hb F.2.2.2.1 (F.2.2.2.2 _ kw_283) (hK.1 3 _ rfl).2 (rr_Line hK hP hp5.1) dX5_reopenInAisle_21 ?_
        refine lv_astore_n (lv' := [(3, .ref b4), (2, .int xi), (0, .ref (z 0)), (1, .ref a)]) hx hb dX5_reopenInAisle_24 rfl hl (by decide) rfl (fun ls hl => ?_)
        refine lv_aload_n hx hb dX5_reopenInAisle_25 rfl (lv_at hl 0 rfl) ?_
        obtain ⟨b6, hb6, ob6⟩ := (hI.keep hKp.1).2.2.2.2.2.2.1 b4 hp5.1
        refine rs_Line_article (b := b6) F hK hP hp5.1 hb6 kw_284 dX5_reopenInAisle_26 ?_
        obtain ⟨j7, hj7, hb7⟩ := (hI.keep hKp.1).2.2.2.2.2.1 b6 ob6
        refine rs_Article_aisle (b := z (2 + j7)) F hK hP ob6 hb7 kw_321 dX5_reopenInAisle_29 ?_
        refine lv_aload_n hx hb dX5_reopenInAisle_32 rfl (lv_at hl 3 rfl) ?_
        refine lv_acmp_ne (rx := (some (z (2 + j7)))) (ry := (some a)) (tgt := 52) hx hb dX5_reopenInAisle_33 (by decide) (fun c8 => ?_) (fun c8 => ?_)
        · obtain ⟨x9, ex9⟩ : ∃ y : Int32, y = xi + 1 := ⟨_, rfl⟩
          refine lv_iinc (v := x9) (lv' := [(2, .int x9), (3, .ref b4), (0, .ref (z 0)), (1, .ref a)]) hx hb dX5_reopenInAisle_52 hl (k := 1) rfl (by rw [ex9]; rfl) (by decide) rfl (fun ls hl => ?_)
          refine lv_goto (tgt := 2) hx hb dX5_reopenInAisle_55 (by decide) ?_
          exact ih _ (i + 1) x9  H locs ls hP hD hS (lv_sub hl [0, 2, 3] rfl) (by omega) hKp (by rw [ex9, hi]; exact nI_1 i) him
        · refine lv_aload_n hx hb dX5_reopenInAisle_36 rfl (lv_at hl 0 rfl) ?_
          refine rg_Line_state F hK hP hp5.1 kw_322 dX5_reopenInAisle_37 ?_
          refine lv_topi (fun x10 ex10 => ?_)
          refine lv_bipush (v := 112) hx hb dX5_reopenInAisle_40 (by decide) ?_
          refine lv_icmp_ne (tgt := 52) hx hb dX5_reopenInAisle_42 (by decide) (fun c11 => ?_) (fun c11 => ?_)
          · obtain ⟨x12, ex12⟩ : ∃ y : Int32, y = xi + 1 := ⟨_, rfl⟩
            refine lv_iinc (v := x12) (lv' := [(2, .int x12), (3, .ref b4), (0, .ref (z 0)), (1, .ref a)]) hx hb dX5_reopenInAisle_52 hl (k := 1) rfl (by rw [ex12]; rfl) (by decide) rfl (fun ls hl => ?_)
            refine lv_goto (tgt := 2) hx hb dX5_reopenInAisle_55 (by decide) ?_
            exact ih _ (i + 1) x12  H locs ls hP hD hS (lv_sub hl [0, 2, 3] rfl) (by omega) hKp (by rw [ex12, hi]; exact nI_1 i) him
          · refine lv_aload_n hx hb dX5_reopenInAisle_45 rfl (lv_at hl 2 rfl) ?_
            refine lv_aload_n hx hb dX5_reopenInAisle_46 rfl (lv_at hl 0 rfl) ?_
            refine lv_bipush (v := 117) hx hb dX5_reopenInAisle_47 (by decide) ?_
            refine kcallU (kV (n := 2) (As := [.ref b4, .int 117]) (rest := []) (b := (z 0)) (C := RX5) F hE hK hP hD hS hA (c_X5_scan l hl0 g e0 z T0 _ (hI.keep hKp.1) b4 hp5.1 117 ⟨rfl, rfl⟩) (rr_Pickwave hK hP ((hI.keep hKp.1).1.1 0 (by decide))) kw_323 kw_324 kw_325 kw_2 kw_326 (by decide +kernel) ⟨Nat.le_of_ble_eq_true rfl, Nat.le_of_ble_eq_true rfl⟩ rfl hl.1 rfl (Nat.le_of_ble_eq_true rfl) dX5_reopenInAisle_49 ⟨Nat.le_of_ble_eq_true rfl, Nat.le_of_ble_eq_true rfl⟩) rfl hD hS hA (fun _ _ _ _ _ h => False.elim h) (fun T13 H locs hp hP hD hS => ?_)
            have N14 : Kp z T0 T13 := hp
            have K14 : Kp z S T13 := Kp.trans hKp N14
            have I14 : Inv z e0 T13 := hI.keep K14.1
            have o15 : Ob T13 0 a := N14.1.ob (hKp.1.ob oa)
            have o16 : Ob T13 2 b4 := N14.1.ob hp5.1
            have o17 : Ob T13 1 b6 := N14.1.ob ob6
            have o18 : Ob T13 0 (z (2 + j7)) := N14.1.ob ((hI.keep hKp.1).oa hj7)
            have g19 : pG T13 21 b4 = some b6 := (congrFun (N14.1.2.2.1 21 (by decide)) b4).trans hb6
            have g20 : pG T13 10 b6 = some (z (2 + j7)) := (congrFun (N14.1.2.2.1 10 (by decide)) b6).trans hb7
            obtain ⟨x21, ex21⟩ : ∃ y : Int32, y = xi + 1 := ⟨_, rfl⟩
            refine lv_iinc (v := x21) (lv' := [(2, .int x21), (3, .ref b4), (0, .ref (z 0)), (1, .ref a)]) hx hb dX5_reopenInAisle_52 hl (k := 1) rfl (by rw [ex21]; rfl) (by decide) rfl (fun ls hl => ?_)
            refine lv_goto (tgt := 2) hx hb dX5_reopenInAisle_55 (by decide) ?_
            exact ih _ (i + 1) x21  H locs ls hP hD hS (lv_sub hl [0, 2, 3] rfl) (by omega) K14 (by rw [ex21, hi]; exact nI_1 i) him
  exact loop 13 _ 0 0  _ _ _ hP hD hS (lv_sub hl [0, 1, 2] rfl) (by omega) hI.kp rfl (Nat.zero_le _)
theorem dX5_reopenOfArticle_0 : decode cX5_reopenOfArticle 0 = .ok (.iconst 0, 1) := by decide +kernel
theorem dX5_reopenOfArticle_1 : decode cX5_reopenOfArticle 1 = .ok (.istore_n 2, 1) := by decide +kernel
theorem dX5_reopenOfArticle_2 : decode cX5_reopenOfArticle 2 = .ok (.iload_n 2, 1) := by decide +kernel
theorem dX5_reopenOfArticle_3 : decode cX5_reopenOfArticle 3 = .ok (.aload_n 0, 1) := by decide +kernel
theorem dX5_reopenOfArticle_4 : decode cX5_reopenOfArticle 4 = .ok (.getfield 36, 3) := by decide +kernel
theorem dX5_reopenOfArticle_7 : decode cX5_reopenOfArticle 7 = .ok (.invokevirtual 65, 3) := by decide +kernel
theorem dX5_reopenOfArticle_10 : decode cX5_reopenOfArticle 10 = .ok (.if_icmp .ge 45, 3) := by decide +kernel
theorem dX5_reopenOfArticle_13 : decode cX5_reopenOfArticle 13 = .ok (.aload_n 0, 1) := by decide +kernel
theorem dX5_reopenOfArticle_14 : decode cX5_reopenOfArticle 14 = .ok (.getfield 36, 3) := by decide +kernel
theorem dX5_reopenOfArticle_17 : decode cX5_reopenOfArticle 17 = .ok (.iload_n 2, 1) := by decide +kernel
theorem dX5_reopenOfArticle_18 : decode cX5_reopenOfArticle 18 = .ok (.invokevirtual 100, 3) := by decide +kernel
theorem dX5_reopenOfArticle_21 : decode cX5_reopenOfArticle 21 = .ok (.checkcast 104, 3) := by decide +kernel
theorem dX5_reopenOfArticle_24 : decode cX5_reopenOfArticle 24 = .ok (.astore_n 3, 1) := by decide +kernel
theorem dX5_reopenOfArticle_25 : decode cX5_reopenOfArticle 25 = .ok (.aload_n 3, 1) := by decide +kernel
theorem dX5_reopenOfArticle_26 : decode cX5_reopenOfArticle 26 = .ok (.getfield 106, 3) := by decide +kernel
theorem dX5_reopenOfArticle_29 : decode cX5_reopenOfArticle 29 = .ok (.aload_n 1, 1) := by decide +kernel
theorem dX5_reopenOfArticle_30 : decode cX5_reopenOfArticle 30 = .ok (.if_acmp .ne 19, 3) := by decide +kernel
theorem dX5_reopenOfArticle_33 : decode cX5_reopenOfArticle 33 = .ok (.aload_n 3, 1) := by decide +kernel
theorem dX5_reopenOfArticle_34 : decode cX5_reopenOfArticle 34 = .ok (.getfield 173, 3) := by decide +kernel
theorem dX5_reopenOfArticle_37 : decode cX5_reopenOfArticle 37 = .ok (.bipush 112, 2) := by decide +kernel
theorem dX5_reopenOfArticle_39 : decode cX5_reopenOfArticle 39 = .ok (.if_icmp .ne 10, 3) := by decide +kernel
theorem dX5_reopenOfArticle_42 : decode cX5_reopenOfArticle 42 = .ok (.aload_n 0, 1) := by decide +kernel
theorem dX5_reopenOfArticle_43 : decode cX5_reopenOfArticle 43 = .ok (.aload_n 3, 1) := by decide +kernel
theorem dX5_reopenOfArticle_44 : decode cX5_reopenOfArticle 44 = .ok (.bipush 117, 2) := by decide +kernel
theorem dX5_reopenOfArticle_46 : decode cX5_reopenOfArticle 46 = .ok (.invokevirtual 179, 3) := by decide +kernel
theorem dX5_reopenOfArticle_49 : decode cX5_reopenOfArticle 49 = .ok (.iinc 2 1, 3) := by decide +kernel
theorem dX5_reopenOfArticle_52 : decode cX5_reopenOfArticle 52 = .ok (.goto (-50), 3) := by decide +kernel
theorem dX5_reopenOfArticle_55 : decode cX5_reopenOfArticle 55 = .ok (.return_, 1) := by decide +kernel
set_option maxHeartbeats 4000000 in
set_option maxRecDepth 100000 in
theorem c_X5_reopenOfArticle (l : Launch) (hl0 : l.stackTraces = false) (g : kG) (e0 : Nat) (z : Nat → Nat) (S : wPS) (sz : Nat) (hI : Inv z e0 S) (a : Nat) (oa : Ob S 1 a) : kM l g e0 yX5_reopenOfArticle cX5_reopenOfArticle 4 none 3 64 0 0 [.ref (z 0), .ref a] S sz (pU (fun T => Kp z S T)) (fun E => False) := by
  refine kM.of (by decide) (Nat.le_of_ble_eq_true rfl) ?_
  intro p e s m below meth c ls B hin
  obtain ⟨F, hr, hlk, hte, hP, hK, hD, hE, hS, hA, hl, hsz⟩ := B
  subst hsz
  have hx := F.1
  have hb := F.2.1
  have hl : lv_has ls 4 [(0, .ref (z 0)), (1, .ref a)] := hl
  obtain ⟨m1, hm1, hL1⟩ := hI.lines
  refine lv_iconst (v := 0) hx hb dX5_reopenOfArticle_0 (by decide) ?_
  refine lv_istore_n (lv' := [(2, .int 0), (0, .ref (z 0)), (1, .ref a)]) hx hb dX5_reopenOfArticle_1 rfl hl (by decide) rfl (fun ls hl => ?_)
  have loop : ∀ (fu : Nat) (T0 : wPS) (i : Nat) (xi : Int32) (H : Heap) (locs : List Loc) (ls : Array Slot), va_P (kD g) vwCl (kW g T0) H → va_D (kA (pL S) s.heap.size) (kW g T0) → va_S (kA (pL S) s.heap.size) s.heap H locs → lv_has ls 4 [(2, .int xi), (0, .ref (z 0)), (1, .ref a)] → m1 - i < fu → (Kp z S T0) → (xi = nI i) → (i ≤ m1) → W p l e ({ frames := 3, cells := 0, slots := 0, locals := 64 }) s m ([.ref (z 0), .ref a] : List Value).toArray below meth c H locs 0 0 (vx_MQ below (kQ g S s.heap.size (pU (fun T => Kp z S T))) (kX g S s.heap.size (fun E => False)) ([.ref (z 0), .ref a] : List Value).toArray s 0 0 (kA (pL S) s.heap.size)) (F0 m 2 ls []) := by
    intro fu
    induction fu with
    | zero => intro T0 i xi H locs ls hP hD hS hl hn hKp hi hin; exact absurd hn (Nat.not_lt_zero _)
    | succ fu ih =>
      intro T0 i xi H locs ls hP hD hS hl hn hKp hi hin
      have hLT : LI T0 e0 (z 11) 2 m1 := LI.keep hKp.1 hL1
      refine lv_iload_n hx hb dX5_reopenOfArticle_2 rfl (lv_at hl 0 rfl) ?_
      refine lv_aload_n hx hb dX5_reopenOfArticle_3 rfl (lv_at hl 1 rfl) ?_
      refine rs_Pickwave_lines (b := z 11) F hK hP ((hI.keep hKp.1).1.1 0 (by decide)) ((hI.keep hKp.1).2.1.2.2.2.2.1) kw_28 dX5_reopenOfArticle_4 ?_
      refine kcallI (kV (n := 0) (As := []) (rest := [.int xi]) (b := (z 11)) (C := RJx4a65c) F hE hK hP hD hS hA (c_Jx4a65c_size_8abf5 l hl0 g e0 T0 _ (z 11) ((hI.keep hKp.1).1.1 11 (by decide))) (rr_ArrayList hK hP ((hI.keep hKp.1).1.1 11 (by decide))) kw_109 kw_110 kw_111 kw_26 kw_112 (by decide +kernel) ⟨Nat.le_of_ble_eq_true rfl, Nat.le_of_ble_eq_true rfl⟩ rfl hl.1 rfl (Nat.le_of_ble_eq_true rfl) dX5_reopenOfArticle_7 ⟨Nat.le_of_ble_eq_true rfl, Nat.le_of_ble_eq_true rfl⟩) rfl hD hS hA (fun _ _ _ _ _ h => False.elim h) (fun r1 T1 H locs hp hP hD hS => ?_)
      obtain ⟨hT, hp2⟩ := hp
      have hT := hT.symm
      subst hT
      refine lv_icmp_ge (tgt := 55) hx hb dX5_reopenOfArticle_10 (by decide) (fun c3 => ?_) (fun c3 => ?_)
      · exact kEndV F hr hlk hP hD hS (Nat.le_of_ble_eq_true rfl) (Nat.le_of_ble_eq_true rfl) dX5_reopenOfArticle_55 ⟨rfl, hKp⟩
      · obtain ⟨him, hx0, hx1⟩ := klp hLT ⟨hm1, hin⟩ hi hp2 c3
        refine lv_aload_n hx hb dX5_reopenOfArticle_13 rfl (lv_at hl 1 rfl) ?_
        refine rs_Pickwave_lines (b := z 11) F hK hP ((hI.keep hKp.1).1.1 0 (by decide)) ((hI.keep hKp.1).2.1.2.2.2.2.1) kw_28 dX5_reopenOfArticle_14 ?_
        refine lv_iload_n hx hb dX5_reopenOfArticle_17 rfl (lv_at hl 0 rfl) ?_
        refine kcallR (kV (n := 1) (As := [.int xi]) (rest := []) (b := (z 11)) (C := RJx4a65c) F hE hK hP hD hS hA (c_Jx4a65c_get_915e3 l hl0 g e0 T0 _ (z 11) 2 _ xi ((hI.keep hKp.1).1.1 11 (by decide)) hLT hx0 hx1 (by omega)) (rr_ArrayList hK hP ((hI.keep hKp.1).1.1 11 (by decide))) kw_203 kw_204 kw_205 kw_26 kw_206 (by decide +kernel) ⟨Nat.le_of_ble_eq_true rfl, Nat.le_of_ble_eq_true rfl⟩ rfl hl.1 rfl (Nat.le_of_ble_eq_true rfl) dX5_reopenOfArticle_18 ⟨Nat.le_of_ble_eq_true rfl, Nat.le_of_ble_eq_true rfl⟩) rfl hD hS hA (fun _ _ _ _ _ h => False.elim h) (fun b4 T4 H locs hp hP hD hS => ?_)
        obtain ⟨hT, hp5⟩ := hp
        have hT := hT.symm
        subst hT
        refine va_castS hx hb F.2.2.2.1 (F.2.2.2.2 _ kw_283) (hK.1 3 _ rfl).2 (rr_Line hK hP hp5.1) dX5_reopenOfArticle_21 ?_
        refine lv_astore_n (lv' := [(3, .ref b4), (2, .int xi), (0, .ref (z 0)), (1, .ref a)]) hx hb dX5_reopenOfArticle_24 rfl hl (by decide) rfl (fun ls hl => ?_)
        refine lv_aload_n hx hb dX5_reopenOfArticle_25 rfl (lv_at hl 0 rfl) ?_
        obtain ⟨b6, hb6, ob6⟩ := (hI.keep hKp.1).2.2.2.2.2.2.1 b4 hp5.1
        refine rs_Line_article (b := b6) F hK hP hp5.1 hb6 kw_284 dX5_reopenOfArticle_26 ?_
        refine lv_aload_n hx hb dX5_reopenOfArticle_29 rfl (lv_at hl 3 rfl) ?_
        refine lv_acmp_ne (rx := (some b6)) (ry := (some a)) (tgt := 49) hx hb dX5_reopenOfArticle_30 (by decide) (fun c7 => ?_) (fun c7 => ?_)
        · obtain ⟨x8, ex8⟩ : ∃ y : Int32, y = xi + 1 := ⟨_, rfl⟩
          refine lv_iinc (v := x8) (lv' := [(2, .int x8), (3, .ref b4), (0, .ref (z 0)), (1, .ref a)]) hx hb dX5_reopenOfArticle_49 hl (k := 1) rfl (by rw [ex8]; rfl) (by decide) rfl (fun ls hl => ?_)
          refine lv_goto (tgt := 2) hx hb dX5_reopenOfArticle_52 (by decide) ?_
          exact ih _ (i + 1) x8  H locs ls hP hD hS (lv_sub hl [0, 2, 3] rfl) (by omega) hKp (by rw [ex8, hi]; exact nI_1 i) him
        · refine lv_aload_n hx hb dX5_reopenOfArticle_33 rfl (lv_at hl 0 rfl) ?_
          refine rg_Line_state F hK hP hp5.1 kw_322 dX5_reopenOfArticle_34 ?_
          refine lv_topi (fun x9 ex9 => ?_)
          refine lv_bipush (v := 112) hx hb dX5_reopenOfArticle_37 (by decide) ?_
          refine lv_icmp_ne (tgt := 49) hx hb dX5_reopenOfArticle_39 (by decide) (fun c10 => ?_) (fun c10 => ?_)
          · obtain ⟨x11, ex11⟩ : ∃ y : Int32, y = xi + 1 := ⟨_, rfl⟩
            refine lv_iinc (v := x11) (lv' := [(2, .int x11), (3, .ref b4), (0, .ref (z 0)), (1, .ref a)]) hx hb dX5_reopenOfArticle_49 hl (k := 1) rfl (by rw [ex11]; rfl) (by decide) rfl (fun ls hl => ?_)
            refine lv_goto (tgt := 2) hx hb dX5_reopenOfArticle_52 (by decide) ?_
            exact ih _ (i + 1) x11  H locs ls hP hD hS (lv_sub hl [0, 2, 3] rfl) (by omega) hKp (by rw [ex11, hi]; exact nI_1 i) him
          · refine lv_aload_n hx hb dX5_reopenOfArticle_42 rfl (lv_at hl 2 rfl) ?_
            refine lv_aload_n hx hb dX5_reopenOfArticle_43 rfl (lv_at hl 0 rfl) ?_
            refine lv_bipush (v := 117) hx hb dX5_reopenOfArticle_44 (by decide) ?_
            refine kcallU (kV (n := 2) (As := [.ref b4, .int 117]) (rest := []) (b := (z 0)) (C := RX5) F hE hK hP hD hS hA (c_X5_scan l hl0 g e0 z T0 _ (hI.keep hKp.1) b4 hp5.1 117 ⟨rfl, rfl⟩) (rr_Pickwave hK hP ((hI.keep hKp.1).1.1 0 (by decide))) kw_323 kw_324 kw_325 kw_2 kw_326 (by decide +kernel) ⟨Nat.le_of_ble_eq_true rfl, Nat.le_of_ble_eq_true rfl⟩ rfl hl.1 rfl (Nat.le_of_ble_eq_true rfl) dX5_reopenOfArticle_46 ⟨Nat.le_of_ble_eq_true rfl, Nat.le_of_ble_eq_true rfl⟩) rfl hD hS hA (fun _ _ _ _ _ h => False.elim h) (fun T12 H locs hp hP hD hS => ?_)
            have N13 : Kp z T0 T12 := hp
            have K13 : Kp z S T12 := Kp.trans hKp N13
            have I13 : Inv z e0 T12 := hI.keep K13.1
            have o14 : Ob T12 1 a := N13.1.ob (hKp.1.ob oa)
            have o15 : Ob T12 2 b4 := N13.1.ob hp5.1
            have o16 : Ob T12 1 b6 := N13.1.ob ob6
            have g17 : pG T12 21 b4 = some b6 := (congrFun (N13.1.2.2.1 21 (by decide)) b4).trans hb6
            obtain ⟨x18, ex18⟩ : ∃ y : Int32, y = xi + 1 := ⟨_, rfl⟩
            refine lv_iinc (v := x18) (lv' := [(2, .int x18), (3, .ref b4), (0, .ref (z 0)), (1, .ref a)]) hx hb dX5_reopenOfArticle_49 hl (k := 1) rfl (by rw [ex18]; rfl) (by decide) rfl (fun ls hl => ?_)
            refine lv_goto (tgt := 2) hx hb dX5_reopenOfArticle_52 (by decide) ?_
            exact ih _ (i + 1) x18  H locs ls hP hD hS (lv_sub hl [0, 2, 3] rfl) (by omega) K13 (by rw [ex18, hi]; exact nI_1 i) him
  exact loop 13 _ 0 0  _ _ _ hP hD hS (lv_sub hl [0, 1, 2] rfl) (by omega) hI.kp rfl (Nat.zero_le _)
theorem dX5_promiseAll_0 : decode cX5_promiseAll 0 = .ok (.iconst 0, 1) := by decide +kernel
theorem dX5_promiseAll_1 : decode cX5_promiseAll 1 = .ok (.istore 4, 2) := by decide +kernel
theorem dX5_promiseAll_3 : decode cX5_promiseAll 3 = .ok (.iconst 0, 1) := by decide +kernel
theorem dX5_promiseAll_4 : decode cX5_promiseAll 4 = .ok (.istore 5, 2) := by decide +kernel
theorem dX5_promiseAll_6 : decode cX5_promiseAll 6 = .ok (.iload 5, 2) := by decide +kernel
theorem dX5_promiseAll_8 : decode cX5_promiseAll 8 = .ok (.aload_n 0, 1) := by decide +kernel
theorem dX5_promiseAll_9 : decode cX5_promiseAll 9 = .ok (.getfield 36, 3) := by decide +kernel
theorem dX5_promiseAll_12 : decode cX5_promiseAll 12 = .ok (.invokevirtual 65, 3) := by decide +kernel
theorem dX5_promiseAll_15 : decode cX5_promiseAll 15 = .ok (.if_icmp .ge 88, 3) := by decide +kernel
theorem dX5_promiseAll_18 : decode cX5_promiseAll 18 = .ok (.aload_n 0, 1) := by decide +kernel
theorem dX5_promiseAll_19 : decode cX5_promiseAll 19 = .ok (.getfield 36, 3) := by decide +kernel
theorem dX5_promiseAll_22 : decode cX5_promiseAll 22 = .ok (.iload 5, 2) := by decide +kernel
theorem dX5_promiseAll_24 : decode cX5_promiseAll 24 = .ok (.invokevirtual 100, 3) := by decide +kernel
theorem dX5_promiseAll_27 : decode cX5_promiseAll 27 = .ok (.checkcast 104, 3) := by decide +kernel
theorem dX5_promiseAll_30 : decode cX5_promiseAll 30 = .ok (.astore 6, 2) := by decide +kernel
theorem dX5_promiseAll_32 : decode cX5_promiseAll 32 = .ok (.aload 6, 2) := by decide +kernel
theorem dX5_promiseAll_34 : decode cX5_promiseAll 34 = .ok (.getfield 203, 3) := by decide +kernel
theorem dX5_promiseAll_37 : decode cX5_promiseAll 37 = .ok (.iload_n 1, 1) := by decide +kernel
theorem dX5_promiseAll_38 : decode cX5_promiseAll 38 = .ok (.if_icmp .ne 26, 3) := by decide +kernel
theorem dX5_promiseAll_41 : decode cX5_promiseAll 41 = .ok (.aload 6, 2) := by decide +kernel
theorem dX5_promiseAll_43 : decode cX5_promiseAll 43 = .ok (.getfield 114, 3) := by decide +kernel
theorem dX5_promiseAll_46 : decode cX5_promiseAll 46 = .ok (.iload_n 2, 1) := by decide +kernel
theorem dX5_promiseAll_47 : decode cX5_promiseAll 47 = .ok (.if_icmp .ne 17, 3) := by decide +kernel
theorem dX5_promiseAll_50 : decode cX5_promiseAll 50 = .ok (.aload 6, 2) := by decide +kernel
theorem dX5_promiseAll_52 : decode cX5_promiseAll 52 = .ok (.getfield 173, 3) := by decide +kernel
theorem dX5_promiseAll_55 : decode cX5_promiseAll 55 = .ok (.bipush 111, 2) := by decide +kernel
theorem dX5_promiseAll_57 : decode cX5_promiseAll 57 = .ok (.if_icmp .ne 7, 3) := by decide +kernel
theorem dX5_promiseAll_60 : decode cX5_promiseAll 60 = .ok (.iconst 1, 1) := by decide +kernel
theorem dX5_promiseAll_61 : decode cX5_promiseAll 61 = .ok (.goto 4, 3) := by decide +kernel
theorem dX5_promiseAll_64 : decode cX5_promiseAll 64 = .ok (.iconst 0, 1) := by decide +kernel
theorem dX5_promiseAll_65 : decode cX5_promiseAll 65 = .ok (.istore 7, 2) := by decide +kernel
theorem dX5_promiseAll_67 : decode cX5_promiseAll 67 = .ok (.iload 7, 2) := by decide +kernel
theorem dX5_promiseAll_69 : decode cX5_promiseAll 69 = .ok (.ifCond .eq 28, 3) := by decide +kernel
theorem dX5_promiseAll_72 : decode cX5_promiseAll 72 = .ok (.aload 6, 2) := by decide +kernel
theorem dX5_promiseAll_74 : decode cX5_promiseAll 74 = .ok (.invokestatic 315, 3) := by decide +kernel
theorem dX5_promiseAll_77 : decode cX5_promiseAll 77 = .ok (.ifCond .eq 20, 3) := by decide +kernel
theorem dX5_promiseAll_80 : decode cX5_promiseAll 80 = .ok (.aload_n 0, 1) := by decide +kernel
theorem dX5_promiseAll_81 : decode cX5_promiseAll 81 = .ok (.aload 6, 2) := by decide +kernel
theorem dX5_promiseAll_83 : decode cX5_promiseAll 83 = .ok (.bipush 112, 2) := by decide +kernel
theorem dX5_promiseAll_85 : decode cX5_promiseAll 85 = .ok (.invokevirtual 179, 3) := by decide +kernel
theorem dX5_promiseAll_88 : decode cX5_promiseAll 88 = .ok (.aload 6, 2) := by decide +kernel
theorem dX5_promiseAll_90 : decode cX5_promiseAll 90 = .ok (.iload_n 3, 1) := by decide +kernel
theorem dX5_promiseAll_91 : decode cX5_promiseAll 91 = .ok (.putfield 226, 3) := by decide +kernel
theorem dX5_promiseAll_94 : decode cX5_promiseAll 94 = .ok (.iinc 4 1, 3) := by decide +kernel
theorem dX5_promiseAll_97 : decode cX5_promiseAll 97 = .ok (.iinc 5 1, 3) := by decide +kernel
theorem dX5_promiseAll_100 : decode cX5_promiseAll 100 = .ok (.goto (-94), 3) := by decide +kernel
theorem dX5_promiseAll_103 : decode cX5_promiseAll 103 = .ok (.iload 4, 2) := by decide +kernel
theorem dX5_promiseAll_105 : decode cX5_promiseAll 105 = .ok (.ireturn, 1) := by decide +kernel
set_option maxHeartbeats 4000000 in
set_option maxRecDepth 100000 in
theorem c_X5_promiseAll (l : Launch) (hl0 : l.stackTraces = false) (g : kG) (e0 : Nat) (z : Nat → Nat) (S : wPS) (sz : Nat) (hI : Inv z e0 S) (ca am wn : Int32) : kM l g e0 yX5_promiseAll cX5_promiseAll 8 (some .int) 3 64 0 0 [.ref (z 0), .int ca, .int am, .int wn] S sz (pI (fun r T => Kp z S T ∧ (pF S 72 (z 11) = 0 → r = 0))) (fun E => False) := by
  refine kM.of (by decide) (Nat.le_of_ble_eq_true rfl) ?_
  intro p e s m below meth c ls B hin
  obtain ⟨F, hr, hlk, hte, hP, hK, hD, hE, hS, hA, hl, hsz⟩ := B
  subst hsz
  have hx := F.1
  have hb := F.2.1
  have hl : lv_has ls 8 [(0, .ref (z 0)), (1, .int ca), (2, .int am), (3, .int wn)] := hl
  obtain ⟨m1, hm1, hL1⟩ := hI.lines
  refine lv_iconst (v := 0) hx hb dX5_promiseAll_0 (by decide) ?_
  refine lv_istore (lv' := [(4, .int 0), (0, .ref (z 0)), (1, .int ca), (2, .int am), (3, .int wn)]) hx hb dX5_promiseAll_1 hl (by decide) rfl (fun ls hl => ?_)
  refine lv_iconst (v := 0) hx hb dX5_promiseAll_3 (by decide) ?_
  refine lv_istore (lv' := [(5, .int 0), (4, .int 0), (0, .ref (z 0)), (1, .int ca), (2, .int am), (3, .int wn)]) hx hb dX5_promiseAll_4 hl (by decide) rfl (fun ls hl => ?_)
  have loop : ∀ (fu : Nat) (T0 : wPS) (i : Nat) (xi cn : Int32) (H : Heap) (locs : List Loc) (ls : Array Slot), va_P (kD g) vwCl (kW g T0) H → va_D (kA (pL S) s.heap.size) (kW g T0) → va_S (kA (pL S) s.heap.size) s.heap H locs → lv_has ls 8 [(5, .int xi), (4, .int cn), (0, .ref (z 0)), (1, .int ca), (2, .int am), (3, .int wn)] → m1 - i < fu → (Kp z S T0) → (xi = nI i) → (i ≤ m1) → (i = 0 → cn = 0) → W p l e ({ frames := 3, cells := 0, slots := 0, locals := 64 }) s m ([.ref (z 0), .int ca, .int am, .int wn] : List Value).toArray below meth c H locs 0 0 (vx_MQ below (kQ g S s.heap.size (pI (fun r T => Kp z S T ∧ (pF S 72 (z 11) = 0 → r = 0)))) (kX g S s.heap.size (fun E => False)) ([.ref (z 0), .int ca, .int am, .int wn] : List Value).toArray s 0 0 (kA (pL S) s.heap.size)) (F0 m 6 ls []) := by
    intro fu
    induction fu with
    | zero => intro T0 i xi cn H locs ls hP hD hS hl hn hKp hi hin hc; exact absurd hn (Nat.not_lt_zero _)
    | succ fu ih =>
      intro T0 i xi cn H locs ls hP hD hS hl hn hKp hi hin hc
      have hLT : LI T0 e0 (z 11) 2 m1 := LI.keep hKp.1 hL1
      refine lv_iload hx hb dX5_promiseAll_6 (lv_at hl 0 rfl) ?_
      refine lv_aload_n hx hb dX5_promiseAll_8 rfl (lv_at hl 2 rfl) ?_
      refine rs_Pickwave_lines (b := z 11) F hK hP ((hI.keep hKp.1).1.1 0 (by decide)) ((hI.keep hKp.1).2.1.2.2.2.2.1) kw_28 dX5_promiseAll_9 ?_
      refine kcallI (kV (n := 0) (As := []) (rest := [.int xi]) (b := (z 11)) (C := RJx4a65c) F hE hK hP hD hS hA (c_Jx4a65c_size_8abf5 l hl0 g e0 T0 _ (z 11) ((hI.keep hKp.1).1.1 11 (by decide))) (rr_ArrayList hK hP ((hI.keep hKp.1).1.1 11 (by decide))) kw_109 kw_110 kw_111 kw_26 kw_112 (by decide +kernel) ⟨Nat.le_of_ble_eq_true rfl, Nat.le_of_ble_eq_true rfl⟩ rfl hl.1 rfl (Nat.le_of_ble_eq_true rfl) dX5_promiseAll_12 ⟨Nat.le_of_ble_eq_true rfl, Nat.le_of_ble_eq_true rfl⟩) rfl hD hS hA (fun _ _ _ _ _ h => False.elim h) (fun r1 T1 H locs hp hP hD hS => ?_)
      obtain ⟨hT, hp2⟩ := hp
      have hT := hT.symm
      subst hT
      refine lv_icmp_ge (tgt := 103) hx hb dX5_promiseAll_15 (by decide) (fun c3 => ?_) (fun c3 => ?_)
      · refine lv_iload hx hb dX5_promiseAll_103 (lv_at hl 1 rfl) ?_
        exact kEndI F hr rfl hlk hP hD hS (Nat.le_of_ble_eq_true rfl) (Nat.le_of_ble_eq_true rfl) dX5_promiseAll_105 ⟨_, rfl, ⟨hKp, (fun h => hc (by have h9 : nI m1 = nI 0 := hL1.1.symm.trans h; have := (nI_eq (by omega) (by decide)).mp h9; omega))⟩⟩
      · obtain ⟨him, hx0, hx1⟩ := klp hLT ⟨hm1, hin⟩ hi hp2 c3
        refine lv_aload_n hx hb dX5_promiseAll_18 rfl (lv_at hl 2 rfl) ?_
        refine rs_Pickwave_lines (b := z 11) F hK hP ((hI.keep hKp.1).1.1 0 (by decide)) ((hI.keep hKp.1).2.1.2.2.2.2.1) kw_28 dX5_promiseAll_19 ?_
        refine lv_iload hx hb dX5_promiseAll_22 (lv_at hl 0 rfl) ?_
        refine kcallR (kV (n := 1) (As := [.int xi]) (rest := []) (b := (z 11)) (C := RJx4a65c) F hE hK hP hD hS hA (c_Jx4a65c_get_915e3 l hl0 g e0 T0 _ (z 11) 2 _ xi ((hI.keep hKp.1).1.1 11 (by decide)) hLT hx0 hx1 (by omega)) (rr_ArrayList hK hP ((hI.keep hKp.1).1.1 11 (by decide))) kw_203 kw_204 kw_205 kw_26 kw_206 (by decide +kernel) ⟨Nat.le_of_ble_eq_true rfl, Nat.le_of_ble_eq_true rfl⟩ rfl hl.1 rfl (Nat.le_of_ble_eq_true rfl) dX5_promiseAll_24 ⟨Nat.le_of_ble_eq_true rfl, Nat.le_of_ble_eq_true rfl⟩) rfl hD hS hA (fun _ _ _ _ _ h => False.elim h) (fun b4 T4 H locs hp hP hD hS => ?_)
        obtain ⟨hT, hp5⟩ := hp
        have hT := hT.symm
        subst hT
        refine va_castS hx hb F.2.2.2.1 (F.2.2.2.2 _ kw_283) (hK.1 3 _ rfl).2 (rr_Line hK hP hp5.1) dX5_promiseAll_27 ?_
        refine lv_astore (lv' := [(6, .ref b4), (5, .int xi), (4, .int cn), (0, .ref (z 0)), (1, .int ca), (2, .int am), (3, .int wn)]) hx hb dX5_promiseAll_30 hl (by decide) rfl (fun ls hl => ?_)
        refine lv_aload hx hb dX5_promiseAll_32 (lv_at hl 0 rfl) ?_
        refine rg_Line_carrier F hK hP hp5.1 kw_507 dX5_promiseAll_34 ?_
        refine lv_topi (fun x6 ex6 => ?_)
        refine lv_iload_n hx hb dX5_promiseAll_37 rfl (lv_at hl 4 rfl) ?_
        refine lv_icmp_ne (tgt := 64) hx hb dX5_promiseAll_38 (by decide) (fun c7 => ?_) (fun c7 => ?_)
        · refine lv_iconst (v := 0) hx hb dX5_promiseAll_64 (by decide) ?_
          refine lv_istore (lv' := [(7, .int 0), (6, .ref b4), (5, .int xi), (4, .int cn), (0, .ref (z 0)), (1, .int ca), (2, .int am), (3, .int wn)]) hx hb dX5_promiseAll_65 hl (by decide) rfl (fun ls hl => ?_)
          refine lv_iload hx hb dX5_promiseAll_67 (lv_at hl 0 rfl) ?_
          refine lv_if_eq (tgt := 97) hx hb dX5_promiseAll_69 (by decide) (fun c8 => ?_) (fun c8 => ?_)
          · obtain ⟨x9, ex9⟩ : ∃ y : Int32, y = xi + 1 := ⟨_, rfl⟩
            refine lv_iinc (v := x9) (lv' := [(5, .int x9), (7, .int 0), (6, .ref b4), (4, .int cn), (0, .ref (z 0)), (1, .int ca), (2, .int am), (3, .int wn)]) hx hb dX5_promiseAll_97 hl (k := 2) rfl (by rw [ex9]; rfl) (by decide) rfl (fun ls hl => ?_)
            refine lv_goto (tgt := 6) hx hb dX5_promiseAll_100 (by decide) ?_
            exact ih _ (i + 1) x9 cn H locs ls hP hD hS (lv_sub hl [0, 3, 4, 5, 6, 7] rfl) (by omega) hKp (by rw [ex9, hi]; exact nI_1 i) him (fun h => absurd h (by omega))
          · exact absurd (by decide) c8
        · refine lv_aload hx hb dX5_promiseAll_41 (lv_at hl 0 rfl) ?_
          refine rg_Line_amount F hK hP hp5.1 kw_285 dX5_promiseAll_43 ?_
          refine lv_topi (fun x10 ex10 => ?_)
          refine lv_iload_n hx hb dX5_promiseAll_46 rfl (lv_at hl 5 rfl) ?_
          refine lv_icmp_ne (tgt := 64) hx hb dX5_promiseAll_47 (by decide) (fun c11 => ?_) (fun c11 => ?_)
          · refine lv_iconst (v := 0) hx hb dX5_promiseAll_64 (by decide) ?_
            refine lv_istore (lv' := [(7, .int 0), (6, .ref b4), (5, .int xi), (4, .int cn), (0, .ref (z 0)), (1, .int ca), (2, .int am), (3, .int wn)]) hx hb dX5_promiseAll_65 hl (by decide) rfl (fun ls hl => ?_)
            refine lv_iload hx hb dX5_promiseAll_67 (lv_at hl 0 rfl) ?_
            refine lv_if_eq (tgt := 97) hx hb dX5_promiseAll_69 (by decide) (fun c12 => ?_) (fun c12 => ?_)
            · obtain ⟨x13, ex13⟩ : ∃ y : Int32, y = xi + 1 := ⟨_, rfl⟩
              refine lv_iinc (v := x13) (lv' := [(5, .int x13), (7, .int 0), (6, .ref b4), (4, .int cn), (0, .ref (z 0)), (1, .int ca), (2, .int am), (3, .int wn)]) hx hb dX5_promiseAll_97 hl (k := 2) rfl (by rw [ex13]; rfl) (by decide) rfl (fun ls hl => ?_)
              refine lv_goto (tgt := 6) hx hb dX5_promiseAll_100 (by decide) ?_
              exact ih _ (i + 1) x13 cn H locs ls hP hD hS (lv_sub hl [0, 3, 4, 5, 6, 7] rfl) (by omega) hKp (by rw [ex13, hi]; exact nI_1 i) him (fun h => absurd h (by omega))
            · exact absurd (by decide) c12
          · refine lv_aload hx hb dX5_promiseAll_50 (lv_at hl 0 rfl) ?_
            refine rg_Line_state F hK hP hp5.1 kw_322 dX5_promiseAll_52 ?_
            refine lv_topi (fun x14 ex14 => ?_)
            refine lv_bipush (v := 111) hx hb dX5_promiseAll_55 (by decide) ?_
            refine lv_icmp_ne (tgt := 64) hx hb dX5_promiseAll_57 (by decide) (fun c15 => ?_) (fun c15 => ?_)
            · refine lv_iconst (v := 0) hx hb dX5_promiseAll_64 (by decide) ?_
              refine lv_istore (lv' := [(7, .int 0), (6, .ref b4), (5, .int xi), (4, .int cn), (0, .ref (z 0)), (1, .int ca), (2, .int am), (3, .int wn)]) hx hb dX5_promiseAll_65 hl (by decide) rfl (fun ls hl => ?_)
              refine lv_iload hx hb dX5_promiseAll_67 (lv_at hl 0 rfl) ?_
              refine lv_if_eq (tgt := 97) hx hb dX5_promiseAll_69 (by decide) (fun c16 => ?_) (fun c16 => ?_)
              · obtain ⟨x17, ex17⟩ : ∃ y : Int32, y = xi + 1 := ⟨_, rfl⟩
                refine lv_iinc (v := x17) (lv' := [(5, .int x17), (7, .int 0), (6, .ref b4), (4, .int cn), (0, .ref (z 0)), (1, .int ca), (2, .int am), (3, .int wn)]) hx hb dX5_promiseAll_97 hl (k := 2) rfl (by rw [ex17]; rfl) (by decide) rfl (fun ls hl => ?_)
                refine lv_goto (tgt := 6) hx hb dX5_promiseAll_100 (by decide) ?_
                exact ih _ (i + 1) x17 cn H locs ls hP hD hS (lv_sub hl [0, 3, 4, 5, 6, 7] rfl) (by omega) hKp (by rw [ex17, hi]; exact nI_1 i) him (fun h => absurd h (by omega))
              · exact absurd (by decide) c16
            · refine lv_iconst (v := 1) hx hb dX5_promiseAll_60 (by decide) ?_
              refine lv_goto (tgt := 65) hx hb dX5_promiseAll_61 (by decide) ?_
              refine lv_istore (lv' := [(7, .int 1), (6, .ref b4), (5, .int xi), (4, .int cn), (0, .ref (z 0)), (1, .int ca), (2, .int am), (3, .int wn)]) hx hb dX5_promiseAll_65 hl (by decide) rfl (fun ls hl => ?_)
              refine lv_iload hx hb dX5_promiseAll_67 (lv_at hl 0 rfl) ?_
              refine lv_if_eq (tgt := 97) hx hb dX5_promiseAll_69 (by decide) (fun c18 => ?_) (fun c18 => ?_)
              · exact absurd c18 (by decide)
              · refine lv_aload hx hb dX5_promiseAll_72 (lv_at hl 1 rfl) ?_
                refine kcallI (kSt (n := 1) (As := [.ref b4]) (rest := []) F hE hK hP hD hS hA (c_X5_canBePromised l hl0 g e0 z T0 _ (hI.keep hKp.1) b4 hp5.1) kw_561 kw_562 kw_2 kw_563 (by decide +kernel) ⟨Nat.le_of_ble_eq_true rfl, Nat.le_of_ble_eq_true rfl⟩ rfl hl.1 rfl (Nat.le_of_ble_eq_true rfl) dX5_promiseAll_74 ⟨Nat.le_of_ble_eq_true rfl, Nat.le_of_ble_eq_true rfl⟩) rfl hD hS hA (fun _ _ _ _ _ h => False.elim h) (fun r19 T19 H locs hp hP hD hS => ?_)
                obtain ⟨hT, hp20⟩ := hp
                have hT := hT.symm
                subst hT
                refine lv_if_eq (tgt := 97) hx hb dX5_promiseAll_77 (by decide) (fun c21 => ?_) (fun c21 => ?_)
                · obtain ⟨x22, ex22⟩ : ∃ y : Int32, y = xi + 1 := ⟨_, rfl⟩
                  refine lv_iinc (v := x22) (lv' := [(5, .int x22), (7, .int 1), (6, .ref b4), (4, .int cn), (0, .ref (z 0)), (1, .int ca), (2, .int am), (3, .int wn)]) hx hb dX5_promiseAll_97 hl (k := 2) rfl (by rw [ex22]; rfl) (by decide) rfl (fun ls hl => ?_)
                  refine lv_goto (tgt := 6) hx hb dX5_promiseAll_100 (by decide) ?_
                  exact ih _ (i + 1) x22 cn H locs ls hP hD hS (lv_sub hl [0, 3, 4, 5, 6, 7] rfl) (by omega) hKp (by rw [ex22, hi]; exact nI_1 i) him (fun h => absurd h (by omega))
                · refine lv_aload_n hx hb dX5_promiseAll_80 rfl (lv_at hl 4 rfl) ?_
                  refine lv_aload hx hb dX5_promiseAll_81 (lv_at hl 1 rfl) ?_
                  refine lv_bipush (v := 112) hx hb dX5_promiseAll_83 (by decide) ?_
                  refine kcallU (kV (n := 2) (As := [.ref b4, .int 112]) (rest := []) (b := (z 0)) (C := RX5) F hE hK hP hD hS hA (c_X5_scan l hl0 g e0 z T0 _ (hI.keep hKp.1) b4 hp5.1 112 ⟨rfl, rfl⟩) (rr_Pickwave hK hP ((hI.keep hKp.1).1.1 0 (by decide))) kw_323 kw_324 kw_325 kw_2 kw_326 (by decide +kernel) ⟨Nat.le_of_ble_eq_true rfl, Nat.le_of_ble_eq_true rfl⟩ rfl hl.1 rfl (Nat.le_of_ble_eq_true rfl) dX5_promiseAll_85 ⟨Nat.le_of_ble_eq_true rfl, Nat.le_of_ble_eq_true rfl⟩) rfl hD hS hA (fun _ _ _ _ _ h => False.elim h) (fun T23 H locs hp hP hD hS => ?_)
                  have N24 : Kp z T0 T23 := hp
                  have K24 : Kp z S T23 := Kp.trans hKp N24
                  have I24 : Inv z e0 T23 := hI.keep K24.1
                  have o25 : Ob T23 2 b4 := N24.1.ob hp5.1
                  refine lv_aload hx hb dX5_promiseAll_88 (lv_at hl 1 rfl) ?_
                  refine lv_iload_n hx hb dX5_promiseAll_90 rfl (lv_at hl 7 rfl) ?_
                  refine rp_Line_lastWave F hK hP hD hS o25 kw_560 dX5_promiseAll_91 (fun H locs hP hD hS => ?_)
                  obtain ⟨x26, ex26⟩ : ∃ y : Int32, y = cn + 1 := ⟨_, rfl⟩
                  refine lv_iinc (v := x26) (lv' := [(4, .int x26), (7, .int 1), (6, .ref b4), (5, .int xi), (0, .ref (z 0)), (1, .int ca), (2, .int am), (3, .int wn)]) hx hb dX5_promiseAll_94 hl (k := 3) rfl (by rw [ex26]; rfl) (by decide) rfl (fun ls hl => ?_)
                  obtain ⟨x27, ex27⟩ : ∃ y : Int32, y = xi + 1 := ⟨_, rfl⟩
                  refine lv_iinc (v := x27) (lv' := [(5, .int x27), (4, .int x26), (7, .int 1), (6, .ref b4), (0, .ref (z 0)), (1, .int ca), (2, .int am), (3, .int wn)]) hx hb dX5_promiseAll_97 hl (k := 3) rfl (by rw [ex27]; rfl) (by decide) rfl (fun ls hl => ?_)
                  refine lv_goto (tgt := 6) hx hb dX5_promiseAll_100 (by decide) ?_
                  exact ih _ (i + 1) x27 x26 H locs ls hP hD hS (lv_sub hl [0, 1, 4, 5, 6, 7] rfl) (by omega) (kp_setF K24 (by decide) (by decide)) (by rw [ex27, hi]; exact nI_1 i) him (fun h => absurd h (by omega))
  exact loop 13 _ 0 0 0 _ _ _ hP hD hS (lv_sub hl [0, 1, 2, 3, 4, 5] rfl) (by omega) hI.kp rfl (Nat.zero_le _) (fun _ => rfl)
theorem dX5_ship_0 : decode cX5_ship 0 = .ok (.aload_n 0, 1) := by decide +kernel
theorem dX5_ship_1 : decode cX5_ship 1 = .ok (.iload_n 1, 1) := by decide +kernel
theorem dX5_ship_2 : decode cX5_ship 2 = .ok (.invokevirtual 200, 3) := by decide +kernel
theorem dX5_ship_5 : decode cX5_ship 5 = .ok (.iconst 0, 1) := by decide +kernel
theorem dX5_ship_6 : decode cX5_ship 6 = .ok (.istore_n 2, 1) := by decide +kernel
theorem dX5_ship_7 : decode cX5_ship 7 = .ok (.iconst 0, 1) := by decide +kernel
theorem dX5_ship_8 : decode cX5_ship 8 = .ok (.istore_n 3, 1) := by decide +kernel
theorem dX5_ship_9 : decode cX5_ship 9 = .ok (.iload_n 3, 1) := by decide +kernel
theorem dX5_ship_10 : decode cX5_ship 10 = .ok (.aload_n 0, 1) := by decide +kernel
theorem dX5_ship_11 : decode cX5_ship 11 = .ok (.getfield 36, 3) := by decide +kernel
theorem dX5_ship_14 : decode cX5_ship 14 = .ok (.invokevirtual 65, 3) := by decide +kernel
theorem dX5_ship_17 : decode cX5_ship 17 = .ok (.if_icmp .ge 67, 3) := by decide +kernel
theorem dX5_ship_20 : decode cX5_ship 20 = .ok (.aload_n 0, 1) := by decide +kernel
theorem dX5_ship_21 : decode cX5_ship 21 = .ok (.getfield 36, 3) := by decide +kernel
theorem dX5_ship_24 : decode cX5_ship 24 = .ok (.iload_n 3, 1) := by decide +kernel
theorem dX5_ship_25 : decode cX5_ship 25 = .ok (.invokevirtual 100, 3) := by decide +kernel
theorem dX5_ship_28 : decode cX5_ship 28 = .ok (.checkcast 104, 3) := by decide +kernel
theorem dX5_ship_31 : decode cX5_ship 31 = .ok (.astore 4, 2) := by decide +kernel
theorem dX5_ship_33 : decode cX5_ship 33 = .ok (.aload 4, 2) := by decide +kernel
theorem dX5_ship_35 : decode cX5_ship 35 = .ok (.getfield 203, 3) := by decide +kernel
theorem dX5_ship_38 : decode cX5_ship 38 = .ok (.iload_n 1, 1) := by decide +kernel
theorem dX5_ship_39 : decode cX5_ship 39 = .ok (.if_icmp .ne 39, 3) := by decide +kernel
theorem dX5_ship_42 : decode cX5_ship 42 = .ok (.aload 4, 2) := by decide +kernel
theorem dX5_ship_44 : decode cX5_ship 44 = .ok (.getfield 173, 3) := by decide +kernel
theorem dX5_ship_47 : decode cX5_ship 47 = .ok (.bipush 107, 2) := by decide +kernel
theorem dX5_ship_49 : decode cX5_ship 49 = .ok (.if_icmp .ne 29, 3) := by decide +kernel
theorem dX5_ship_52 : decode cX5_ship 52 = .ok (.aload_n 0, 1) := by decide +kernel
theorem dX5_ship_53 : decode cX5_ship 53 = .ok (.aload 4, 2) := by decide +kernel
theorem dX5_ship_55 : decode cX5_ship 55 = .ok (.bipush 115, 2) := by decide +kernel
theorem dX5_ship_57 : decode cX5_ship 57 = .ok (.invokevirtual 179, 3) := by decide +kernel
theorem dX5_ship_60 : decode cX5_ship 60 = .ok (.aload_n 0, 1) := by decide +kernel
theorem dX5_ship_61 : decode cX5_ship 61 = .ok (.dup, 1) := by decide +kernel
theorem dX5_ship_62 : decode cX5_ship 62 = .ok (.getfield 206, 3) := by decide +kernel
theorem dX5_ship_65 : decode cX5_ship 65 = .ok (.aload 4, 2) := by decide +kernel
theorem dX5_ship_67 : decode cX5_ship 67 = .ok (.getfield 114, 3) := by decide +kernel
theorem dX5_ship_70 : decode cX5_ship 70 = .ok (.i2l, 1) := by decide +kernel
theorem dX5_ship_71 : decode cX5_ship 71 = .ok (.ladd, 1) := by decide +kernel
theorem dX5_ship_72 : decode cX5_ship 72 = .ok (.putfield 206, 3) := by decide +kernel
theorem dX5_ship_75 : decode cX5_ship 75 = .ok (.iinc 2 1, 3) := by decide +kernel
theorem dX5_ship_78 : decode cX5_ship 78 = .ok (.iinc 3 1, 3) := by decide +kernel
theorem dX5_ship_81 : decode cX5_ship 81 = .ok (.goto (-72), 3) := by decide +kernel
theorem dX5_ship_84 : decode cX5_ship 84 = .ok (.iload_n 2, 1) := by decide +kernel
theorem dX5_ship_85 : decode cX5_ship 85 = .ok (.ireturn, 1) := by decide +kernel
set_option maxHeartbeats 4000000 in
set_option maxRecDepth 100000 in
theorem c_X5_ship (l : Launch) (hl0 : l.stackTraces = false) (g : kG) (e0 : Nat) (z : Nat → Nat) (S : wPS) (sz : Nat) (hI : Inv z e0 S) (n : Int32) : kM l g e0 yX5_ship cX5_ship 5 (some .int) 7 103 1 6 [.ref (z 0), .int n] S sz (pI (fun r T => Kp z S T ∧ ¬ n < 0 ∧ ¬ 3 ≤ n ∧ (pF S 72 (z 11) = 0 → r = 0))) (fun E => E = xI ∧ (n < 0 ∨ 3 ≤ n)) := by
  refine kM.of (by decide) (Nat.le_of_ble_eq_true rfl) ?_
  intro p e s m below meth c ls B hin
  obtain ⟨F, hr, hlk, hte, hP, hK, hD, hE, hS, hA, hl, hsz⟩ := B
  subst hsz
  have hx := F.1
  have hb := F.2.1
  have hl : lv_has ls 5 [(0, .ref (z 0)), (1, .int n)] := hl
  obtain ⟨m1, hm1, hL1⟩ := hI.lines
  refine lv_aload_n hx hb dX5_ship_0 rfl (lv_at hl 0 rfl) ?_
  refine lv_iload_n hx hb dX5_ship_1 rfl (lv_at hl 1 rfl) ?_
  refine kcallU (kV (n := 1) (As := [.int n]) (rest := []) (b := (z 0)) (C := RX5) F hE hK hP hD hS hA (c_X5_checkCarrier l hl0 g e0 z S _ hI n) (rr_Pickwave hK hP (hI.1.1 0 (by decide))) kw_524 kw_525 kw_526 kw_2 kw_527 (by decide +kernel) ⟨Nat.le_of_ble_eq_true rfl, Nat.le_of_ble_eq_true rfl⟩ rfl hl.1 rfl (Nat.le_of_ble_eq_true rfl) dX5_ship_2 ⟨Nat.le_of_ble_eq_true rfl, Nat.le_of_ble_eq_true rfl⟩) rfl hD hS hA (fun E ce q9 H1 locs1 hex hP1 hS1 hce hcv hcl => kthru hte hlk (hex) hP1 hS1 hce hcv hcl (Nat.le_of_ble_eq_true rfl) (Nat.le_of_ble_eq_true rfl)) (fun T1 H locs hp hP hD hS => ?_)
  obtain ⟨hT, hp2⟩ := hp
  have hT := hT.symm
  subst hT
  refine lv_iconst (v := 0) hx hb dX5_ship_5 (by decide) ?_
  refine lv_istore_n (lv' := [(2, .int 0), (0, .ref (z 0)), (1, .int n)]) hx hb dX5_ship_6 rfl hl (by decide) rfl (fun ls hl => ?_)
  refine lv_iconst (v := 0) hx hb dX5_ship_7 (by decide) ?_
  refine lv_istore_n (lv' := [(3, .int 0), (2, .int 0), (0, .ref (z 0)), (1, .int n)]) hx hb dX5_ship_8 rfl hl (by decide) rfl (fun ls hl => ?_)
  have loop : ∀ (fu : Nat) (T0 : wPS) (i : Nat) (xi cn : Int32) (H : Heap) (locs : List Loc) (ls : Array Slot), va_P (kD g) vwCl (kW g T0) H → va_D (kA (pL S) s.heap.size) (kW g T0) → va_S (kA (pL S) s.heap.size) s.heap H locs → lv_has ls 5 [(3, .int xi), (2, .int cn), (0, .ref (z 0)), (1, .int n)] → m1 - i < fu → (Kp z S T0) → (xi = nI i) → (i ≤ m1) → (i = 0 → cn = 0) → W p l e ({ frames := 7, cells := 1, slots := 6, locals := 103 }) s m ([.ref (z 0), .int n] : List Value).toArray below meth c H locs 1 6 (vx_MQ below (kQ g S s.heap.size (pI (fun r T => Kp z S T ∧ ¬ n < 0 ∧ ¬ 3 ≤ n ∧ (pF S 72 (z 11) = 0 → r = 0)))) (kX g S s.heap.size (fun E => E = xI ∧ (n < 0 ∨ 3 ≤ n))) ([.ref (z 0), .int n] : List Value).toArray s 1 6 (kA (pL S) s.heap.size)) (F0 m 9 ls []) := by
    intro fu
    induction fu with
    | zero => intro T0 i xi cn H locs ls hP hD hS hl hn hKp hi hin hc; exact absurd hn (Nat.not_lt_zero _)
    | succ fu ih =>
      intro T0 i xi cn H locs ls hP hD hS hl hn hKp hi hin hc
      have hLT : LI T0 e0 (z 11) 2 m1 := LI.keep hKp.1 hL1
      refine lv_iload_n hx hb dX5_ship_9 rfl (lv_at hl 0 rfl) ?_
      refine lv_aload_n hx hb dX5_ship_10 rfl (lv_at hl 2 rfl) ?_
      refine rs_Pickwave_lines (b := z 11) F hK hP ((hI.keep hKp.1).1.1 0 (by decide)) ((hI.keep hKp.1).2.1.2.2.2.2.1) kw_28 dX5_ship_11 ?_
      refine kcallI (kV (n := 0) (As := []) (rest := [.int xi]) (b := (z 11)) (C := RJx4a65c) F hE hK hP hD hS hA (c_Jx4a65c_size_8abf5 l hl0 g e0 T0 _ (z 11) ((hI.keep hKp.1).1.1 11 (by decide))) (rr_ArrayList hK hP ((hI.keep hKp.1).1.1 11 (by decide))) kw_109 kw_110 kw_111 kw_26 kw_112 (by decide +kernel) ⟨Nat.le_of_ble_eq_true rfl, Nat.le_of_ble_eq_true rfl⟩ rfl hl.1 rfl (Nat.le_of_ble_eq_true rfl) dX5_ship_14 ⟨Nat.le_of_ble_eq_true rfl, Nat.le_of_ble_eq_true rfl⟩) rfl hD hS hA (fun _ _ _ _ _ h => False.elim h) (fun r3 T3 H locs hp hP hD hS => ?_)
      obtain ⟨hT, hp4⟩ := hp
      have hT := hT.symm
      subst hT
      refine lv_icmp_ge (tgt := 84) hx hb dX5_ship_17 (by decide) (fun c5 => ?_) (fun c5 => ?_)
      · refine lv_iload_n hx hb dX5_ship_84 rfl (lv_at hl 1 rfl) ?_
        exact kEndI F hr rfl hlk hP hD hS (Nat.le_of_ble_eq_true rfl) (Nat.le_of_ble_eq_true rfl) dX5_ship_85 ⟨_, rfl, ⟨hKp, hp2.1, hp2.2, (fun h => hc (by have h9 : nI m1 = nI 0 := hL1.1.symm.trans h; have := (nI_eq (by omega) (by decide)).mp h9; omega))⟩⟩
      · obtain ⟨him, hx0, hx1⟩ := klp hLT ⟨hm1, hin⟩ hi hp4 c5
        refine lv_aload_n hx hb dX5_ship_20 rfl (lv_at hl 2 rfl) ?_
        refine rs_Pickwave_lines (b := z 11) F hK hP ((hI.keep hKp.1).1.1 0 (by decide)) ((hI.keep hKp.1).2.1.2.2.2.2.1) kw_28 dX5_ship_21 ?_
        refine lv_iload_n hx hb dX5_ship_24 rfl (lv_at hl 0 rfl) ?_
        refine kcallR (kV (n := 1) (As := [.int xi]) (rest := []) (b := (z 11)) (C := RJx4a65c) F hE hK hP hD hS hA (c_Jx4a65c_get_915e3 l hl0 g e0 T0 _ (z 11) 2 _ xi ((hI.keep hKp.1).1.1 11 (by decide)) hLT hx0 hx1 (by omega)) (rr_ArrayList hK hP ((hI.keep hKp.1).1.1 11 (by decide))) kw_203 kw_204 kw_205 kw_26 kw_206 (by decide +kernel) ⟨Nat.le_of_ble_eq_true rfl, Nat.le_of_ble_eq_true rfl⟩ rfl hl.1 rfl (Nat.le_of_ble_eq_true rfl) dX5_ship_25 ⟨Nat.le_of_ble_eq_true rfl, Nat.le_of_ble_eq_true rfl⟩) rfl hD hS hA (fun _ _ _ _ _ h => False.elim h) (fun b6 T6 H locs hp hP hD hS => ?_)
        obtain ⟨hT, hp7⟩ := hp
        have hT := hT.symm
        subst hT
        refine va_castS hx hb F.2.2.2.1 (F.2.2.2.2 _ kw_283) (hK.1 3 _ rfl).2 (rr_Line hK hP hp7.1) dX5_ship_28 ?_
        refine lv_astore (lv' := [(4, .ref b6), (3, .int xi), (2, .int cn), (0, .ref (z 0)), (1, .int n)]) hx hb dX5_ship_31 hl (by decide) rfl (fun ls hl => ?_)
        refine lv_aload hx hb dX5_ship_33 (lv_at hl 0 rfl) ?_
        refine rg_Line_carrier F hK hP hp7.1 kw_507 dX5_ship_35 ?_
        refine lv_topi (fun x8 ex8 => ?_)
        refine lv_iload_n hx hb dX5_ship_38 rfl (lv_at hl 4 rfl) ?_
        refine lv_icmp_ne (tgt := 78) hx hb dX5_ship_39 (by decide) (fun c9 => ?_) (fun c9 => ?_)
        · obtain ⟨x10, ex10⟩ : ∃ y : Int32, y = xi + 1 := ⟨_, rfl⟩
          refine lv_iinc (v := x10) (lv' := [(3, .int x10), (4, .ref b6), (2, .int cn), (0, .ref (z 0)), (1, .int n)]) hx hb dX5_ship_78 hl (k := 1) rfl (by rw [ex10]; rfl) (by decide) rfl (fun ls hl => ?_)
          refine lv_goto (tgt := 9) hx hb dX5_ship_81 (by decide) ?_
          exact ih _ (i + 1) x10 cn H locs ls hP hD hS (lv_sub hl [0, 2, 3, 4] rfl) (by omega) hKp (by rw [ex10, hi]; exact nI_1 i) him (fun h => absurd h (by omega))
        · refine lv_aload hx hb dX5_ship_42 (lv_at hl 0 rfl) ?_
          refine rg_Line_state F hK hP hp7.1 kw_322 dX5_ship_44 ?_
          refine lv_topi (fun x11 ex11 => ?_)
          refine lv_bipush (v := 107) hx hb dX5_ship_47 (by decide) ?_
          refine lv_icmp_ne (tgt := 78) hx hb dX5_ship_49 (by decide) (fun c12 => ?_) (fun c12 => ?_)
          · obtain ⟨x13, ex13⟩ : ∃ y : Int32, y = xi + 1 := ⟨_, rfl⟩
            refine lv_iinc (v := x13) (lv' := [(3, .int x13), (4, .ref b6), (2, .int cn), (0, .ref (z 0)), (1, .int n)]) hx hb dX5_ship_78 hl (k := 1) rfl (by rw [ex13]; rfl) (by decide) rfl (fun ls hl => ?_)
            refine lv_goto (tgt := 9) hx hb dX5_ship_81 (by decide) ?_
            exact ih _ (i + 1) x13 cn H locs ls hP hD hS (lv_sub hl [0, 2, 3, 4] rfl) (by omega) hKp (by rw [ex13, hi]; exact nI_1 i) him (fun h => absurd h (by omega))
          · refine lv_aload_n hx hb dX5_ship_52 rfl (lv_at hl 3 rfl) ?_
            refine lv_aload hx hb dX5_ship_53 (lv_at hl 0 rfl) ?_
            refine lv_bipush (v := 115) hx hb dX5_ship_55 (by decide) ?_
            refine kcallU (kV (n := 2) (As := [.ref b6, .int 115]) (rest := []) (b := (z 0)) (C := RX5) F hE hK hP hD hS hA (c_X5_scan l hl0 g e0 z T0 _ (hI.keep hKp.1) b6 hp7.1 115 ⟨rfl, rfl⟩) (rr_Pickwave hK hP ((hI.keep hKp.1).1.1 0 (by decide))) kw_323 kw_324 kw_325 kw_2 kw_326 (by decide +kernel) ⟨Nat.le_of_ble_eq_true rfl, Nat.le_of_ble_eq_true rfl⟩ rfl hl.1 rfl (Nat.le_of_ble_eq_true rfl) dX5_ship_57 ⟨Nat.le_of_ble_eq_true rfl, Nat.le_of_ble_eq_true rfl⟩) rfl hD hS hA (fun _ _ _ _ _ h => False.elim h) (fun T14 H locs hp hP hD hS => ?_)
            have N15 : Kp z T0 T14 := hp
            have K15 : Kp z S T14 := Kp.trans hKp N15
            have I15 : Inv z e0 T14 := hI.keep K15.1
            have o16 : Ob T14 2 b6 := N15.1.ob hp7.1
            refine lv_aload_n hx hb dX5_ship_60 rfl (lv_at hl 3 rfl) ?_
            refine lv_dup hx hb dX5_ship_61 rfl ?_
            refine rg_Pickwave_shippedUnits F hK hP (I15.1.1 0 (by decide)) kw_523 dX5_ship_62 ?_
            refine lv_topl (fun x17 ex17 => ?_)
            refine lv_aload hx hb dX5_ship_65 (lv_at hl 0 rfl) ?_
            refine rg_Line_amount F hK hP o16 kw_285 dX5_ship_67 ?_
            refine lv_topi (fun x18 ex18 => ?_)
            refine lv_i2l (v := x18.toInt64) hx hb dX5_ship_70 rfl ?_
            refine lv_ladd hx hb dX5_ship_71 ?_
            refine lv_topl (fun x19 ex19 => ?_)
            refine rp_Pickwave_shippedUnits F hK hP hD hS (I15.1.1 0 (by decide)) kw_523 dX5_ship_72 (fun H locs hP hD hS => ?_)
            obtain ⟨x20, ex20⟩ : ∃ y : Int32, y = cn + 1 := ⟨_, rfl⟩
            refine lv_iinc (v := x20) (lv' := [(2, .int x20), (4, .ref b6), (3, .int xi), (0, .ref (z 0)), (1, .int n)]) hx hb dX5_ship_75 hl (k := 2) rfl (by rw [ex20]; rfl) (by decide) rfl (fun ls hl => ?_)
            obtain ⟨x21, ex21⟩ : ∃ y : Int32, y = xi + 1 := ⟨_, rfl⟩
            refine lv_iinc (v := x21) (lv' := [(3, .int x21), (2, .int x20), (4, .ref b6), (0, .ref (z 0)), (1, .int n)]) hx hb dX5_ship_78 hl (k := 2) rfl (by rw [ex21]; rfl) (by decide) rfl (fun ls hl => ?_)
            refine lv_goto (tgt := 9) hx hb dX5_ship_81 (by decide) ?_
            exact ih _ (i + 1) x21 x20 H locs ls hP hD hS (lv_sub hl [0, 1, 3, 4] rfl) (by omega) (kp_setJ K15) (by rw [ex21, hi]; exact nI_1 i) him (fun h => absurd h (by omega))
  exact loop 13 _ 0 0 0 _ _ _ hP hD hS (lv_sub hl [0, 1, 2, 3] rfl) (by omega) hI.kp rfl (Nat.zero_le _) (fun _ => rfl)
