theorem dL_law_0 : decode cL_law 0 = .ok (.new 8, 3) := by decide +kernel
theorem dL_law_3 : decode cL_law 3 = .ok (.dup, 1) := by decide +kernel
theorem dL_law_4 : decode cL_law 4 = .ok (.invokespecial 110, 3) := by decide +kernel
theorem dL_law_7 : decode cL_law 7 = .ok (.astore_n 1, 1) := by decide +kernel
theorem dL_law_8 : decode cL_law 8 = .ok (.new 111, 3) := by decide +kernel
theorem dL_law_11 : decode cL_law 11 = .ok (.dup, 1) := by decide +kernel
theorem dL_law_12 : decode cL_law 12 = .ok (.invokespecial 113, 3) := by decide +kernel
theorem dL_law_15 : decode cL_law 15 = .ok (.astore_n 2, 1) := by decide +kernel
theorem dL_law_16 : decode cL_law 16 = .ok (.iconst 1, 1) := by decide +kernel
theorem dL_law_17 : decode cL_law 17 = .ok (.newarray .long, 2) := by decide +kernel
theorem dL_law_19 : decode cL_law 19 = .ok (.astore_n 3, 1) := by decide +kernel
theorem dL_law_20 : decode cL_law 20 = .ok (.iconst 1, 1) := by decide +kernel
theorem dL_law_21 : decode cL_law 21 = .ok (.newarray .double, 2) := by decide +kernel
theorem dL_law_23 : decode cL_law 23 = .ok (.astore 4, 2) := by decide +kernel
theorem dL_law_25 : decode cL_law 25 = .ok (.iconst 0, 1) := by decide +kernel
theorem dL_law_26 : decode cL_law 26 = .ok (.istore 5, 2) := by decide +kernel
theorem dL_law_28 : decode cL_law 28 = .ok (.iload 5, 2) := by decide +kernel
theorem dL_law_30 : decode cL_law 30 = .ok (.aload_n 0, 1) := by decide +kernel
theorem dL_law_31 : decode cL_law 31 = .ok (.arraylength, 1) := by decide +kernel
theorem dL_law_32 : decode cL_law 32 = .ok (.iconst 5, 1) := by decide +kernel
theorem dL_law_33 : decode cL_law 33 = .ok (.isub, 1) := by decide +kernel
theorem dL_law_34 : decode cL_law 34 = .ok (.if_icmp .gt 1992, 3) := by decide +kernel
theorem dL_law_37 : decode cL_law 37 = .ok (.aload_n 0, 1) := by decide +kernel
theorem dL_law_38 : decode cL_law 38 = .ok (.iload 5, 2) := by decide +kernel
theorem dL_law_40 : decode cL_law 40 = .ok (.iaload, 1) := by decide +kernel
theorem dL_law_41 : decode cL_law 41 = .ok (.bipush 63, 2) := by decide +kernel
theorem dL_law_43 : decode cL_law 43 = .ok (.iand, 1) := by decide +kernel
theorem dL_law_44 : decode cL_law 44 = .ok (.tableswitch 1976 0 33 #[152, 244, 300, 356, 412, 468, 524, 615, 683, 763, 776, 856, 912, 968, 1024, 1080, 1093, 1161, 1217, 1285, 1341, 1397, 1410, 1466, 1534, 1590, 1646, 1702, 1758, 1771, 1784, 1840, 1896, 1910], 152) := by decide +kernel
theorem dL_law_2020 : decode cL_law 2020 = .ok (.iinc 5 5, 3) := by decide +kernel
theorem dL_law_2023 : decode cL_law 2023 = .ok (.goto (-1995), 3) := by decide +kernel
theorem dL_law_2026 : decode cL_law 2026 = .ok (.iconst 1, 1) := by decide +kernel
theorem dL_law_2027 : decode cL_law 2027 = .ok (.ireturn, 1) := by decide +kernel
set_option maxHeartbeats 4000000 in
set_option maxRecDepth 100000 in
/-- one turn: the switch and its case -/
theorem kswitch {p : Program} {l : Launch} {e : Env} {s : State} {m : MethodId} {below : List Frame} {meth : Method} {c : Code} {b L : Nat} {xs : Nat → Int32} {g : kG} {e0 : Nat} {z w : Nat → Nat} {S M O : wPS} {o od : Nat} {H : Heap} {locs : List Loc} {k0 n0 : Nat} {Q : State → Prop} {ls : Array Slot} {i n1 n2 n3 n4 v : Int32} (hl0 : l.stackTraces = false) (C : kLc p s m c b L xs g e0 z w S M O o od H locs) (hi : kIx L xs i n1 n2 n3 n4) (hF : Fr z S) (hG : MFr w M) (hk0 : k0 + 3 ≤ 600002) (hn0 : n0 + 27 ≤ 7302232) (hl : lv_has ls 8 [(5, .int i), (4, .ref od), (3, .ref o), (2, .ref (w 0)), (1, .ref (z 0)), (0, .ref b)])
    (kk : ∀ (H1 : Heap) (locs1 : List Loc) (ls1 : Array Slot), va_S (kAs s) s.heap H1 locs1 → lv_has ls1 8 [(5, .int i), (4, .ref od), (3, .ref o), (2, .ref (w 0)), (1, .ref (z 0)), (0, .ref b)] → W p l e room_1 s m #[Value.ref b] below meth c H1 locs1 (k0 + 3) (n0 + 27) Q (F0 m 2020 ls1 [])) :
    W p l e room_1 s m #[Value.ref b] below meth c H locs k0 n0 Q (F0 m 44 ls [.int (v &&& 63)]) := by
  have hx := C.1.1.1
  have hb := C.1.1.2.1
  obtain ⟨n, hn, en⟩ := ksw v
  rw [en]
  rcases (show n = 0 ∨ n = 1 ∨ n = 2 ∨ n = 3 ∨ n = 4 ∨ n = 5 ∨ n = 6 ∨ n = 7 ∨ n = 8 ∨ n = 9 ∨ n = 10 ∨ n = 11 ∨ n = 12 ∨ n = 13 ∨ n = 14 ∨ n = 15 ∨ n = 16 ∨ n = 17 ∨ n = 18 ∨ n = 19 ∨ n = 20 ∨ n = 21 ∨ n = 22 ∨ n = 23 ∨ n = 24 ∨ n = 25 ∨ n = 26 ∨ n = 27 ∨ n = 28 ∨ n = 29 ∨ n = 30 ∨ n = 31 ∨ n = 32 ∨ n = 33 ∨ 34 ≤ n by omega) with rfl | rfl | rfl | rfl | rfl | rfl | rfl | rfl | rfl | rfl | rfl | rfl | rfl | rfl | rfl | rfl | rfl | rfl | rfl | rfl | rfl | rfl | rfl | rfl | rfl | rfl | rfl | rfl | rfl | rfl | rfl | rfl | rfl | rfl | hge
  · exact lv_tableIn hx hb dL_law_44 (off := 152) (tgt := 196) (by decide) (by decide) (by decide) (by decide) (kcase_addArticle hl0 C hi hF hG hk0 hn0 hl kk)
  · exact lv_tableIn hx hb dL_law_44 (off := 244) (tgt := 288) (by decide) (by decide) (by decide) (by decide) (kcase_stock hl0 C hi hF hG hk0 hn0 hl kk)
  · exact lv_tableIn hx hb dL_law_44 (off := 300) (tgt := 344) (by decide) (by decide) (by decide) (by decide) (kcase_reserve hl0 C hi hF hG hk0 hn0 hl kk)
  · exact lv_tableIn hx hb dL_law_44 (off := 356) (tgt := 400) (by decide) (by decide) (by decide) (by decide) (kcase_free hl0 C hi hF hG hk0 hn0 hl kk)
  · exact lv_tableIn hx hb dL_law_44 (off := 412) (tgt := 456) (by decide) (by decide) (by decide) (by decide) (kcase_promised hl0 C hi hF hG hk0 hn0 hl kk)
  · exact lv_tableIn hx hb dL_law_44 (off := 468) (tgt := 512) (by decide) (by decide) (by decide) (by decide) (kcase_promisedByScans hl0 C hi hF hG hk0 hn0 hl kk)
  · exact lv_tableIn hx hb dL_law_44 (off := 524) (tgt := 568) (by decide) (by decide) (by decide) (by decide) (kcase_setBlocked hl0 C hi hF hG hk0 hn0 hl kk)
  · exact lv_tableIn hx hb dL_law_44 (off := 615) (tgt := 659) (by decide) (by decide) (by decide) (by decide) (kcase_setPickers hl0 C hi hF hG hk0 hn0 hl kk)
  · exact lv_tableIn hx hb dL_law_44 (off := 683) (tgt := 727) (by decide) (by decide) (by decide) (by decide) (kcase_giveBack hl0 C hi hF hG hk0 hn0 hl kk)
  · exact lv_tableIn hx hb dL_law_44 (off := 763) (tgt := 807) (by decide) (by decide) (by decide) (by decide) (kcase_writtenOff hl0 C hi hF hG hk0 hn0 hl kk)
  · exact lv_tableIn hx hb dL_law_44 (off := 776) (tgt := 820) (by decide) (by decide) (by decide) (by decide) (kcase_order hl0 C hi hF hG hk0 hn0 hl kk)
  · exact lv_tableIn hx hb dL_law_44 (off := 856) (tgt := 900) (by decide) (by decide) (by decide) (by decide) (kcase_drop hl0 C hi hF hG hk0 hn0 hl kk)
  · exact lv_tableIn hx hb dL_law_44 (off := 912) (tgt := 956) (by decide) (by decide) (by decide) (by decide) (kcase_state hl0 C hi hF hG hk0 hn0 hl kk)
  · exact lv_tableIn hx hb dL_law_44 (off := 968) (tgt := 1012) (by decide) (by decide) (by decide) (by decide) (kcase_stateByScans hl0 C hi hF hG hk0 hn0 hl kk)
  · exact lv_tableIn hx hb dL_law_44 (off := 1024) (tgt := 1068) (by decide) (by decide) (by decide) (by decide) (kcase_amount hl0 C hi hF hG hk0 hn0 hl kk)
  · exact lv_tableIn hx hb dL_law_44 (off := 1080) (tgt := 1124) (by decide) (by decide) (by decide) (by decide) (kcase_orders hl0 C hi hF hG hk0 hn0 hl kk)
  · exact lv_tableIn hx hb dL_law_44 (off := 1093) (tgt := 1137) (by decide) (by decide) (by decide) (by decide) (kcase_pick hl0 C hi hF hG hk0 hn0 hl kk)
  · exact lv_tableIn hx hb dL_law_44 (off := 1161) (tgt := 1205) (by decide) (by decide) (by decide) (by decide) (kcase_ship hl0 C hi hF hG hk0 hn0 hl kk)
  · exact lv_tableIn hx hb dL_law_44 (off := 1217) (tgt := 1261) (by decide) (by decide) (by decide) (by decide) (kcase_setCutOff hl0 C hi hF hG hk0 hn0 hl kk)
  · exact lv_tableIn hx hb dL_law_44 (off := 1285) (tgt := 1329) (by decide) (by decide) (by decide) (by decide) (kcase_wave hl0 C hi hF hG hk0 hn0 hl kk)
  · exact lv_tableIn hx hb dL_law_44 (off := 1341) (tgt := 1385) (by decide) (by decide) (by decide) (by decide) (kcase_waveOf hl0 C hi hF hG hk0 hn0 hl kk)
  · exact lv_tableIn hx hb dL_law_44 (off := 1397) (tgt := 1441) (by decide) (by decide) (by decide) (by decide) (kcase_waves hl0 C hi hF hG hk0 hn0 hl kk)
  · exact lv_tableIn hx hb dL_law_44 (off := 1410) (tgt := 1454) (by decide) (by decide) (by decide) (by decide) (kcase_minutesLeft hl0 C hi hF hG hk0 hn0 hl kk)
  · exact lv_tableIn hx hb dL_law_44 (off := 1466) (tgt := 1510) (by decide) (by decide) (by decide) (by decide) (kcase_send hl0 C hi hF hG hk0 hn0 hl kk)
  · exact lv_tableIn hx hb dL_law_44 (off := 1534) (tgt := 1578) (by decide) (by decide) (by decide) (by decide) (kcase_carried hl0 C hi hF hG hk0 hn0 hl kk)
  · exact lv_tableIn hx hb dL_law_44 (off := 1590) (tgt := 1634) (by decide) (by decide) (by decide) (by decide) (kcase_minutesOf hl0 C hi hF hG hk0 hn0 hl kk)
  · exact lv_tableIn hx hb dL_law_44 (off := 1646) (tgt := 1690) (by decide) (by decide) (by decide) (by decide) (kcase_aisleOf hl0 C hi hF hG hk0 hn0 hl kk)
  · exact lv_tableIn hx hb dL_law_44 (off := 1702) (tgt := 1746) (by decide) (by decide) (by decide) (by decide) (kcase_pass hl0 C hi hF hG hk0 hn0 hl kk)
  · exact lv_tableIn hx hb dL_law_44 (off := 1758) (tgt := 1802) (by decide) (by decide) (by decide) (by decide) (kcase_minute hl0 C hi hF hG hk0 hn0 hl kk)
  · exact lv_tableIn hx hb dL_law_44 (off := 1771) (tgt := 1815) (by decide) (by decide) (by decide) (by decide) (kcase_scans hl0 C hi hF hG hk0 hn0 hl kk)
  · exact lv_tableIn hx hb dL_law_44 (off := 1784) (tgt := 1828) (by decide) (by decide) (by decide) (by decide) (kcase_scanOrder hl0 C hi hF hG hk0 hn0 hl kk)
  · exact lv_tableIn hx hb dL_law_44 (off := 1840) (tgt := 1884) (by decide) (by decide) (by decide) (by decide) (kcase_scanSign hl0 C hi hF hG hk0 hn0 hl kk)
  · exact lv_tableIn hx hb dL_law_44 (off := 1896) (tgt := 1940) (by decide) (by decide) (by decide) (by decide) (kcase_shipped hl0 C hi hF hG hk0 hn0 hl kk)
  · exact lv_tableIn hx hb dL_law_44 (off := 1910) (tgt := 1954) (by decide) (by decide) (by decide) (by decide) (kcase_shippedShare hl0 C hi hF hG hk0 hn0 hl kk)
  · exact lv_tableOut hx hb dL_law_44 (tgt := 2020) (Or.inr (by rw [nI_toInt (by omega)]; omega)) (by decide) (W.widen (k := k0 + 3) (n := n0 + 27) (by omega) (by omega) (kk _ _ ls C.2.2.2.2.1 hl))
