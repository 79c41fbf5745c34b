theorem dL_law_0 : decode cL_law 0 = .ok (.new 8, 3) := by decide +kernel
theorem dL_law_3 : decode cL_law 3 = .ok (.dup, 1) := by decide +kernel
theorem dL_law_4 : decode cL_law 4 = .ok (.invokespecial 110, 3) := by decide +kernel
theorem dL_law_7 : decode cL_law 7 = .ok (.astore_n 1, 1) := by decide +kernel
theorem dL_law_8 : decode cL_law 8 = .ok (.new 111, 3) := by decide +kernel
theorem dL_law_11 : decode cL_law 11 = .ok (.dup, 1) := by decide +kernel
theorem dL_law_12 : decode cL_law 12 = .ok (.invokespecial 113, 3) := by decide +kernel
theorem dL_law_15 : decode cL_law 15 = .ok (.astore_n 2, 1) := by decide +kernel
theorem dL_law_16 : decode cL_law 16 = .ok (.iconst 1, 1) := by decide +kernel
theorem dL_law_17 : decode cL_law 17 = .ok (.newarray .long, 2) := by decide +kernel
theorem dL_law_19 : decode cL_law 19 = .ok (.astore_n 3, 1) := by decide +kernel
theorem dL_law_20 : decode cL_law 20 = .ok (.iconst 1, 1) := by decide +kernel
theorem dL_law_21 : decode cL_law 21 = .ok (.newarray .double, 2) := by decide +kernel
theorem dL_law_23 : decode cL_law 23 = .ok (.astore 4, 2) := by decide +kernel
theorem dL_law_25 : decode cL_law 25 = .ok (.iconst 0, 1) := by decide +kernel
theorem dL_law_26 : decode cL_law 26 = .ok (.istore 5, 2) := by decide +kernel
theorem dL_law_28 : decode cL_law 28 = .ok (.iload 5, 2) := by decide +kernel
theorem dL_law_30 : decode cL_law 30 = .ok (.aload_n 0, 1) := by decide +kernel
theorem dL_law_31 : decode cL_law 31 = .ok (.arraylength, 1) := by decide +kernel
theorem dL_law_32 : decode cL_law 32 = .ok (.iconst 5, 1) := by decide +kernel
theorem dL_law_33 : decode cL_law 33 = .ok (.isub, 1) := by decide +kernel
theorem dL_law_34 : decode cL_law 34 = .ok (.if_icmp .gt 1179, 3) := by decide +kernel
theorem dL_law_37 : decode cL_law 37 = .ok (.aload_n 0, 1) := by decide +kernel
theorem dL_law_38 : decode cL_law 38 = .ok (.iload 5, 2) := by decide +kernel
theorem dL_law_40 : decode cL_law 40 = .ok (.iaload, 1) := by decide +kernel
theorem dL_law_41 : decode cL_law 41 = .ok (.bipush 63, 2) := by decide +kernel
theorem dL_law_43 : decode cL_law 43 = .ok (.iand, 1) := by decide +kernel
theorem dL_law_44 : decode cL_law 44 = .ok (.tableswitch 1163 0 33 #[152, 216, 244, 272, 300, 328, 356, 412, 452, 504, 517, 569, 597, 625, 653, 681, 694, 734, 762, 802, 830, 858, 871, 899, 939, 967, 995, 1023, 1051, 1064, 1077, 1105, 1133, 1146], 152) := by decide +kernel
theorem dL_law_1207 : decode cL_law 1207 = .ok (.iinc 5 5, 3) := by decide +kernel
theorem dL_law_1210 : decode cL_law 1210 = .ok (.goto (-1182), 3) := by decide +kernel
theorem dL_law_1213 : decode cL_law 1213 = .ok (.iconst 1, 1) := by decide +kernel
theorem dL_law_1214 : decode cL_law 1214 = .ok (.ireturn, 1) := by decide +kernel
set_option maxHeartbeats 4000000 in
set_option maxRecDepth 100000 in
/-- one turn: the switch and its case -/
theorem kswitch {p : Program} {l : Launch} {e : Env} {s : State} {m : MethodId} {below : List Frame} {meth : Method} {c : Code} {b L : Nat} {xs : Nat → Int32} {g : kG} {e0 : Nat} {z w : Nat → Nat} {S M O : wPS} {o od : Nat} {H : Heap} {locs : List Loc} {k0 n0 t : Nat} {Q : State → Prop} {ls : Array Slot} {i n1 n2 n3 n4 v : Int32} (hl0 : l.stackTraces = false) (C : kLc p s m c b L xs g e0 z w S M O o od H locs) (hi : kIx L xs i n1 n2 n3 n4) (hR : kRel z w t S M) (ht : t < 512) (hk0 : k0 + 3 ≤ 601024) (hn0 : n0 + 27 ≤ 7293034) (hl : lv_has ls 8 [(5, .int i), (4, .ref od), (3, .ref o), (2, .ref (w 0)), (1, .ref (z 0)), (0, .ref b)])
    (kk : ∀ (S1 M1 O1 : wPS) (H1 : Heap) (locs1 : List Loc) (ls1 : Array Slot), kLc p s m c b L xs g e0 z w S1 M1 O1 o od H1 locs1 → kRel z w (t + 1) S1 M1 → lv_has ls1 8 [(5, .int i), (4, .ref od), (3, .ref o), (2, .ref (w 0)), (1, .ref (z 0)), (0, .ref b)] → W p l e room_1 s m #[Value.ref b] below meth c H1 locs1 (k0 + 3) (n0 + 27) Q (F0 m 1207 ls1 [])) :
    W p l e room_1 s m #[Value.ref b] below meth c H locs k0 n0 Q (F0 m 44 ls [.int (v &&& 63)]) := by
  have hx := C.1.1.1
  have hb := C.1.1.2.1
  obtain ⟨n, hn, en⟩ := ksw v
  rw [en]
  rcases (show n = 0 ∨ n = 1 ∨ n = 2 ∨ n = 3 ∨ n = 4 ∨ n = 5 ∨ n = 6 ∨ n = 7 ∨ n = 8 ∨ n = 9 ∨ n = 10 ∨ n = 11 ∨ n = 12 ∨ n = 13 ∨ n = 14 ∨ n = 15 ∨ n = 16 ∨ n = 17 ∨ n = 18 ∨ n = 19 ∨ n = 20 ∨ n = 21 ∨ n = 22 ∨ n = 23 ∨ n = 24 ∨ n = 25 ∨ n = 26 ∨ n = 27 ∨ n = 28 ∨ n = 29 ∨ n = 30 ∨ n = 31 ∨ n = 32 ∨ n = 33 ∨ 34 ≤ n by omega) with rfl | rfl | rfl | rfl | rfl | rfl | rfl | rfl | rfl | rfl | rfl | rfl | rfl | rfl | rfl | rfl | rfl | rfl | rfl | rfl | rfl | rfl | rfl | rfl | rfl | rfl | rfl | rfl | rfl | rfl | rfl | rfl | rfl | rfl | hge
  · exact lv_tableIn hx hb dL_law_44 (off := 152) (tgt := 196) (by decide) (by decide) (by decide) (by decide) (kcase_addArticle hl0 C hi hR ht hk0 hn0 hl kk)
  · exact lv_tableIn hx hb dL_law_44 (off := 216) (tgt := 260) (by decide) (by decide) (by decide) (by decide) (kcase_stock hl0 C hi hR ht hk0 hn0 hl kk)
  · exact lv_tableIn hx hb dL_law_44 (off := 244) (tgt := 288) (by decide) (by decide) (by decide) (by decide) (kcase_reserve hl0 C hi hR ht hk0 hn0 hl kk)
  · exact lv_tableIn hx hb dL_law_44 (off := 272) (tgt := 316) (by decide) (by decide) (by decide) (by decide) (kcase_free hl0 C hi hR ht hk0 hn0 hl kk)
  · exact lv_tableIn hx hb dL_law_44 (off := 300) (tgt := 344) (by decide) (by decide) (by decide) (by decide) (kcase_promised hl0 C hi hR ht hk0 hn0 hl kk)
  · exact lv_tableIn hx hb dL_law_44 (off := 328) (tgt := 372) (by decide) (by decide) (by decide) (by decide) (kcase_promisedByScans hl0 C hi hR ht hk0 hn0 hl kk)
  · exact lv_tableIn hx hb dL_law_44 (off := 356) (tgt := 400) (by decide) (by decide) (by decide) (by decide) (kcase_setBlocked hl0 C hi hR ht hk0 hn0 hl kk)
  · exact lv_tableIn hx hb dL_law_44 (off := 412) (tgt := 456) (by decide) (by decide) (by decide) (by decide) (kcase_setPickers hl0 C hi hR ht hk0 hn0 hl kk)
  · exact lv_tableIn hx hb dL_law_44 (off := 452) (tgt := 496) (by decide) (by decide) (by decide) (by decide) (kcase_giveBack hl0 C hi hR ht hk0 hn0 hl kk)
  · exact lv_tableIn hx hb dL_law_44 (off := 504) (tgt := 548) (by decide) (by decide) (by decide) (by decide) (kcase_writtenOff hl0 C hi hR ht hk0 hn0 hl kk)
  · exact lv_tableIn hx hb dL_law_44 (off := 517) (tgt := 561) (by decide) (by decide) (by decide) (by decide) (kcase_order hl0 C hi hR ht hk0 hn0 hl kk)
  · exact lv_tableIn hx hb dL_law_44 (off := 569) (tgt := 613) (by decide) (by decide) (by decide) (by decide) (kcase_drop hl0 C hi hR ht hk0 hn0 hl kk)
  · exact lv_tableIn hx hb dL_law_44 (off := 597) (tgt := 641) (by decide) (by decide) (by decide) (by decide) (kcase_state hl0 C hi hR ht hk0 hn0 hl kk)
  · exact lv_tableIn hx hb dL_law_44 (off := 625) (tgt := 669) (by decide) (by decide) (by decide) (by decide) (kcase_stateByScans hl0 C hi hR ht hk0 hn0 hl kk)
  · exact lv_tableIn hx hb dL_law_44 (off := 653) (tgt := 697) (by decide) (by decide) (by decide) (by decide) (kcase_amount hl0 C hi hR ht hk0 hn0 hl kk)
  · exact lv_tableIn hx hb dL_law_44 (off := 681) (tgt := 725) (by decide) (by decide) (by decide) (by decide) (kcase_orders hl0 C hi hR ht hk0 hn0 hl kk)
  · exact lv_tableIn hx hb dL_law_44 (off := 694) (tgt := 738) (by decide) (by decide) (by decide) (by decide) (kcase_pick hl0 C hi hR ht hk0 hn0 hl kk)
  · exact lv_tableIn hx hb dL_law_44 (off := 734) (tgt := 778) (by decide) (by decide) (by decide) (by decide) (kcase_ship hl0 C hi hR ht hk0 hn0 hl kk)
  · exact lv_tableIn hx hb dL_law_44 (off := 762) (tgt := 806) (by decide) (by decide) (by decide) (by decide) (kcase_setCutOff hl0 C hi hR ht hk0 hn0 hl kk)
  · exact lv_tableIn hx hb dL_law_44 (off := 802) (tgt := 846) (by decide) (by decide) (by decide) (by decide) (kcase_wave hl0 C hi hR ht hk0 hn0 hl kk)
  · exact lv_tableIn hx hb dL_law_44 (off := 830) (tgt := 874) (by decide) (by decide) (by decide) (by decide) (kcase_waveOf hl0 C hi hR ht hk0 hn0 hl kk)
  · exact lv_tableIn hx hb dL_law_44 (off := 858) (tgt := 902) (by decide) (by decide) (by decide) (by decide) (kcase_waves hl0 C hi hR ht hk0 hn0 hl kk)
  · exact lv_tableIn hx hb dL_law_44 (off := 871) (tgt := 915) (by decide) (by decide) (by decide) (by decide) (kcase_minutesLeft hl0 C hi hR ht hk0 hn0 hl kk)
  · exact lv_tableIn hx hb dL_law_44 (off := 899) (tgt := 943) (by decide) (by decide) (by decide) (by decide) (kcase_send hl0 C hi hR ht hk0 hn0 hl kk)
  · exact lv_tableIn hx hb dL_law_44 (off := 939) (tgt := 983) (by decide) (by decide) (by decide) (by decide) (kcase_carried hl0 C hi hR ht hk0 hn0 hl kk)
  · exact lv_tableIn hx hb dL_law_44 (off := 967) (tgt := 1011) (by decide) (by decide) (by decide) (by decide) (kcase_minutesOf hl0 C hi hR ht hk0 hn0 hl kk)
  · exact lv_tableIn hx hb dL_law_44 (off := 995) (tgt := 1039) (by decide) (by decide) (by decide) (by decide) (kcase_aisleOf hl0 C hi hR ht hk0 hn0 hl kk)
  · exact lv_tableIn hx hb dL_law_44 (off := 1023) (tgt := 1067) (by decide) (by decide) (by decide) (by decide) (kcase_pass hl0 C hi hR ht hk0 hn0 hl kk)
  · exact lv_tableIn hx hb dL_law_44 (off := 1051) (tgt := 1095) (by decide) (by decide) (by decide) (by decide) (kcase_minute hl0 C hi hR ht hk0 hn0 hl kk)
  · exact lv_tableIn hx hb dL_law_44 (off := 1064) (tgt := 1108) (by decide) (by decide) (by decide) (by decide) (kcase_scans hl0 C hi hR ht hk0 hn0 hl kk)
  · exact lv_tableIn hx hb dL_law_44 (off := 1077) (tgt := 1121) (by decide) (by decide) (by decide) (by decide) (kcase_scanOrder hl0 C hi hR ht hk0 hn0 hl kk)
  · exact lv_tableIn hx hb dL_law_44 (off := 1105) (tgt := 1149) (by decide) (by decide) (by decide) (by decide) (kcase_scanSign hl0 C hi hR ht hk0 hn0 hl kk)
  · exact lv_tableIn hx hb dL_law_44 (off := 1133) (tgt := 1177) (by decide) (by decide) (by decide) (by decide) (kcase_shipped hl0 C hi hR ht hk0 hn0 hl kk)
  · exact lv_tableIn hx hb dL_law_44 (off := 1146) (tgt := 1190) (by decide) (by decide) (by decide) (by decide) (kcase_shippedShare hl0 C hi hR ht hk0 hn0 hl kk)
  · refine lv_tableOut hx hb dL_law_44 (tgt := 1207) (Or.inr (by rw [nI_toInt (by omega)]; omega)) (by decide) ?_
    obtain ⟨r1, r2, r3, r4, r5, c9, hc9, hc⟩ := hR
    exact W.widen (k := k0 + 3) (n := n0 + 27) (by omega) (by omega) (kk _ _ _ _ _ ls C ⟨r1, r2, r3, r4, r5, c9, by omega, hc⟩ hl)
