theorem dL_law_0 : decode cL_law 0 = .ok (.new 8, 3) := by decide +kernel
theorem dL_law_3 : decode cL_law 3 = .ok (.dup, 1) := by decide +kernel
theorem dL_law_4 : decode cL_law 4 = .ok (.invokespecial 110, 3) := by decide +kernel
theorem dL_law_7 : decode cL_law 7 = .ok (.astore_n 1, 1) := by decide +kernel
theorem dL_law_8 : decode cL_law 8 = .ok (.new 111, 3) := by decide +kernel
theorem dL_law_11 : decode cL_law 11 = .ok (.dup, 1) := by decide +kernel
theorem dL_law_12 : decode cL_law 12 = .ok (.invokespecial 113, 3) := by decide +kernel
theorem dL_law_15 : decode cL_law 15 = .ok (.astore_n 2, 1) := by decide +kernel
theorem dL_law_16 : decode cL_law 16 = .ok (.iconst 1, 1) := by decide +kernel
theorem dL_law_17 : decode cL_law 17 = .ok (.newarray .long, 2) := by decide +kernel
theorem dL_law_19 : decode cL_law 19 = .ok (.astore_n 3, 1) := by decide +kernel
theorem dL_law_20 : decode cL_law 20 = .ok (.iconst 1, 1) := by decide +kernel
theorem dL_law_21 : decode cL_law 21 = .ok (.newarray .double, 2) := by decide +kernel
theorem dL_law_23 : decode cL_law 23 = .ok (.astore 4, 2) := by decide +kernel
theorem dL_law_25 : decode cL_law 25 = .ok (.iconst 0, 1) := by decide +kernel
theorem dL_law_26 : decode cL_law 26 = .ok (.istore 5, 2) := by decide +kernel
theorem dL_law_28 : decode cL_law 28 = .ok (.iload 5, 2) := by decide +kernel
theorem dL_law_30 : decode cL_law 30 = .ok (.aload_n 0, 1) := by decide +kernel
theorem dL_law_31 : decode cL_law 31 = .ok (.arraylength, 1) := by decide +kernel
theorem dL_law_32 : decode cL_law 32 = .ok (.iconst 5, 1) := by decide +kernel
theorem dL_law_33 : decode cL_law 33 = .ok (.isub, 1) := by decide +kernel
theorem dL_law_34 : decode cL_law 34 = .ok (.if_icmp .gt 1214, 3) := by decide +kernel
theorem dL_law_37 : decode cL_law 37 = .ok (.aload_n 0, 1) := by decide +kernel
theorem dL_law_38 : decode cL_law 38 = .ok (.iload 5, 2) := by decide +kernel
theorem dL_law_40 : decode cL_law 40 = .ok (.iaload, 1) := by decide +kernel
theorem dL_law_41 : decode cL_law 41 = .ok (.bipush 63, 2) := by decide +kernel
theorem dL_law_43 : decode cL_law 43 = .ok (.iand, 1) := by decide +kernel
theorem dL_law_44 : decode cL_law 44 = .ok (.tableswitch 1198 0 33 #[152, 216, 244, 272, 300, 328, 356, 447, 487, 539, 552, 604, 632, 660, 688, 716, 729, 769, 797, 837, 865, 893, 906, 934, 974, 1002, 1030, 1058, 1086, 1099, 1112, 1140, 1168, 1181], 152) := by decide +kernel
theorem dL_law_1242 : decode cL_law 1242 = .ok (.iinc 5 5, 3) := by decide +kernel
theorem dL_law_1245 : decode cL_law 1245 = .ok (.goto (-1217), 3) := by decide +kernel
theorem dL_law_1248 : decode cL_law 1248 = .ok (.iconst 1, 1) := by decide +kernel
theorem dL_law_1249 : decode cL_law 1249 = .ok (.ireturn, 1) := by decide +kernel
set_option maxHeartbeats 4000000 in
set_option maxRecDepth 100000 in
/-- one turn: the switch and its case -/
theorem kswitch {p : Program} {l : Launch} {e : Env} {s : State} {m : MethodId} {below : List Frame} {meth : Method} {c : Code} {b L : Nat} {xs : Nat → Int32} {g : kG} {e0 : Nat} {z w : Nat → Nat} {S M O : wPS} {o od : Nat} {H : Heap} {locs : List Loc} {k0 n0 t : Nat} {Q : State → Prop} {ls : Array Slot} {i n1 n2 n3 n4 v : Int32} (hl0 : l.stackTraces = false) (C : kLc p s m c b L xs g e0 z w S M O o od H locs) (hi : kIx L xs i n1 n2 n3 n4) (hR : kRel z w t S M) (ht : t < 512) (hk0 : k0 + 3 ≤ 601024) (hn0 : n0 + 27 ≤ 7293034) (hl : lv_has ls 8 [(5, .int i), (4, .ref od), (3, .ref o), (2, .ref (w 0)), (1, .ref (z 0)), (0, .ref b)])
    (kk : ∀ (S1 M1 O1 : wPS) (H1 : Heap) (locs1 : List Loc) (ls1 : Array Slot), kLc p s m c b L xs g e0 z w S1 M1 O1 o od H1 locs1 → kRel z w (t + 1) S1 M1 → lv_has ls1 8 [(5, .int i), (4, .ref od), (3, .ref o), (2, .ref (w 0)), (1, .ref (z 0)), (0, .ref b)] → W p l e room_1 s m #[Value.ref b] below meth c H1 locs1 (k0 + 3) (n0 + 27) Q (F0 m 1242 ls1 [])) :
    W p l e room_1 s m #[Value.ref b] below meth c H locs k0 n0 Q (F0 m 44 ls [.int (v &&& 63)]) := by
  have hx := C.1.1.1
  have hb := C.1.1.2.1
  obtain ⟨n, hn, en⟩ := ksw v
  rw [en]
  rcases (show n = 0 ∨ n = 1 ∨ n = 2 ∨ n = 3 ∨ n = 4 ∨ n = 5 ∨ n = 6 ∨ n = 7 ∨ n = 8 ∨ n = 9 ∨ n = 10 ∨ n = 11 ∨ n = 12 ∨ n = 13 ∨ n = 14 ∨ n = 15 ∨ n = 16 ∨ n = 17 ∨ n = 18 ∨ n = 19 ∨ n = 20 ∨ n = 21 ∨ n = 22 ∨ n = 23 ∨ n = 24 ∨ n = 25 ∨ n = 26 ∨ n = 27 ∨ n = 28 ∨ n = 29 ∨ n = 30 ∨ n = 31 ∨ n = 32 ∨ n = 33 ∨ 34 ≤ n by omega) with rfl | rfl | rfl | rfl | rfl | rfl | rfl | rfl | rfl | rfl | rfl | rfl | rfl | rfl | rfl | rfl | rfl | rfl | rfl | rfl | rfl | rfl | rfl | rfl | rfl | rfl | rfl | rfl | rfl | rfl | rfl | rfl | rfl | rfl | hge
  · exact lv_tableIn hx hb dL_law_44 (off := 152) (tgt := 196) (by decide) (by decide) (by decide) (by decide) (kcase_addArticle hl0 C hi hR ht hk0 hn0 hl kk)
  · exact lv_tableIn hx hb dL_law_44 (off := 216) (tgt := 260) (by decide) (by decide) (by decide) (by decide) (kcase_stock hl0 C hi hR ht hk0 hn0 hl kk)
  · exact lv_tableIn hx hb dL_law_44 (off := 244) (tgt := 288) (by decide) (by decide) (by decide) (by decide) (kcase_reserve hl0 C hi hR ht hk0 hn0 hl kk)
  · exact lv_tableIn hx hb dL_law_44 (off := 272) (tgt := 316) (by decide) (by decide) (by decide) (by decide) (kcase_free hl0 C hi hR ht hk0 hn0 hl kk)
  · exact lv_tableIn hx hb dL_law_44 (off := 300) (tgt := 344) (by decide) (by decide) (by decide) (by decide) (kcase_promised hl0 C hi hR ht hk0 hn0 hl kk)
  · exact lv_tableIn hx hb dL_law_44 (off := 328) (tgt := 372) (by decide) (by decide) (by decide) (by decide) (kcase_promisedByScans hl0 C hi hR ht hk0 hn0 hl kk)
  · exact lv_tableIn hx hb dL_law_44 (off := 356) (tgt := 400) (by decide) (by decide) (by decide) (by decide) (kcase_setBlocked hl0 C hi hR ht hk0 hn0 hl kk)
  · exact lv_tableIn hx hb dL_law_44 (off := 447) (tgt := 491) (by decide) (by decide) (by decide) (by decide) (kcase_setPickers hl0 C hi hR ht hk0 hn0 hl kk)
  · exact lv_tableIn hx hb dL_law_44 (off := 487) (tgt := 531) (by decide) (by decide) (by decide) (by decide) (kcase_giveBack hl0 C hi hR ht hk0 hn0 hl kk)
  · exact lv_tableIn hx hb dL_law_44 (off := 539) (tgt := 583) (by decide) (by decide) (by decide) (by decide) (kcase_writtenOff hl0 C hi hR ht hk0 hn0 hl kk)
  · exact lv_tableIn hx hb dL_law_44 (off := 552) (tgt := 596) (by decide) (by decide) (by decide) (by decide) (kcase_order hl0 C hi hR ht hk0 hn0 hl kk)
  · exact lv_tableIn hx hb dL_law_44 (off := 604) (tgt := 648) (by decide) (by decide) (by decide) (by decide) (kcase_drop hl0 C hi hR ht hk0 hn0 hl kk)
  · exact lv_tableIn hx hb dL_law_44 (off := 632) (tgt := 676) (by decide) (by decide) (by decide) (by decide) (kcase_state hl0 C hi hR ht hk0 hn0 hl kk)
  · exact lv_tableIn hx hb dL_law_44 (off := 660) (tgt := 704) (by decide) (by decide) (by decide) (by decide) (kcase_stateByScans hl0 C hi hR ht hk0 hn0 hl kk)
  · exact lv_tableIn hx hb dL_law_44 (off := 688) (tgt := 732) (by decide) (by decide) (by decide) (by decide) (kcase_amount hl0 C hi hR ht hk0 hn0 hl kk)
  · exact lv_tableIn hx hb dL_law_44 (off := 716) (tgt := 760) (by decide) (by decide) (by decide) (by decide) (kcase_orders hl0 C hi hR ht hk0 hn0 hl kk)
  · exact lv_tableIn hx hb dL_law_44 (off := 729) (tgt := 773) (by decide) (by decide) (by decide) (by decide) (kcase_pick hl0 C hi hR ht hk0 hn0 hl kk)
  · exact lv_tableIn hx hb dL_law_44 (off := 769) (tgt := 813) (by decide) (by decide) (by decide) (by decide) (kcase_ship hl0 C hi hR ht hk0 hn0 hl kk)
  · exact lv_tableIn hx hb dL_law_44 (off := 797) (tgt := 841) (by decide) (by decide) (by decide) (by decide) (kcase_setCutOff hl0 C hi hR ht hk0 hn0 hl kk)
  · exact lv_tableIn hx hb dL_law_44 (off := 837) (tgt := 881) (by decide) (by decide) (by decide) (by decide) (kcase_wave hl0 C hi hR ht hk0 hn0 hl kk)
  · exact lv_tableIn hx hb dL_law_44 (off := 865) (tgt := 909) (by decide) (by decide) (by decide) (by decide) (kcase_waveOf hl0 C hi hR ht hk0 hn0 hl kk)
  · exact lv_tableIn hx hb dL_law_44 (off := 893) (tgt := 937) (by decide) (by decide) (by decide) (by decide) (kcase_waves hl0 C hi hR ht hk0 hn0 hl kk)
  · exact lv_tableIn hx hb dL_law_44 (off := 906) (tgt := 950) (by decide) (by decide) (by decide) (by decide) (kcase_minutesLeft hl0 C hi hR ht hk0 hn0 hl kk)
  · exact lv_tableIn hx hb dL_law_44 (off := 934) (tgt := 978) (by decide) (by decide) (by decide) (by decide) (kcase_send hl0 C hi hR ht hk0 hn0 hl kk)
  · exact lv_tableIn hx hb dL_law_44 (off := 974) (tgt := 1018) (by decide) (by decide) (by decide) (by decide) (kcase_carried hl0 C hi hR ht hk0 hn0 hl kk)
  · exact lv_tableIn hx hb dL_law_44 (off := 1002) (tgt := 1046) (by decide) (by decide) (by decide) (by decide) (kcase_minutesOf hl0 C hi hR ht hk0 hn0 hl kk)
  · exact lv_tableIn hx hb dL_law_44 (off := 1030) (tgt := 1074) (by decide) (by decide) (by decide) (by decide) (kcase_aisleOf hl0 C hi hR ht hk0 hn0 hl kk)
  · exact lv_tableIn hx hb dL_law_44 (off := 1058) (tgt := 1102) (by decide) (by decide) (by decide) (by decide) (kcase_pass hl0 C hi hR ht hk0 hn0 hl kk)
  · exact lv_tableIn hx hb dL_law_44 (off := 1086) (tgt := 1130) (by decide) (by decide) (by decide) (by decide) (kcase_minute hl0 C hi hR ht hk0 hn0 hl kk)
  · exact lv_tableIn hx hb dL_law_44 (off := 1099) (tgt := 1143) (by decide) (by decide) (by decide) (by decide) (kcase_scans hl0 C hi hR ht hk0 hn0 hl kk)
  · exact lv_tableIn hx hb dL_law_44 (off := 1112) (tgt := 1156) (by decide) (by decide) (by decide) (by decide) (kcase_scanOrder hl0 C hi hR ht hk0 hn0 hl kk)
  · exact lv_tableIn hx hb dL_law_44 (off := 1140) (tgt := 1184) (by decide) (by decide) (by decide) (by decide) (kcase_scanSign hl0 C hi hR ht hk0 hn0 hl kk)
  · exact lv_tableIn hx hb dL_law_44 (off := 1168) (tgt := 1212) (by decide) (by decide) (by decide) (by decide) (kcase_shipped hl0 C hi hR ht hk0 hn0 hl kk)
  · exact lv_tableIn hx hb dL_law_44 (off := 1181) (tgt := 1225) (by decide) (by decide) (by decide) (by decide) (kcase_shippedShare hl0 C hi hR ht hk0 hn0 hl kk)
  · refine lv_tableOut hx hb dL_law_44 (tgt := 1242) (Or.inr (by rw [nI_toInt (by omega)]; omega)) (by decide) ?_
    obtain ⟨r1, r2, r3, r4, r5, c9, hc9, hc⟩ := hR
    exact W.widen (k := k0 + 3) (n := n0 + 27) (by omega) (by omega) (kk _ _ _ _ _ ls C ⟨r1, r2, r3, r4, r5, c9, by omega, hc⟩ hl)
