theorem Kp.sz {z : Nat → Nat} {S T : wPS} (h : Kp z S T) : pF T 72 = pF S 72 := h.1.2.2.2.2.2.2.2.2.1
theorem kszlt {T : wPS} {e0 q kd n N : Nat} (hL : LI T e0 q kd n) (hn : n ≤ 12) (hN : N ≤ 12) (h : pF T 72 q < nI N) : n + 1 ≤ N := by
  rw [hL.1] at h
  rcases Nat.lt_or_ge n N with c | c
  · exact c
  · exact absurd (nI_le c (by omega)) (Int32.not_le.mpr h)
theorem dX5_letCome_0 : decode cX5_letCome 0 = .ok (.new 104, 3) := by decide +kernel
theorem dX5_letCome_3 : decode cX5_letCome 3 = .ok (.dup, 1) := by decide +kernel
theorem dX5_letCome_4 : decode cX5_letCome 4 = .ok (.aload_n 0, 1) := by decide +kernel
theorem dX5_letCome_5 : decode cX5_letCome 5 = .ok (.getfield 36, 3) := by decide +kernel
theorem dX5_letCome_8 : decode cX5_letCome 8 = .ok (.invokevirtual 65, 3) := by decide +kernel
theorem dX5_letCome_11 : decode cX5_letCome 11 = .ok (.aload_n 1, 1) := by decide +kernel
theorem dX5_letCome_12 : decode cX5_letCome 12 = .ok (.iload_n 2, 1) := by decide +kernel
theorem dX5_letCome_13 : decode cX5_letCome 13 = .ok (.iload_n 3, 1) := by decide +kernel
theorem dX5_letCome_14 : decode cX5_letCome 14 = .ok (.invokespecial 295, 3) := by decide +kernel
theorem dX5_letCome_17 : decode cX5_letCome 17 = .ok (.astore 4, 2) := by decide +kernel
theorem dX5_letCome_19 : decode cX5_letCome 19 = .ok (.aload_n 0, 1) := by decide +kernel
theorem dX5_letCome_20 : decode cX5_letCome 20 = .ok (.getfield 36, 3) := by decide +kernel
theorem dX5_letCome_23 : decode cX5_letCome 23 = .ok (.aload 4, 2) := by decide +kernel
theorem dX5_letCome_25 : decode cX5_letCome 25 = .ok (.invokevirtual 79, 3) := by decide +kernel
theorem dX5_letCome_28 : decode cX5_letCome 28 = .ok (.pop, 1) := by decide +kernel
theorem dX5_letCome_29 : decode cX5_letCome 29 = .ok (.aload_n 0, 1) := by decide +kernel
theorem dX5_letCome_30 : decode cX5_letCome 30 = .ok (.aload 4, 2) := by decide +kernel
theorem dX5_letCome_32 : decode cX5_letCome 32 = .ok (.bipush 110, 2) := by decide +kernel
theorem dX5_letCome_34 : decode cX5_letCome 34 = .ok (.invokevirtual 179, 3) := by decide +kernel
theorem dX5_letCome_37 : decode cX5_letCome 37 = .ok (.aload 4, 2) := by decide +kernel
theorem dX5_letCome_39 : decode cX5_letCome 39 = .ok (.getfield 298, 3) := by decide +kernel
theorem dX5_letCome_42 : decode cX5_letCome 42 = .ok (.ireturn, 1) := by decide +kernel
set_option maxHeartbeats 4000000 in
set_option maxRecDepth 100000 in
theorem c_X5_letCome (l : Launch) (hl0 : l.stackTraces = false) (g : kG) (e0 : Nat) (z : Nat → Nat) (S : wPS) (sz : Nat) (hI : Inv z e0 S) (b : Nat) (ob : Ob S 1 b) (am ca : Int32) (hs : pF S 72 (z 11) < 12) : kM l g e0 yX5_letCome cX5_letCome 5 (some .int) 7 155 2 21 [.ref (z 0), .ref b, .int am, .int ca] S sz (pI (fun r T => Inv z e0 T ∧ Tk z S T ∧ ∀ k a, Ob S k a → Ob T k a)) (fun E => False) := by
  refine kM.of (by decide) (Nat.le_of_ble_eq_true rfl) ?_
  intro p e s m below meth c ls B hin
  obtain ⟨F, hr, hlk, hte, hP, hK, hD, hE, hS, hA, hl, hsz⟩ := B
  subst hsz
  have hx := F.1
  have hb := F.2.1
  have hl : lv_has ls 5 [(0, .ref (z 0)), (1, .ref b), (2, .int am), (3, .int ca)] := hl
  refine rn_Line F hK hP hD hS hA kw_283 kw_412 kw_413 (Nat.le_of_ble_eq_true rfl) (Nat.le_of_ble_eq_true rfl) dX5_letCome_0 (fun q1 H hq1 hP hD hS => ?_)
  refine lv_dup hx hb dX5_letCome_3 rfl ?_
  refine lv_aload_n hx hb dX5_letCome_4 rfl (lv_at hl 0 rfl) ?_
  refine rs_Pickwave_lines (b := z 11) F hK hP (obO_old (kd := 2) hq1 (hI.1.1 0 (by decide))) ((va_up_ne _ _ (kne hq1 (hI.1.1 0 (by decide)))).trans hI.2.1.2.2.2.2.1) kw_28 dX5_letCome_5 ?_
  refine kcallI (kV (n := 0) (As := []) (rest := [.ref q1, .ref q1]) (b := (z 11)) (C := RJx4a65c) F hE hK hP hD hS hA (c_Jx4a65c_size_8abf5 l hl0 g e0 (newO S q1 2) _ (z 11) (obO_old (kd := 2) hq1 (hI.1.1 11 (by decide)))) (rr_ArrayList hK hP (obO_old (kd := 2) hq1 (hI.1.1 11 (by decide)))) kw_109 kw_110 kw_111 kw_26 kw_112 (by decide +kernel) ⟨Nat.le_of_ble_eq_true rfl, Nat.le_of_ble_eq_true rfl⟩ rfl hl.1 rfl (Nat.le_of_ble_eq_true rfl) dX5_letCome_8 ⟨Nat.le_of_ble_eq_true rfl, Nat.le_of_ble_eq_true rfl⟩) rfl hD hS hA (fun _ _ _ _ _ h => False.elim h) (fun r2 T2 H locs hp hP hD hS => ?_)
  obtain ⟨hT, hp3⟩ := hp
  have hT := hT.symm
  subst hT
  refine lv_aload_n hx hb dX5_letCome_11 rfl (lv_at hl 1 rfl) ?_
  refine lv_iload_n hx hb dX5_letCome_12 rfl (lv_at hl 2 rfl) ?_
  refine lv_iload_n hx hb dX5_letCome_13 rfl (lv_at hl 3 rfl) ?_
  refine kcallU (kIn (n := 4) (As := [.int r2, .ref b, .int am, .int ca]) (rest := [.ref q1]) (b := q1) F hE hK hP hD hS hA (c_X2_init l hl0 g e0 (newO S q1 2) _ q1 b r2 am ca (obO_new (S := S) (q := q1) (kd := 2))) kw_414 kw_415 kw_413 kw_416 rfl (by decide +kernel) ⟨Nat.le_of_ble_eq_true rfl, Nat.le_of_ble_eq_true rfl⟩ rfl hl.1 rfl (Nat.le_of_ble_eq_true rfl) dX5_letCome_14 ⟨Nat.le_of_ble_eq_true rfl, Nat.le_of_ble_eq_true rfl⟩) rfl hD hS hA (fun _ _ _ _ _ h => False.elim h) (fun T4 H locs hp hP hD hS => ?_)
  have hN : NewO S T4 q1 2 := by rw [hp]; exact (NewO.mk hq1).f.g.f.f.f.f
  have h24 : pF T4 24 q1 = 111 := by rw [hp]; exact (uF_of (Or.inl (by decide))).trans uF_at
  have h21 : pG T4 21 q1 = some b := by rw [hp]; exact uG_at
  have hI2 : Inv z e0 T4 := hI.new hN (fun e => hE.2.1.out (by rw [e]; exact kD_in hD hN.self.1)) (Or.inl ⟨rfl, by rw [h24]; exact ⟨rfl, rfl⟩, b, h21, ob⟩)
  obtain ⟨m1, hm1, hL1⟩ := hI2.lines
  have hm2 : m1 + 1 ≤ 12 := kszlt hL1 hm1 (by decide) (by rw [hN.2.2.2.1 _ _ (hN.ne (hI.1.1 11 (by decide)))]; exact hs)
  refine lv_astore (lv' := [(4, .ref q1), (0, .ref (z 0)), (1, .ref b), (2, .int am), (3, .int ca)]) hx hb dX5_letCome_17 hl (by decide) rfl (fun ls hl => ?_)
  refine lv_aload_n hx hb dX5_letCome_19 rfl (lv_at hl 1 rfl) ?_
  refine rs_Pickwave_lines (b := z 11) F hK hP (hI2.1.1 0 (by decide)) hI2.2.1.2.2.2.2.1 kw_28 dX5_letCome_20 ?_
  refine lv_aload hx hb dX5_letCome_23 (lv_at hl 0 rfl) ?_
  refine kcallI (kV (n := 1) (As := [.ref q1]) (rest := []) (b := (z 11)) (C := RJx4a65c) F hE hK hP hD hS hA (c_Jx4a65c_add_9ea2d2 l hl0 g e0 T4 _ (z 11) q1 m1 (hI2.1.1 11 (by decide)) hN.self hL1 (by omega) hI2.2.2.2.2.1.2.2.2) (rr_ArrayList hK hP (hI2.1.1 11 (by decide))) kw_122 kw_123 kw_124 kw_26 kw_125 (by decide +kernel) ⟨Nat.le_of_ble_eq_true rfl, Nat.le_of_ble_eq_true rfl⟩ rfl hl.1 rfl (Nat.le_of_ble_eq_true rfl) dX5_letCome_25 ⟨Nat.le_of_ble_eq_true rfl, Nat.le_of_ble_eq_true rfl⟩) rfl hD hS hA (fun _ _ _ _ _ h => False.elim h) (fun r5 T5 H locs hp hP hD hS => ?_)
  have hR := hp
  have hI3 : Inv z e0 T5 := hI2.add (Or.inr ⟨rfl, rfl, hm2⟩) hR
  have hTk : Tk z S T5 := (hN.tk hI).trans (hR.tk hI2)
  have hmo : ∀ k a, Ob S k a → Ob T5 k a := fun k a o => hR.1 _ _ (hN.ob o)
  refine lv_pop hx hb dX5_letCome_28 rfl ?_
  refine lv_aload_n hx hb dX5_letCome_29 rfl (lv_at hl 1 rfl) ?_
  refine lv_aload hx hb dX5_letCome_30 (lv_at hl 0 rfl) ?_
  refine lv_bipush (v := 110) hx hb dX5_letCome_32 (by decide) ?_
  refine kcallU (kV (n := 2) (As := [.ref q1, .int 110]) (rest := []) (b := (z 0)) (C := RX5) F hE hK hP hD hS hA (c_X5_scan l hl0 g e0 z T5 _ hI3 q1 (hR.1 _ _ hN.self) 110 ⟨rfl, rfl⟩) (rr_Pickwave hK hP (hI3.1.1 0 (by decide))) kw_323 kw_324 kw_325 kw_2 kw_326 (by decide +kernel) ⟨Nat.le_of_ble_eq_true rfl, Nat.le_of_ble_eq_true rfl⟩ rfl hl.1 rfl (Nat.le_of_ble_eq_true rfl) dX5_letCome_34 ⟨Nat.le_of_ble_eq_true rfl, Nat.le_of_ble_eq_true rfl⟩) rfl hD hS hA (fun _ _ _ _ _ h => False.elim h) (fun T6 H locs hp hP hD hS => ?_)
  have N7 : Kp z T5 T6 := hp
  have K7 : Kp z T5 T6 := Kp.trans hI3.kp N7
  have I7 : Inv z e0 T6 := hI3.keep K7.1
  have o8 : Ob T6 2 q1 := N7.1.ob (hR.1 _ _ hN.self)
  refine lv_aload hx hb dX5_letCome_37 (lv_at hl 0 rfl) ?_
  refine rg_Line_number F hK hP o8 kw_290 dX5_letCome_39 ?_
  refine lv_topi (fun x9 ex9 => ?_)
  exact kEndI F hr rfl hlk hP hD hS (Nat.le_of_ble_eq_true rfl) (Nat.le_of_ble_eq_true rfl) dX5_letCome_42 ⟨_, rfl, ⟨hI3.keep K7.1, hTk.trans K7.tk, fun k a o => K7.1.ob (hmo k a o)⟩⟩
theorem dX5_split_0 : decode cX5_split 0 = .ok (.aload_n 1, 1) := by decide +kernel
theorem dX5_split_1 : decode cX5_split 1 = .ok (.getfield 114, 3) := by decide +kernel
theorem dX5_split_4 : decode cX5_split 4 = .ok (.iload_n 2, 1) := by decide +kernel
theorem dX5_split_5 : decode cX5_split 5 = .ok (.isub, 1) := by decide +kernel
theorem dX5_split_6 : decode cX5_split 6 = .ok (.istore_n 3, 1) := by decide +kernel
theorem dX5_split_7 : decode cX5_split 7 = .ok (.aload_n 0, 1) := by decide +kernel
theorem dX5_split_8 : decode cX5_split 8 = .ok (.aload_n 1, 1) := by decide +kernel
theorem dX5_split_9 : decode cX5_split 9 = .ok (.iload_n 2, 1) := by decide +kernel
theorem dX5_split_10 : decode cX5_split 10 = .ok (.ifCond .ne 8, 3) := by decide +kernel
theorem dX5_split_13 : decode cX5_split 13 = .ok (.bipush 100, 2) := by decide +kernel
theorem dX5_split_15 : decode cX5_split 15 = .ok (.goto 5, 3) := by decide +kernel
theorem dX5_split_18 : decode cX5_split 18 = .ok (.bipush 107, 2) := by decide +kernel
theorem dX5_split_20 : decode cX5_split 20 = .ok (.invokevirtual 179, 3) := by decide +kernel
theorem dX5_split_23 : decode cX5_split 23 = .ok (.aload_n 1, 1) := by decide +kernel
theorem dX5_split_24 : decode cX5_split 24 = .ok (.iload_n 2, 1) := by decide +kernel
theorem dX5_split_25 : decode cX5_split 25 = .ok (.putfield 114, 3) := by decide +kernel
theorem dX5_split_28 : decode cX5_split 28 = .ok (.aload_n 0, 1) := by decide +kernel
theorem dX5_split_29 : decode cX5_split 29 = .ok (.aload_n 1, 1) := by decide +kernel
theorem dX5_split_30 : decode cX5_split 30 = .ok (.getfield 106, 3) := by decide +kernel
theorem dX5_split_33 : decode cX5_split 33 = .ok (.iload_n 3, 1) := by decide +kernel
theorem dX5_split_34 : decode cX5_split 34 = .ok (.aload_n 1, 1) := by decide +kernel
theorem dX5_split_35 : decode cX5_split 35 = .ok (.getfield 203, 3) := by decide +kernel
theorem dX5_split_38 : decode cX5_split 38 = .ok (.invokevirtual 165, 3) := by decide +kernel
theorem dX5_split_41 : decode cX5_split 41 = .ok (.istore 4, 2) := by decide +kernel
theorem dX5_split_43 : decode cX5_split 43 = .ok (.aload_n 1, 1) := by decide +kernel
theorem dX5_split_44 : decode cX5_split 44 = .ok (.getfield 106, 3) := by decide +kernel
theorem dX5_split_47 : decode cX5_split 47 = .ok (.iconst 0, 1) := by decide +kernel
theorem dX5_split_48 : decode cX5_split 48 = .ok (.putfield 87, 3) := by decide +kernel
theorem dX5_split_51 : decode cX5_split 51 = .ok (.aload_n 0, 1) := by decide +kernel
theorem dX5_split_52 : decode cX5_split 52 = .ok (.aload_n 1, 1) := by decide +kernel
theorem dX5_split_53 : decode cX5_split 53 = .ok (.getfield 106, 3) := by decide +kernel
theorem dX5_split_56 : decode cX5_split 56 = .ok (.invokevirtual 311, 3) := by decide +kernel
theorem dX5_split_59 : decode cX5_split 59 = .ok (.iload 4, 2) := by decide +kernel
theorem dX5_split_61 : decode cX5_split 61 = .ok (.ireturn, 1) := by decide +kernel
set_option maxHeartbeats 4000000 in
set_option maxRecDepth 100000 in
theorem c_X5_split (l : Launch) (hl0 : l.stackTraces = false) (g : kG) (e0 : Nat) (z : Nat → Nat) (S : wPS) (sz : Nat) (hI : Inv z e0 S) (x : Nat) (ox : Ob S 2 x) (fo : Int32) (hs : pF S 72 (z 11) < 12) : kM l g e0 yX5_split cX5_split 5 (some .int) 8 179 2 21 [.ref (z 0), .ref x, .int fo] S sz (pI (fun r T => Inv z e0 T ∧ Tk z S T)) (fun E => False) := by
  refine kM.of (by decide) (Nat.le_of_ble_eq_true rfl) ?_
  intro p e s m below meth c ls B hin
  obtain ⟨F, hr, hlk, hte, hP, hK, hD, hE, hS, hA, hl, hsz⟩ := B
  subst hsz
  have hx := F.1
  have hb := F.2.1
  have hl : lv_has ls 5 [(0, .ref (z 0)), (1, .ref x), (2, .int fo)] := hl
  refine lv_aload_n hx hb dX5_split_0 rfl (lv_at hl 1 rfl) ?_
  refine rg_Line_amount F hK hP ox kw_285 dX5_split_1 ?_
  refine lv_topi (fun x1 ex1 => ?_)
  refine lv_iload_n hx hb dX5_split_4 rfl (lv_at hl 2 rfl) ?_
  refine lv_isub hx hb dX5_split_5 ?_
  refine lv_topi (fun x2 ex2 => ?_)
  refine lv_istore_n (lv' := [(3, .int x2), (0, .ref (z 0)), (1, .ref x), (2, .int fo)]) hx hb dX5_split_6 rfl hl (by decide) rfl (fun ls hl => ?_)
  refine lv_aload_n hx hb dX5_split_7 rfl (lv_at hl 1 rfl) ?_
  refine lv_aload_n hx hb dX5_split_8 rfl (lv_at hl 2 rfl) ?_
  refine lv_iload_n hx hb dX5_split_9 rfl (lv_at hl 3 rfl) ?_
  refine lv_if_ne (tgt := 18) hx hb dX5_split_10 (by decide) (fun c3 => ?_) (fun c3 => ?_)
  · refine lv_bipush (v := 107) hx hb dX5_split_18 (by decide) ?_
    refine kcallU (kV (n := 2) (As := [.ref x, .int 107]) (rest := []) (b := (z 0)) (C := RX5) F hE hK hP hD hS hA (c_X5_scan l hl0 g e0 z S _ hI x ox 107 ⟨rfl, rfl⟩) (rr_Pickwave hK hP (hI.1.1 0 (by decide))) kw_323 kw_324 kw_325 kw_2 kw_326 (by decide +kernel) ⟨Nat.le_of_ble_eq_true rfl, Nat.le_of_ble_eq_true rfl⟩ rfl hl.1 rfl (Nat.le_of_ble_eq_true rfl) dX5_split_20 ⟨Nat.le_of_ble_eq_true rfl, Nat.le_of_ble_eq_true rfl⟩) rfl hD hS hA (fun _ _ _ _ _ h => False.elim h) (fun T4 H locs hp hP hD hS => ?_)
    have N5 : Kp z S T4 := hp
    have K5 : Kp z S T4 := Kp.trans hI.kp N5
    have I5 : Inv z e0 T4 := hI.keep K5.1
    have o6 : Ob T4 2 x := N5.1.ob ox
    refine lv_aload_n hx hb dX5_split_23 rfl (lv_at hl 2 rfl) ?_
    refine lv_iload_n hx hb dX5_split_24 rfl (lv_at hl 3 rfl) ?_
    refine rp_Line_amount F hK hP hD hS o6 kw_285 dX5_split_25 (fun H locs hP hD hS => ?_)
    refine lv_aload_n hx hb dX5_split_28 rfl (lv_at hl 1 rfl) ?_
    refine lv_aload_n hx hb dX5_split_29 rfl (lv_at hl 2 rfl) ?_
    obtain ⟨b7, hb7, ob7⟩ := I5.2.2.2.2.2.2.1 x o6
    refine rs_Line_article (b := b7) F hK hP o6 hb7 kw_284 dX5_split_30 ?_
    refine lv_iload_n hx hb dX5_split_33 rfl (lv_at hl 0 rfl) ?_
    refine lv_aload_n hx hb dX5_split_34 rfl (lv_at hl 2 rfl) ?_
    refine rg_Line_carrier F hK hP o6 kw_507 dX5_split_35 ?_
    refine lv_topi (fun x8 ex8 => ?_)
    refine kcallI (kV (n := 3) (As := [.ref b7, .int x2, .int x8]) (rest := []) (b := (z 0)) (C := RX5) F hE hK hP hD hS hA (c_X5_letCome l hl0 g e0 z (setF T4 23 x fo) _ (hI.keep (kp_setF K5 (by decide) (by decide)).1) b7 ob7 x2 x8 (by rw [show pF (setF T4 23 x fo) 72 = pF S 72 from Kp.sz (kp_setF K5 (by decide) (by decide))]; exact hs)) (rr_Pickwave hK hP (I5.1.1 0 (by decide))) kw_407 kw_408 kw_409 kw_2 kw_410 (by decide +kernel) ⟨Nat.le_of_ble_eq_true rfl, Nat.le_of_ble_eq_true rfl⟩ rfl hl.1 rfl (Nat.le_of_ble_eq_true rfl) dX5_split_38 ⟨Nat.le_of_ble_eq_true rfl, Nat.le_of_ble_eq_true rfl⟩) rfl hD hS hA (fun _ _ _ _ _ h => False.elim h) (fun r9 T9 H locs hp hP hD hS => ?_)
    obtain ⟨I10, t10, m10⟩ := hp
    have u10 : Tk z S T9 := (kp_setF K5 (by decide) (by decide)).tk.trans t10
    refine lv_istore (lv' := [(4, .int r9), (3, .int x2), (0, .ref (z 0)), (1, .ref x), (2, .int fo)]) hx hb dX5_split_41 hl (by decide) rfl (fun ls hl => ?_)
    refine lv_aload_n hx hb dX5_split_43 rfl (lv_at hl 3 rfl) ?_
    obtain ⟨b11, hb11, ob11⟩ := I10.2.2.2.2.2.2.1 x (m10 _ _ o6)
    refine rs_Line_article (b := b11) F hK hP (m10 _ _ o6) hb11 kw_284 dX5_split_44 ?_
    refine lv_iconst (v := 0) hx hb dX5_split_47 (by decide) ?_
    refine rp_Article_stock F hK hP hD hS ob11 kw_195 dX5_split_48 (fun H locs hP hD hS => ?_)
    refine lv_aload_n hx hb dX5_split_51 rfl (lv_at hl 2 rfl) ?_
    refine lv_aload_n hx hb dX5_split_52 rfl (lv_at hl 3 rfl) ?_
    refine rs_Line_article (b := b11) F hK hP (m10 _ _ o6) hb11 kw_284 dX5_split_53 ?_
    refine kcallU (kV (n := 1) (As := [.ref b11]) (rest := []) (b := (z 0)) (C := RX5) F hE hK hP hD hS hA (c_X5_reopenOfArticle l hl0 g e0 z (setF T9 12 b11 0) _ (I10.keep (kp_setF I10.kp (by decide) (by decide)).1) b11 ob11) (rr_Pickwave hK hP (I10.1.1 0 (by decide))) kw_508 kw_509 kw_510 kw_2 kw_511 (by decide +kernel) ⟨Nat.le_of_ble_eq_true rfl, Nat.le_of_ble_eq_true rfl⟩ rfl hl.1 rfl (Nat.le_of_ble_eq_true rfl) dX5_split_56 ⟨Nat.le_of_ble_eq_true rfl, Nat.le_of_ble_eq_true rfl⟩) rfl hD hS hA (fun _ _ _ _ _ h => False.elim h) (fun T12 H locs hp hP hD hS => ?_)
    have N13 : Kp z (setF T9 12 b11 0) T12 := hp
    have K13 : Kp z T9 T12 := Kp.trans (kp_setF I10.kp (by decide) (by decide)) N13
    have I13 : Inv z e0 T12 := I10.keep K13.1
    have o14 : Ob T12 2 x := N13.1.ob (m10 _ _ o6)
    have o15 : Ob T12 1 b7 := N13.1.ob (m10 _ _ ob7)
    have o16 : Ob T12 1 b11 := N13.1.ob ob11
    have g17 : pG T12 21 x = some b11 := (congrFun (N13.1.2.2.1 21 (by decide)) x).trans hb11
    refine lv_iload hx hb dX5_split_59 (lv_at hl 0 rfl) ?_
    exact kEndI F hr rfl hlk hP hD hS (Nat.le_of_ble_eq_true rfl) (Nat.le_of_ble_eq_true rfl) dX5_split_61 ⟨_, rfl, ⟨I10.keep K13.1, u10.trans K13.tk⟩⟩
  · refine lv_bipush (v := 100) hx hb dX5_split_13 (by decide) ?_
    refine lv_goto (tgt := 20) hx hb dX5_split_15 (by decide) ?_
    refine kcallU (kV (n := 2) (As := [.ref x, .int 100]) (rest := []) (b := (z 0)) (C := RX5) F hE hK hP hD hS hA (c_X5_scan l hl0 g e0 z S _ hI x ox 100 ⟨rfl, rfl⟩) (rr_Pickwave hK hP (hI.1.1 0 (by decide))) kw_323 kw_324 kw_325 kw_2 kw_326 (by decide +kernel) ⟨Nat.le_of_ble_eq_true rfl, Nat.le_of_ble_eq_true rfl⟩ rfl hl.1 rfl (Nat.le_of_ble_eq_true rfl) dX5_split_20 ⟨Nat.le_of_ble_eq_true rfl, Nat.le_of_ble_eq_true rfl⟩) rfl hD hS hA (fun _ _ _ _ _ h => False.elim h) (fun T18 H locs hp hP hD hS => ?_)
    have N19 : Kp z S T18 := hp
    have K19 : Kp z S T18 := Kp.trans hI.kp N19
    have I19 : Inv z e0 T18 := hI.keep K19.1
    have o20 : Ob T18 2 x := N19.1.ob ox
    refine lv_aload_n hx hb dX5_split_23 rfl (lv_at hl 2 rfl) ?_
    refine lv_iload_n hx hb dX5_split_24 rfl (lv_at hl 3 rfl) ?_
    refine rp_Line_amount F hK hP hD hS o20 kw_285 dX5_split_25 (fun H locs hP hD hS => ?_)
    refine lv_aload_n hx hb dX5_split_28 rfl (lv_at hl 1 rfl) ?_
    refine lv_aload_n hx hb dX5_split_29 rfl (lv_at hl 2 rfl) ?_
    obtain ⟨b21, hb21, ob21⟩ := I19.2.2.2.2.2.2.1 x o20
    refine rs_Line_article (b := b21) F hK hP o20 hb21 kw_284 dX5_split_30 ?_
    refine lv_iload_n hx hb dX5_split_33 rfl (lv_at hl 0 rfl) ?_
    refine lv_aload_n hx hb dX5_split_34 rfl (lv_at hl 2 rfl) ?_
    refine rg_Line_carrier F hK hP o20 kw_507 dX5_split_35 ?_
    refine lv_topi (fun x22 ex22 => ?_)
    refine kcallI (kV (n := 3) (As := [.ref b21, .int x2, .int x22]) (rest := []) (b := (z 0)) (C := RX5) F hE hK hP hD hS hA (c_X5_letCome l hl0 g e0 z (setF T18 23 x fo) _ (hI.keep (kp_setF K19 (by decide) (by decide)).1) b21 ob21 x2 x22 (by rw [show pF (setF T18 23 x fo) 72 = pF S 72 from Kp.sz (kp_setF K19 (by decide) (by decide))]; exact hs)) (rr_Pickwave hK hP (I19.1.1 0 (by decide))) kw_407 kw_408 kw_409 kw_2 kw_410 (by decide +kernel) ⟨Nat.le_of_ble_eq_true rfl, Nat.le_of_ble_eq_true rfl⟩ rfl hl.1 rfl (Nat.le_of_ble_eq_true rfl) dX5_split_38 ⟨Nat.le_of_ble_eq_true rfl, Nat.le_of_ble_eq_true rfl⟩) rfl hD hS hA (fun _ _ _ _ _ h => False.elim h) (fun r23 T23 H locs hp hP hD hS => ?_)
    obtain ⟨I24, t24, m24⟩ := hp
    have u24 : Tk z S T23 := (kp_setF K19 (by decide) (by decide)).tk.trans t24
    refine lv_istore (lv' := [(4, .int r23), (3, .int x2), (0, .ref (z 0)), (1, .ref x), (2, .int fo)]) hx hb dX5_split_41 hl (by decide) rfl (fun ls hl => ?_)
    refine lv_aload_n hx hb dX5_split_43 rfl (lv_at hl 3 rfl) ?_
    obtain ⟨b25, hb25, ob25⟩ := I24.2.2.2.2.2.2.1 x (m24 _ _ o20)
    refine rs_Line_article (b := b25) F hK hP (m24 _ _ o20) hb25 kw_284 dX5_split_44 ?_
    refine lv_iconst (v := 0) hx hb dX5_split_47 (by decide) ?_
    refine rp_Article_stock F hK hP hD hS ob25 kw_195 dX5_split_48 (fun H locs hP hD hS => ?_)
    refine lv_aload_n hx hb dX5_split_51 rfl (lv_at hl 2 rfl) ?_
    refine lv_aload_n hx hb dX5_split_52 rfl (lv_at hl 3 rfl) ?_
    refine rs_Line_article (b := b25) F hK hP (m24 _ _ o20) hb25 kw_284 dX5_split_53 ?_
    refine kcallU (kV (n := 1) (As := [.ref b25]) (rest := []) (b := (z 0)) (C := RX5) F hE hK hP hD hS hA (c_X5_reopenOfArticle l hl0 g e0 z (setF T23 12 b25 0) _ (I24.keep (kp_setF I24.kp (by decide) (by decide)).1) b25 ob25) (rr_Pickwave hK hP (I24.1.1 0 (by decide))) kw_508 kw_509 kw_510 kw_2 kw_511 (by decide +kernel) ⟨Nat.le_of_ble_eq_true rfl, Nat.le_of_ble_eq_true rfl⟩ rfl hl.1 rfl (Nat.le_of_ble_eq_true rfl) dX5_split_56 ⟨Nat.le_of_ble_eq_true rfl, Nat.le_of_ble_eq_true rfl⟩) rfl hD hS hA (fun _ _ _ _ _ h => False.elim h) (fun T26 H locs hp hP hD hS => ?_)
    have N27 : Kp z (setF T23 12 b25 0) T26 := hp
    have K27 : Kp z T23 T26 := Kp.trans (kp_setF I24.kp (by decide) (by decide)) N27
    have I27 : Inv z e0 T26 := I24.keep K27.1
    have o28 : Ob T26 2 x := N27.1.ob (m24 _ _ o20)
    have o29 : Ob T26 1 b21 := N27.1.ob (m24 _ _ ob21)
    have o30 : Ob T26 1 b25 := N27.1.ob ob25
    have g31 : pG T26 21 x = some b25 := (congrFun (N27.1.2.2.1 21 (by decide)) x).trans hb25
    refine lv_iload hx hb dX5_split_59 (lv_at hl 0 rfl) ?_
    exact kEndI F hr rfl hlk hP hD hS (Nat.le_of_ble_eq_true rfl) (Nat.le_of_ble_eq_true rfl) dX5_split_61 ⟨_, rfl, ⟨I24.keep K27.1, u24.trans K27.tk⟩⟩
def aOut (ai st re ro : Int32) : Prop := (ai < 0 ∨ 4 ≤ ai) ∨ (ro < 1 ∨ 99 < ro) ∨ (st < 0 ∨ ro < st) ∨ (re < 0 ∨ 999 < re)
theorem aIn {ai st re ro : Int32} (h1 : ¬ ai < 0 ∧ ¬ 4 ≤ ai) (h2 : ¬ ro < 1 ∧ ¬ 99 < ro) (h3 : ¬ st < 0 ∧ ¬ ro < st) (h4 : ¬ re < 0 ∧ ¬ 999 < re) : ¬ aOut ai st re ro := fun h => h.elim (fun h => h.elim h1.1 h1.2) (fun h => h.elim (fun h => h.elim h2.1 h2.2) (fun h => h.elim (fun h => h.elim h3.1 h3.2) (fun h => h.elim h4.1 h4.2)))
theorem dX5_addArticle_0 : decode cX5_addArticle 0 = .ok (.aload_n 0, 1) := by decide +kernel
theorem dX5_addArticle_1 : decode cX5_addArticle 1 = .ok (.iload_n 1, 1) := by decide +kernel
theorem dX5_addArticle_2 : decode cX5_addArticle 2 = .ok (.invokevirtual 46, 3) := by decide +kernel
theorem dX5_addArticle_5 : decode cX5_addArticle 5 = .ok (.ifCond .ne 13, 3) := by decide +kernel
theorem dX5_addArticle_8 : decode cX5_addArticle 8 = .ok (.new 50, 3) := by decide +kernel
theorem dX5_addArticle_11 : decode cX5_addArticle 11 = .ok (.dup, 1) := by decide +kernel
theorem dX5_addArticle_12 : decode cX5_addArticle 12 = .ok (.ldc 52, 2) := by decide +kernel
theorem dX5_addArticle_14 : decode cX5_addArticle 14 = .ok (.invokespecial 54, 3) := by decide +kernel
theorem dX5_addArticle_17 : decode cX5_addArticle 17 = .ok (.athrow, 1) := by decide +kernel
theorem dX5_addArticle_18 : decode cX5_addArticle 18 = .ok (.iload 4, 2) := by decide +kernel
theorem dX5_addArticle_20 : decode cX5_addArticle 20 = .ok (.iconst 1, 1) := by decide +kernel
theorem dX5_addArticle_21 : decode cX5_addArticle 21 = .ok (.bipush 99, 2) := by decide +kernel
theorem dX5_addArticle_23 : decode cX5_addArticle 23 = .ok (.invokestatic 57, 3) := by decide +kernel
theorem dX5_addArticle_26 : decode cX5_addArticle 26 = .ok (.ifCond .eq 13, 3) := by decide +kernel
theorem dX5_addArticle_29 : decode cX5_addArticle 29 = .ok (.iload_n 2, 1) := by decide +kernel
theorem dX5_addArticle_30 : decode cX5_addArticle 30 = .ok (.iconst 0, 1) := by decide +kernel
theorem dX5_addArticle_31 : decode cX5_addArticle 31 = .ok (.iload 4, 2) := by decide +kernel
theorem dX5_addArticle_33 : decode cX5_addArticle 33 = .ok (.invokestatic 57, 3) := by decide +kernel
theorem dX5_addArticle_36 : decode cX5_addArticle 36 = .ok (.ifCond .ne 13, 3) := by decide +kernel
theorem dX5_addArticle_39 : decode cX5_addArticle 39 = .ok (.new 50, 3) := by decide +kernel
theorem dX5_addArticle_42 : decode cX5_addArticle 42 = .ok (.dup, 1) := by decide +kernel
theorem dX5_addArticle_43 : decode cX5_addArticle 43 = .ok (.ldc 61, 2) := by decide +kernel
theorem dX5_addArticle_45 : decode cX5_addArticle 45 = .ok (.invokespecial 54, 3) := by decide +kernel
theorem dX5_addArticle_48 : decode cX5_addArticle 48 = .ok (.athrow, 1) := by decide +kernel
theorem dX5_addArticle_49 : decode cX5_addArticle 49 = .ok (.iload_n 3, 1) := by decide +kernel
theorem dX5_addArticle_50 : decode cX5_addArticle 50 = .ok (.iconst 0, 1) := by decide +kernel
theorem dX5_addArticle_51 : decode cX5_addArticle 51 = .ok (.sipush 999, 3) := by decide +kernel
theorem dX5_addArticle_54 : decode cX5_addArticle 54 = .ok (.invokestatic 57, 3) := by decide +kernel
theorem dX5_addArticle_57 : decode cX5_addArticle 57 = .ok (.ifCond .ne 13, 3) := by decide +kernel
theorem dX5_addArticle_60 : decode cX5_addArticle 60 = .ok (.new 50, 3) := by decide +kernel
theorem dX5_addArticle_63 : decode cX5_addArticle 63 = .ok (.dup, 1) := by decide +kernel
theorem dX5_addArticle_64 : decode cX5_addArticle 64 = .ok (.ldc 63, 2) := by decide +kernel
theorem dX5_addArticle_66 : decode cX5_addArticle 66 = .ok (.invokespecial 54, 3) := by decide +kernel
theorem dX5_addArticle_69 : decode cX5_addArticle 69 = .ok (.athrow, 1) := by decide +kernel
theorem dX5_addArticle_70 : decode cX5_addArticle 70 = .ok (.aload_n 0, 1) := by decide +kernel
theorem dX5_addArticle_71 : decode cX5_addArticle 71 = .ok (.getfield 32, 3) := by decide +kernel
theorem dX5_addArticle_74 : decode cX5_addArticle 74 = .ok (.invokevirtual 65, 3) := by decide +kernel
theorem dX5_addArticle_77 : decode cX5_addArticle 77 = .ok (.bipush 6, 2) := by decide +kernel
theorem dX5_addArticle_79 : decode cX5_addArticle 79 = .ok (.if_icmp .lt 13, 3) := by decide +kernel
theorem dX5_addArticle_82 : decode cX5_addArticle 82 = .ok (.new 69, 3) := by decide +kernel
theorem dX5_addArticle_85 : decode cX5_addArticle 85 = .ok (.dup, 1) := by decide +kernel
theorem dX5_addArticle_86 : decode cX5_addArticle 86 = .ok (.ldc 71, 2) := by decide +kernel
theorem dX5_addArticle_88 : decode cX5_addArticle 88 = .ok (.invokespecial 73, 3) := by decide +kernel
theorem dX5_addArticle_91 : decode cX5_addArticle 91 = .ok (.athrow, 1) := by decide +kernel
theorem dX5_addArticle_92 : decode cX5_addArticle 92 = .ok (.aload_n 0, 1) := by decide +kernel
theorem dX5_addArticle_93 : decode cX5_addArticle 93 = .ok (.getfield 32, 3) := by decide +kernel
theorem dX5_addArticle_96 : decode cX5_addArticle 96 = .ok (.new 74, 3) := by decide +kernel
theorem dX5_addArticle_99 : decode cX5_addArticle 99 = .ok (.dup, 1) := by decide +kernel
theorem dX5_addArticle_100 : decode cX5_addArticle 100 = .ok (.aload_n 0, 1) := by decide +kernel
theorem dX5_addArticle_101 : decode cX5_addArticle 101 = .ok (.getfield 11, 3) := by decide +kernel
theorem dX5_addArticle_104 : decode cX5_addArticle 104 = .ok (.iload_n 1, 1) := by decide +kernel
theorem dX5_addArticle_105 : decode cX5_addArticle 105 = .ok (.aaload, 1) := by decide +kernel
theorem dX5_addArticle_106 : decode cX5_addArticle 106 = .ok (.iload_n 2, 1) := by decide +kernel
theorem dX5_addArticle_107 : decode cX5_addArticle 107 = .ok (.iload_n 3, 1) := by decide +kernel
theorem dX5_addArticle_108 : decode cX5_addArticle 108 = .ok (.iload 4, 2) := by decide +kernel
theorem dX5_addArticle_110 : decode cX5_addArticle 110 = .ok (.invokespecial 76, 3) := by decide +kernel
theorem dX5_addArticle_113 : decode cX5_addArticle 113 = .ok (.invokevirtual 79, 3) := by decide +kernel
theorem dX5_addArticle_116 : decode cX5_addArticle 116 = .ok (.pop, 1) := by decide +kernel
theorem dX5_addArticle_117 : decode cX5_addArticle 117 = .ok (.aload_n 0, 1) := by decide +kernel
theorem dX5_addArticle_118 : decode cX5_addArticle 118 = .ok (.getfield 32, 3) := by decide +kernel
theorem dX5_addArticle_121 : decode cX5_addArticle 121 = .ok (.invokevirtual 65, 3) := by decide +kernel
theorem dX5_addArticle_124 : decode cX5_addArticle 124 = .ok (.iconst 1, 1) := by decide +kernel
theorem dX5_addArticle_125 : decode cX5_addArticle 125 = .ok (.isub, 1) := by decide +kernel
theorem dX5_addArticle_126 : decode cX5_addArticle 126 = .ok (.ireturn, 1) := by decide +kernel
set_option maxHeartbeats 4000000 in
set_option maxRecDepth 100000 in
theorem c_X5_addArticle (l : Launch) (hl0 : l.stackTraces = false) (g : kG) (e0 : Nat) (z : Nat → Nat) (S : wPS) (sz : Nat) (hI : Inv z e0 S) (ai st re ro : Int32) : kM l g e0 yX5_addArticle cX5_addArticle 5 (some .int) 6 101 2 15 [.ref (z 0), .int ai, .int st, .int re, .int ro] S sz (pI (fun r T => ¬ aOut ai st re ro ∧ ∃ n, n + 1 ≤ 6 ∧ pF S 72 (z 10) = nI n ∧ r = nI n ∧ pF T 72 (z 10) = nI (n + 1) ∧ Inv z e0 T ∧ Tr z S T)) (fun E => (E = xA ∧ aOut ai st re ro) ∨ (E = xS ∧ ¬ aOut ai st re ro ∧ ¬ pF S 72 (z 10) < 6)) := by
  refine kM.of (by decide) (Nat.le_of_ble_eq_true rfl) ?_
  intro p e s m below meth c ls B hin
  obtain ⟨F, hr, hlk, hte, hP, hK, hD, hE, hS, hA, hl, hsz⟩ := B
  subst hsz
  have hx := F.1
  have hb := F.2.1
  have hl : lv_has ls 5 [(0, .ref (z 0)), (1, .int ai), (2, .int st), (3, .int re), (4, .int ro)] := hl
  refine lv_aload_n hx hb dX5_addArticle_0 rfl (lv_at hl 0 rfl) ?_
  refine lv_iload_n hx hb dX5_addArticle_1 rfl (lv_at hl 1 rfl) ?_
  refine kcallI (kV (n := 1) (As := [.int ai]) (rest := []) (b := (z 0)) (C := RX5) F hE hK hP hD hS hA (c_X5_isAisle l hl0 g e0 z S _ hI ai) (rr_Pickwave hK hP (hI.1.1 0 (by decide))) kw_102 kw_103 kw_104 kw_2 kw_105 (by decide +kernel) ⟨Nat.le_of_ble_eq_true rfl, Nat.le_of_ble_eq_true rfl⟩ rfl hl.1 rfl (Nat.le_of_ble_eq_true rfl) dX5_addArticle_2 ⟨Nat.le_of_ble_eq_true rfl, Nat.le_of_ble_eq_true rfl⟩) rfl hD hS hA (fun _ _ _ _ _ h => False.elim h) (fun r1 T1 H locs hp hP hD hS => ?_)
  obtain ⟨hT, hp2⟩ := hp
  have hT := hT.symm
  subst hT
  refine lv_if_ne (tgt := 18) hx hb dX5_addArticle_5 (by decide) (fun c3 => ?_) (fun c3 => ?_)
  · have h_ai := (show _ ∧ _ from by rcases hp2 with ⟨-, h1, h2⟩ | ⟨h, -⟩; exact ⟨h1, h2⟩; exact absurd c3 (by rw [h]; decide))
    refine lv_iload hx hb dX5_addArticle_18 (lv_at hl 4 rfl) ?_
    refine lv_iconst (v := 1) hx hb dX5_addArticle_20 (by decide) ?_
    refine lv_bipush (v := 99) hx hb dX5_addArticle_21 (by decide) ?_
    refine kcallI (kSt (n := 3) (As := [.int ro, .int 1, .int 99]) (rest := []) F hE hK hP hD hS hA (c_X5_isBetween l hl0 g e0 S _ ro 1 99) kw_106 kw_107 kw_2 kw_108 (by decide +kernel) ⟨Nat.le_of_ble_eq_true rfl, Nat.le_of_ble_eq_true rfl⟩ rfl hl.1 rfl (Nat.le_of_ble_eq_true rfl) dX5_addArticle_23 ⟨Nat.le_of_ble_eq_true rfl, Nat.le_of_ble_eq_true rfl⟩) rfl hD hS hA (fun _ _ _ _ _ h => False.elim h) (fun r4 T4 H locs hp hP hD hS => ?_)
    obtain ⟨hT, hp5⟩ := hp
    have hT := hT.symm
    subst hT
    refine lv_if_eq (tgt := 39) hx hb dX5_addArticle_26 (by decide) (fun c6 => ?_) (fun c6 => ?_)
    · exact kth_IAE hl0 F hE hlk hte hP hS hl.1 (List.mem_of_getElem? (i := 1) rfl) dX5_addArticle_39 dX5_addArticle_42 dX5_addArticle_43 dX5_addArticle_45 dX5_addArticle_48 ⟨Nat.le_of_ble_eq_true rfl, Nat.le_of_ble_eq_true rfl, Nat.le_of_ble_eq_true rfl, Nat.le_of_ble_eq_true rfl⟩ (Nat.le_of_ble_eq_true rfl) (Nat.le_of_ble_eq_true rfl) (Or.inl ⟨rfl, Or.inr (Or.inl (by rcases hp5 with ⟨h, -, -⟩ | ⟨-, h⟩; exact absurd c6 (by rw [h]; decide); exact h))⟩)
    · have h_ro := (show _ ∧ _ from by rcases hp5 with ⟨-, h1, h2⟩ | ⟨h, -⟩; exact ⟨h1, h2⟩; exact absurd c6 (by rw [h]; decide))
      refine lv_iload_n hx hb dX5_addArticle_29 rfl (lv_at hl 2 rfl) ?_
      refine lv_iconst (v := 0) hx hb dX5_addArticle_30 (by decide) ?_
      refine lv_iload hx hb dX5_addArticle_31 (lv_at hl 4 rfl) ?_
      refine kcallI (kSt (n := 3) (As := [.int st, .int 0, .int ro]) (rest := []) F hE hK hP hD hS hA (c_X5_isBetween l hl0 g e0 S _ st 0 ro) kw_106 kw_107 kw_2 kw_108 (by decide +kernel) ⟨Nat.le_of_ble_eq_true rfl, Nat.le_of_ble_eq_true rfl⟩ rfl hl.1 rfl (Nat.le_of_ble_eq_true rfl) dX5_addArticle_33 ⟨Nat.le_of_ble_eq_true rfl, Nat.le_of_ble_eq_true rfl⟩) rfl hD hS hA (fun _ _ _ _ _ h => False.elim h) (fun r7 T7 H locs hp hP hD hS => ?_)
      obtain ⟨hT, hp8⟩ := hp
      have hT := hT.symm
      subst hT
      refine lv_if_ne (tgt := 49) hx hb dX5_addArticle_36 (by decide) (fun c9 => ?_) (fun c9 => ?_)
      · have h_st := (show _ ∧ _ from by rcases hp8 with ⟨-, h1, h2⟩ | ⟨h, -⟩; exact ⟨h1, h2⟩; exact absurd c9 (by rw [h]; decide))
        refine lv_iload_n hx hb dX5_addArticle_49 rfl (lv_at hl 3 rfl) ?_
        refine lv_iconst (v := 0) hx hb dX5_addArticle_50 (by decide) ?_
        refine lv_sipush (v := 999) hx hb dX5_addArticle_51 (by decide) ?_
        refine kcallI (kSt (n := 3) (As := [.int re, .int 0, .int 999]) (rest := []) F hE hK hP hD hS hA (c_X5_isBetween l hl0 g e0 S _ re 0 999) kw_106 kw_107 kw_2 kw_108 (by decide +kernel) ⟨Nat.le_of_ble_eq_true rfl, Nat.le_of_ble_eq_true rfl⟩ rfl hl.1 rfl (Nat.le_of_ble_eq_true rfl) dX5_addArticle_54 ⟨Nat.le_of_ble_eq_true rfl, Nat.le_of_ble_eq_true rfl⟩) rfl hD hS hA (fun _ _ _ _ _ h => False.elim h) (fun r10 T10 H locs hp hP hD hS => ?_)
        obtain ⟨hT, hp11⟩ := hp
        have hT := hT.symm
        subst hT
        refine lv_if_ne (tgt := 70) hx hb dX5_addArticle_57 (by decide) (fun c12 => ?_) (fun c12 => ?_)
        · have h_re := (show _ ∧ _ from by rcases hp11 with ⟨-, h1, h2⟩ | ⟨h, -⟩; exact ⟨h1, h2⟩; exact absurd c12 (by rw [h]; decide))
          refine lv_aload_n hx hb dX5_addArticle_70 rfl (lv_at hl 0 rfl) ?_
          refine rs_Pickwave_articles (b := z 10) F hK hP (hI.1.1 0 (by decide)) hI.2.1.2.2.2.1 kw_27 dX5_addArticle_71 ?_
          refine kcallI (kV (n := 0) (As := []) (rest := []) (b := (z 10)) (C := RJx4a65c) F hE hK hP hD hS hA (c_Jx4a65c_size_8abf5 l hl0 g e0 S _ (z 10) (hI.1.1 10 (by decide))) (rr_ArrayList hK hP (hI.1.1 10 (by decide))) kw_109 kw_110 kw_111 kw_26 kw_112 (by decide +kernel) ⟨Nat.le_of_ble_eq_true rfl, Nat.le_of_ble_eq_true rfl⟩ rfl hl.1 rfl (Nat.le_of_ble_eq_true rfl) dX5_addArticle_74 ⟨Nat.le_of_ble_eq_true rfl, Nat.le_of_ble_eq_true rfl⟩) rfl hD hS hA (fun _ _ _ _ _ h => False.elim h) (fun r13 T13 H locs hp hP hD hS => ?_)
          obtain ⟨hT, hp14⟩ := hp
          have hT := hT.symm
          subst hT
          refine lv_bipush (v := 6) hx hb dX5_addArticle_77 (by decide) ?_
          refine lv_icmp_lt (tgt := 92) hx hb dX5_addArticle_79 (by decide) (fun c15 => ?_) (fun c15 => ?_)
          · have hs : pF S 72 (z 10) < 6 := by rw [← hp14]; exact c15
            obtain ⟨m1, hm1, hL1⟩ := hI.arts
            have hm2 : m1 + 1 ≤ 6 := kszlt hL1 (by omega) (by decide) hs
            obtain ⟨j, hj, hn⟩ := kix (M := 4) (N := 4) rfl (by decide) h_ai.1 h_ai.2
            refine lv_aload_n hx hb dX5_addArticle_92 rfl (lv_at hl 0 rfl) ?_
            refine rs_Pickwave_articles (b := z 10) F hK hP (hI.1.1 0 (by decide)) hI.2.1.2.2.2.1 kw_27 dX5_addArticle_93 ?_
            refine rn_Article F hK hP hD hS hA kw_99 kw_100 kw_101 (Nat.le_of_ble_eq_true rfl) (Nat.le_of_ble_eq_true rfl) dX5_addArticle_96 (fun q16 H hq16 hP hD hS => ?_)
            refine lv_dup hx hb dX5_addArticle_99 rfl ?_
            refine lv_aload_n hx hb dX5_addArticle_100 rfl (lv_at hl 0 rfl) ?_
            refine rs_Pickwave_aisles (b := z 1) F hK hP (obO_old (kd := 1) hq16 (hI.1.1 0 (by decide))) ((va_up_ne _ _ (kne hq16 (hI.1.1 0 (by decide)))).trans hI.2.1.1) kw_15 dX5_addArticle_101 ?_
            refine lv_iload_n hx hb dX5_addArticle_104 rfl (lv_at hl 1 rfl) ?_
            refine rds_Aisle (b := z (2 + j)) F hK hP (obO_old (kd := 1) hq16 (hI.1.1 1 (by decide))) (by show vp_in ai (pN S (z 1)); rw [hn, hI.2.2.1.1]; exact vp_in_nI hj (by decide)) (by rw [hn, nI_clamp (by omega)]; exact hI.2.2.1.2.1 _ hj) dX5_addArticle_105 ?_
            refine lv_iload_n hx hb dX5_addArticle_106 rfl (lv_at hl 2 rfl) ?_
            refine lv_iload_n hx hb dX5_addArticle_107 rfl (lv_at hl 3 rfl) ?_
            refine lv_iload hx hb dX5_addArticle_108 (lv_at hl 4 rfl) ?_
            refine kcallU (kIn (n := 4) (As := [.ref (z (2 + j)), .int st, .int re, .int ro]) (rest := [.ref q16, .ref (z 10)]) (b := q16) F hE hK hP hD hS hA (c_X1_init l hl0 g e0 (newO S q16 1) _ q16 (z (2 + j)) st re ro (obO_new (S := S) (q := q16) (kd := 1))) kw_114 kw_115 kw_101 kw_116 rfl (by decide +kernel) ⟨Nat.le_of_ble_eq_true rfl, Nat.le_of_ble_eq_true rfl⟩ rfl hl.1 rfl (Nat.le_of_ble_eq_true rfl) dX5_addArticle_110 ⟨Nat.le_of_ble_eq_true rfl, Nat.le_of_ble_eq_true rfl⟩) rfl hD hS hA (fun _ _ _ _ _ h => False.elim h) (fun T17 H locs hp hP hD hS => ?_)
            have hN : NewO S T17 q16 1 := by rw [hp]; exact (NewO.mk hq16).g.f.f.f
            have h10 : pG T17 10 q16 = some (z (2 + j)) := by rw [hp]; exact uG_at
            have hI2 : Inv z e0 T17 := hI.new hN (fun e => hE.2.1.out (by rw [e]; exact kD_in hD hN.self.1)) (Or.inr ⟨rfl, j, hj, h10⟩)
            refine kcallI (kV (n := 1) (As := [.ref q16]) (rest := []) (b := (z 10)) (C := RJx4a65c) F hE hK hP hD hS hA (c_Jx4a65c_add_9ea2d1 l hl0 g e0 T17 _ (z 10) q16 m1 (hI2.1.1 10 (by decide)) hN.self (hN.li (hI.1.1 10 (by decide)) hL1) (by omega) hI2.2.2.2.2.1.2.2.2) (rr_ArrayList hK hP (hI2.1.1 10 (by decide))) kw_122 kw_123 kw_124 kw_26 kw_125 (by decide +kernel) ⟨Nat.le_of_ble_eq_true rfl, Nat.le_of_ble_eq_true rfl⟩ rfl hl.1 rfl (Nat.le_of_ble_eq_true rfl) dX5_addArticle_113 ⟨Nat.le_of_ble_eq_true rfl, Nat.le_of_ble_eq_true rfl⟩) rfl hD hS hA (fun _ _ _ _ _ h => False.elim h) (fun r18 T18 H locs hp hP hD hS => ?_)
            have hR := hp
            have hI3 : Inv z e0 T18 := hI2.add (Or.inl ⟨rfl, rfl, hm2⟩) hR
            have hTr : Tr z S T18 := Tr.trans (show Tr z S T17 from (hN.tk hI).2) (hR.tr hI2)
            have h72 : pF T18 72 (z 10) = nI (m1 + 1) := hR.2.2.2.1.1
            refine lv_pop hx hb dX5_addArticle_116 rfl ?_
            refine lv_aload_n hx hb dX5_addArticle_117 rfl (lv_at hl 0 rfl) ?_
            refine rs_Pickwave_articles (b := z 10) F hK hP (hI3.1.1 0 (by decide)) hI3.2.1.2.2.2.1 kw_27 dX5_addArticle_118 ?_
            refine kcallI (kV (n := 0) (As := []) (rest := []) (b := (z 10)) (C := RJx4a65c) F hE hK hP hD hS hA (c_Jx4a65c_size_8abf5 l hl0 g e0 T18 _ (z 10) (hI3.1.1 10 (by decide))) (rr_ArrayList hK hP (hI3.1.1 10 (by decide))) kw_109 kw_110 kw_111 kw_26 kw_112 (by decide +kernel) ⟨Nat.le_of_ble_eq_true rfl, Nat.le_of_ble_eq_true rfl⟩ rfl hl.1 rfl (Nat.le_of_ble_eq_true rfl) dX5_addArticle_121 ⟨Nat.le_of_ble_eq_true rfl, Nat.le_of_ble_eq_true rfl⟩) rfl hD hS hA (fun _ _ _ _ _ h => False.elim h) (fun r19 T19 H locs hp hP hD hS => ?_)
            obtain ⟨hT, hp20⟩ := hp
            have hT := hT.symm
            subst hT
            refine lv_iconst (v := 1) hx hb dX5_addArticle_124 (by decide) ?_
            refine lv_isub hx hb dX5_addArticle_125 ?_
            refine lv_topi (fun x21 ex21 => ?_)
            exact kEndI F hr rfl hlk hP hD hS (Nat.le_of_ble_eq_true rfl) (Nat.le_of_ble_eq_true rfl) dX5_addArticle_126 ⟨_, rfl, ⟨aIn h_ai h_ro h_st h_re, m1, hm2, hL1.1, by rw [ex21, hp20, h72, ← nI_1]; exact Int32.add_sub_cancel _ _, h72, hI3, hTr⟩⟩
          · exact kth_ISE hl0 F hE hlk hte hP hS hl.1 (List.mem_of_getElem? (i := 3) rfl) dX5_addArticle_82 dX5_addArticle_85 dX5_addArticle_86 dX5_addArticle_88 dX5_addArticle_91 ⟨Nat.le_of_ble_eq_true rfl, Nat.le_of_ble_eq_true rfl, Nat.le_of_ble_eq_true rfl, Nat.le_of_ble_eq_true rfl⟩ (Nat.le_of_ble_eq_true rfl) (Nat.le_of_ble_eq_true rfl) (Or.inr ⟨rfl, aIn h_ai h_ro h_st h_re, by rw [← hp14]; exact c15⟩)
        · exact kth_IAE hl0 F hE hlk hte hP hS hl.1 (List.mem_of_getElem? (i := 2) rfl) dX5_addArticle_60 dX5_addArticle_63 dX5_addArticle_64 dX5_addArticle_66 dX5_addArticle_69 ⟨Nat.le_of_ble_eq_true rfl, Nat.le_of_ble_eq_true rfl, Nat.le_of_ble_eq_true rfl, Nat.le_of_ble_eq_true rfl⟩ (Nat.le_of_ble_eq_true rfl) (Nat.le_of_ble_eq_true rfl) (Or.inl ⟨rfl, Or.inr (Or.inr (Or.inr (by rcases hp11 with ⟨h, -, -⟩ | ⟨-, h⟩; exact absurd c12 (by rw [h]; decide); exact h)))⟩)
      · exact kth_IAE hl0 F hE hlk hte hP hS hl.1 (List.mem_of_getElem? (i := 1) rfl) dX5_addArticle_39 dX5_addArticle_42 dX5_addArticle_43 dX5_addArticle_45 dX5_addArticle_48 ⟨Nat.le_of_ble_eq_true rfl, Nat.le_of_ble_eq_true rfl, Nat.le_of_ble_eq_true rfl, Nat.le_of_ble_eq_true rfl⟩ (Nat.le_of_ble_eq_true rfl) (Nat.le_of_ble_eq_true rfl) (Or.inl ⟨rfl, Or.inr (Or.inr (Or.inl (by rcases hp8 with ⟨h, -, -⟩ | ⟨-, h⟩; exact absurd c9 (by rw [h]; decide); exact h)))⟩)
  · exact kth_IAE hl0 F hE hlk hte hP hS hl.1 (List.mem_of_getElem? (i := 0) rfl) dX5_addArticle_8 dX5_addArticle_11 dX5_addArticle_12 dX5_addArticle_14 dX5_addArticle_17 ⟨Nat.le_of_ble_eq_true rfl, Nat.le_of_ble_eq_true rfl, Nat.le_of_ble_eq_true rfl, Nat.le_of_ble_eq_true rfl⟩ (Nat.le_of_ble_eq_true rfl) (Nat.le_of_ble_eq_true rfl) (Or.inl ⟨rfl, Or.inl (by rcases hp2 with ⟨h, -, -⟩ | ⟨-, h⟩; exact absurd c3 (by rw [h]; decide); exact h)⟩)
theorem dX5_setBlocked_0 : decode cX5_setBlocked 0 = .ok (.aload_n 0, 1) := by decide +kernel
theorem dX5_setBlocked_1 : decode cX5_setBlocked 1 = .ok (.iload_n 1, 1) := by decide +kernel
theorem dX5_setBlocked_2 : decode cX5_setBlocked 2 = .ok (.invokevirtual 117, 3) := by decide +kernel
theorem dX5_setBlocked_5 : decode cX5_setBlocked 5 = .ok (.astore_n 3, 1) := by decide +kernel
theorem dX5_setBlocked_6 : decode cX5_setBlocked 6 = .ok (.aload_n 3, 1) := by decide +kernel
theorem dX5_setBlocked_7 : decode cX5_setBlocked 7 = .ok (.getfield 121, 3) := by decide +kernel
theorem dX5_setBlocked_10 : decode cX5_setBlocked 10 = .ok (.istore 4, 2) := by decide +kernel
theorem dX5_setBlocked_12 : decode cX5_setBlocked 12 = .ok (.aload_n 3, 1) := by decide +kernel
theorem dX5_setBlocked_13 : decode cX5_setBlocked 13 = .ok (.iload_n 2, 1) := by decide +kernel
theorem dX5_setBlocked_14 : decode cX5_setBlocked 14 = .ok (.putfield 121, 3) := by decide +kernel
theorem dX5_setBlocked_17 : decode cX5_setBlocked 17 = .ok (.iload_n 2, 1) := by decide +kernel
theorem dX5_setBlocked_18 : decode cX5_setBlocked 18 = .ok (.ifCond .eq 8, 3) := by decide +kernel
theorem dX5_setBlocked_21 : decode cX5_setBlocked 21 = .ok (.aload_n 0, 1) := by decide +kernel
theorem dX5_setBlocked_22 : decode cX5_setBlocked 22 = .ok (.aload_n 3, 1) := by decide +kernel
theorem dX5_setBlocked_23 : decode cX5_setBlocked 23 = .ok (.invokevirtual 125, 3) := by decide +kernel
theorem dX5_setBlocked_26 : decode cX5_setBlocked 26 = .ok (.iload 4, 2) := by decide +kernel
theorem dX5_setBlocked_28 : decode cX5_setBlocked 28 = .ok (.ireturn, 1) := by decide +kernel
set_option maxHeartbeats 4000000 in
set_option maxRecDepth 100000 in
theorem c_X5_setBlocked (l : Launch) (hl0 : l.stackTraces = false) (g : kG) (e0 : Nat) (z : Nat → Nat) (S : wPS) (sz : Nat) (hI : Inv z e0 S) (n v : Int32) (hv : kBo v) : kM l g e0 yX5_setBlocked cX5_setBlocked 5 (some .boolean) 7 103 1 6 [.ref (z 0), .int n, .int v] S sz (pI (fun r T => ∃ j, j < 4 ∧ n = nI j ∧ r = pF S 1 (z (2 + j)) ∧ Inv z e0 T ∧ Tk z (setF S 1 (z (2 + j)) v) T)) (fun E => E = xI ∧ (n < 0 ∨ 4 ≤ n)) := by
  refine kM.of (by decide) (Nat.le_of_ble_eq_true rfl) ?_
  intro p e s m below meth c ls B hin
  obtain ⟨F, hr, hlk, hte, hP, hK, hD, hE, hS, hA, hl, hsz⟩ := B
  subst hsz
  have hx := F.1
  have hb := F.2.1
  have hl : lv_has ls 5 [(0, .ref (z 0)), (1, .int n), (2, .int v)] := hl
  refine lv_aload_n hx hb dX5_setBlocked_0 rfl (lv_at hl 0 rfl) ?_
  refine lv_iload_n hx hb dX5_setBlocked_1 rfl (lv_at hl 1 rfl) ?_
  refine kcallR (kV (n := 1) (As := [.int n]) (rest := []) (b := (z 0)) (C := RX5) F hE hK hP hD hS hA (c_X5_findAisle l hl0 g e0 z S _ hI n) (rr_Pickwave hK hP (hI.1.1 0 (by decide))) kw_313 kw_314 kw_315 kw_2 kw_316 (by decide +kernel) ⟨Nat.le_of_ble_eq_true rfl, Nat.le_of_ble_eq_true rfl⟩ rfl hl.1 rfl (Nat.le_of_ble_eq_true rfl) dX5_setBlocked_2 ⟨Nat.le_of_ble_eq_true rfl, Nat.le_of_ble_eq_true rfl⟩) rfl hD hS hA (fun E ce q9 H1 locs1 hex hP1 hS1 hce hcv hcl => kthru hte hlk (hex) hP1 hS1 hce hcv hcl (Nat.le_of_ble_eq_true rfl) (Nat.le_of_ble_eq_true rfl)) (fun b1 T1 H locs hp hP hD hS => ?_)
  obtain ⟨hT, hp2⟩ := hp
  have hT := hT.symm
  subst hT
  obtain ⟨j3, hj3, hn3, rfl⟩ := hp2
  refine lv_astore_n (lv' := [(3, .ref (z (2 + j3))), (0, .ref (z 0)), (1, .int n), (2, .int v)]) hx hb dX5_setBlocked_5 rfl hl (by decide) rfl (fun ls hl => ?_)
  refine lv_aload_n hx hb dX5_setBlocked_6 rfl (lv_at hl 0 rfl) ?_
  refine rg_Aisle_blocked F hK hP (hI.oa hj3) kw_312 dX5_setBlocked_7 ?_
  refine lv_topi (fun x4 ex4 => ?_)
  refine lv_istore (lv' := [(4, .int x4), (3, .ref (z (2 + j3))), (0, .ref (z 0)), (1, .int n), (2, .int v)]) hx hb dX5_setBlocked_10 hl (by decide) rfl (fun ls hl => ?_)
  refine lv_aload_n hx hb dX5_setBlocked_12 rfl (lv_at hl 1 rfl) ?_
  refine lv_iload_n hx hb dX5_setBlocked_13 rfl (lv_at hl 4 rfl) ?_
  refine rp_Aisle_blocked F hK hP hD hS (hI.oa hj3) kw_312 (kbo_nar hv) (kbo_fit hv) dX5_setBlocked_14 (fun H locs hP hD hS => ?_)
  have hI2 : Inv z e0 (setF S 1 (z (2 + j3)) v) := hI.setBl hv
  refine lv_iload_n hx hb dX5_setBlocked_17 rfl (lv_at hl 4 rfl) ?_
  refine lv_if_eq (tgt := 26) hx hb dX5_setBlocked_18 (by decide) (fun c5 => ?_) (fun c5 => ?_)
  · refine lv_iload hx hb dX5_setBlocked_26 (lv_at hl 0 rfl) ?_
    exact kEndI F hr (by rw [ex4]; exact kbo_nar (hI.bo hj3)) hlk hP hD hS (Nat.le_of_ble_eq_true rfl) (Nat.le_of_ble_eq_true rfl) dX5_setBlocked_28 ⟨_, rfl, ⟨_, hj3, hn3, ex4, hI2, Tk.rf⟩⟩
  · refine lv_aload_n hx hb dX5_setBlocked_21 rfl (lv_at hl 2 rfl) ?_
    refine lv_aload_n hx hb dX5_setBlocked_22 rfl (lv_at hl 1 rfl) ?_
    refine kcallU (kV (n := 1) (As := [.ref (z (2 + j3))]) (rest := []) (b := (z 0)) (C := RX5) F hE hK hP hD hS hA (c_X5_reopenInAisle l hl0 g e0 z (setF S 1 (z (2 + j3)) v) _ hI2 (z (2 + j3)) (hI.oa hj3)) (rr_Pickwave hK hP (hI2.1.1 0 (by decide))) kw_317 kw_318 kw_319 kw_2 kw_320 (by decide +kernel) ⟨Nat.le_of_ble_eq_true rfl, Nat.le_of_ble_eq_true rfl⟩ rfl hl.1 rfl (Nat.le_of_ble_eq_true rfl) dX5_setBlocked_23 ⟨Nat.le_of_ble_eq_true rfl, Nat.le_of_ble_eq_true rfl⟩) rfl hD hS hA (fun _ _ _ _ _ h => False.elim h) (fun T6 H locs hp hP hD hS => ?_)
    have N7 : Kp z (setF S 1 (z (2 + j3)) v) T6 := hp
    have K7 : Kp z (setF S 1 (z (2 + j3)) v) T6 := Kp.trans hI2.kp N7
    have I7 : Inv z e0 T6 := hI2.keep K7.1
    have o8 : Ob T6 0 (z (2 + j3)) := N7.1.ob (hI.oa hj3)
    refine lv_iload hx hb dX5_setBlocked_26 (lv_at hl 0 rfl) ?_
    exact kEndI F hr (by rw [ex4]; exact kbo_nar (hI.bo hj3)) hlk hP hD hS (Nat.le_of_ble_eq_true rfl) (Nat.le_of_ble_eq_true rfl) dX5_setBlocked_28 ⟨_, rfl, ⟨_, hj3, hn3, ex4, hI2.keep K7.1, K7.tk⟩⟩
theorem dX5_setPickers_0 : decode cX5_setPickers 0 = .ok (.aload_n 0, 1) := by decide +kernel
theorem dX5_setPickers_1 : decode cX5_setPickers 1 = .ok (.iload_n 1, 1) := by decide +kernel
theorem dX5_setPickers_2 : decode cX5_setPickers 2 = .ok (.invokevirtual 117, 3) := by decide +kernel
theorem dX5_setPickers_5 : decode cX5_setPickers 5 = .ok (.astore_n 3, 1) := by decide +kernel
theorem dX5_setPickers_6 : decode cX5_setPickers 6 = .ok (.iload_n 2, 1) := by decide +kernel
theorem dX5_setPickers_7 : decode cX5_setPickers 7 = .ok (.iconst 0, 1) := by decide +kernel
theorem dX5_setPickers_8 : decode cX5_setPickers 8 = .ok (.bipush 9, 2) := by decide +kernel
theorem dX5_setPickers_10 : decode cX5_setPickers 10 = .ok (.invokestatic 57, 3) := by decide +kernel
theorem dX5_setPickers_13 : decode cX5_setPickers 13 = .ok (.ifCond .ne 13, 3) := by decide +kernel
theorem dX5_setPickers_16 : decode cX5_setPickers 16 = .ok (.new 50, 3) := by decide +kernel
theorem dX5_setPickers_19 : decode cX5_setPickers 19 = .ok (.dup, 1) := by decide +kernel
theorem dX5_setPickers_20 : decode cX5_setPickers 20 = .ok (.ldc 129, 2) := by decide +kernel
theorem dX5_setPickers_22 : decode cX5_setPickers 22 = .ok (.invokespecial 54, 3) := by decide +kernel
theorem dX5_setPickers_25 : decode cX5_setPickers 25 = .ok (.athrow, 1) := by decide +kernel
theorem dX5_setPickers_26 : decode cX5_setPickers 26 = .ok (.aload_n 3, 1) := by decide +kernel
theorem dX5_setPickers_27 : decode cX5_setPickers 27 = .ok (.getfield 131, 3) := by decide +kernel
theorem dX5_setPickers_30 : decode cX5_setPickers 30 = .ok (.istore 4, 2) := by decide +kernel
theorem dX5_setPickers_32 : decode cX5_setPickers 32 = .ok (.aload_n 3, 1) := by decide +kernel
theorem dX5_setPickers_33 : decode cX5_setPickers 33 = .ok (.iload_n 2, 1) := by decide +kernel
theorem dX5_setPickers_34 : decode cX5_setPickers 34 = .ok (.putfield 131, 3) := by decide +kernel
theorem dX5_setPickers_37 : decode cX5_setPickers 37 = .ok (.iload 4, 2) := by decide +kernel
theorem dX5_setPickers_39 : decode cX5_setPickers 39 = .ok (.ireturn, 1) := by decide +kernel
set_option maxHeartbeats 4000000 in
set_option maxRecDepth 100000 in
theorem c_X5_setPickers (l : Launch) (hl0 : l.stackTraces = false) (g : kG) (e0 : Nat) (z : Nat → Nat) (S : wPS) (sz : Nat) (hI : Inv z e0 S) (n v : Int32) : kM l g e0 yX5_setPickers cX5_setPickers 5 (some .int) 7 103 2 12 [.ref (z 0), .int n, .int v] S sz (pI (fun r T => ∃ j, j < 4 ∧ n = nI j ∧ (¬ v < 0 ∧ ¬ 9 < v) ∧ r = pF S 2 (z (2 + j)) ∧ T = setF S 2 (z (2 + j)) v)) (fun E => (E = xI ∧ (n < 0 ∨ 4 ≤ n)) ∨ (E = xA ∧ (∃ j, j < 4 ∧ n = nI j) ∧ (v < 0 ∨ 9 < v))) := by
  refine kM.of (by decide) (Nat.le_of_ble_eq_true rfl) ?_
  intro p e s m below meth c ls B hin
  obtain ⟨F, hr, hlk, hte, hP, hK, hD, hE, hS, hA, hl, hsz⟩ := B
  subst hsz
  have hx := F.1
  have hb := F.2.1
  have hl : lv_has ls 5 [(0, .ref (z 0)), (1, .int n), (2, .int v)] := hl
  refine lv_aload_n hx hb dX5_setPickers_0 rfl (lv_at hl 0 rfl) ?_
  refine lv_iload_n hx hb dX5_setPickers_1 rfl (lv_at hl 1 rfl) ?_
  refine kcallR (kV (n := 1) (As := [.int n]) (rest := []) (b := (z 0)) (C := RX5) F hE hK hP hD hS hA (c_X5_findAisle l hl0 g e0 z S _ hI n) (rr_Pickwave hK hP (hI.1.1 0 (by decide))) kw_313 kw_314 kw_315 kw_2 kw_316 (by decide +kernel) ⟨Nat.le_of_ble_eq_true rfl, Nat.le_of_ble_eq_true rfl⟩ rfl hl.1 rfl (Nat.le_of_ble_eq_true rfl) dX5_setPickers_2 ⟨Nat.le_of_ble_eq_true rfl, Nat.le_of_ble_eq_true rfl⟩) rfl hD hS hA (fun E ce q9 H1 locs1 hex hP1 hS1 hce hcv hcl => kthru hte hlk (Or.inl hex) hP1 hS1 hce hcv hcl (Nat.le_of_ble_eq_true rfl) (Nat.le_of_ble_eq_true rfl)) (fun b1 T1 H locs hp hP hD hS => ?_)
  obtain ⟨hT, hp2⟩ := hp
  have hT := hT.symm
  subst hT
  obtain ⟨j3, hj3, hn3, rfl⟩ := hp2
  refine lv_astore_n (lv' := [(3, .ref (z (2 + j3))), (0, .ref (z 0)), (1, .int n), (2, .int v)]) hx hb dX5_setPickers_5 rfl hl (by decide) rfl (fun ls hl => ?_)
  refine lv_iload_n hx hb dX5_setPickers_6 rfl (lv_at hl 3 rfl) ?_
  refine lv_iconst (v := 0) hx hb dX5_setPickers_7 (by decide) ?_
  refine lv_bipush (v := 9) hx hb dX5_setPickers_8 (by decide) ?_
  refine kcallI (kSt (n := 3) (As := [.int v, .int 0, .int 9]) (rest := []) F hE hK hP hD hS hA (c_X5_isBetween l hl0 g e0 S _ v 0 9) kw_106 kw_107 kw_2 kw_108 (by decide +kernel) ⟨Nat.le_of_ble_eq_true rfl, Nat.le_of_ble_eq_true rfl⟩ rfl hl.1 rfl (Nat.le_of_ble_eq_true rfl) dX5_setPickers_10 ⟨Nat.le_of_ble_eq_true rfl, Nat.le_of_ble_eq_true rfl⟩) rfl hD hS hA (fun _ _ _ _ _ h => False.elim h) (fun r4 T4 H locs hp hP hD hS => ?_)
  obtain ⟨hT, hp5⟩ := hp
  have hT := hT.symm
  subst hT
  refine lv_if_ne (tgt := 26) hx hb dX5_setPickers_13 (by decide) (fun c6 => ?_) (fun c6 => ?_)
  · have h_v := (show _ ∧ _ from by rcases hp5 with ⟨-, h1, h2⟩ | ⟨h, -⟩; exact ⟨h1, h2⟩; exact absurd c6 (by rw [h]; decide))
    refine lv_aload_n hx hb dX5_setPickers_26 rfl (lv_at hl 0 rfl) ?_
    refine rg_Aisle_pickers F hK hP (hI.oa hj3) kw_355 dX5_setPickers_27 ?_
    refine lv_topi (fun x7 ex7 => ?_)
    refine lv_istore (lv' := [(4, .int x7), (3, .ref (z (2 + j3))), (0, .ref (z 0)), (1, .int n), (2, .int v)]) hx hb dX5_setPickers_30 hl (by decide) rfl (fun ls hl => ?_)
    refine lv_aload_n hx hb dX5_setPickers_32 rfl (lv_at hl 1 rfl) ?_
    refine lv_iload_n hx hb dX5_setPickers_33 rfl (lv_at hl 4 rfl) ?_
    refine rp_Aisle_pickers F hK hP hD hS (hI.oa hj3) kw_355 dX5_setPickers_34 (fun H locs hP hD hS => ?_)
    refine lv_iload hx hb dX5_setPickers_37 (lv_at hl 0 rfl) ?_
    exact kEndI F hr rfl hlk hP hD hS (Nat.le_of_ble_eq_true rfl) (Nat.le_of_ble_eq_true rfl) dX5_setPickers_39 ⟨_, rfl, ⟨_, hj3, hn3, h_v, ex7, rfl⟩⟩
  · exact kth_IAE hl0 F hE hlk hte hP hS hl.1 (List.mem_of_getElem? (i := 4) rfl) dX5_setPickers_16 dX5_setPickers_19 dX5_setPickers_20 dX5_setPickers_22 dX5_setPickers_25 ⟨Nat.le_of_ble_eq_true rfl, Nat.le_of_ble_eq_true rfl, Nat.le_of_ble_eq_true rfl, Nat.le_of_ble_eq_true rfl⟩ (Nat.le_of_ble_eq_true rfl) (Nat.le_of_ble_eq_true rfl) (Or.inr ⟨rfl, ⟨_, hj3, hn3⟩, (by rcases hp5 with ⟨h, -, -⟩ | ⟨-, h⟩; exact absurd c6 (by rw [h]; decide); exact h)⟩)
theorem dX5_setCutOff_0 : decode cX5_setCutOff 0 = .ok (.aload_n 0, 1) := by decide +kernel
theorem dX5_setCutOff_1 : decode cX5_setCutOff 1 = .ok (.iload_n 1, 1) := by decide +kernel
theorem dX5_setCutOff_2 : decode cX5_setCutOff 2 = .ok (.invokevirtual 200, 3) := by decide +kernel
theorem dX5_setCutOff_5 : decode cX5_setCutOff 5 = .ok (.iload_n 2, 1) := by decide +kernel
theorem dX5_setCutOff_6 : decode cX5_setCutOff 6 = .ok (.iconst 0, 1) := by decide +kernel
theorem dX5_setCutOff_7 : decode cX5_setCutOff 7 = .ok (.sipush 1439, 3) := by decide +kernel
theorem dX5_setCutOff_10 : decode cX5_setCutOff 10 = .ok (.invokestatic 57, 3) := by decide +kernel
theorem dX5_setCutOff_13 : decode cX5_setCutOff 13 = .ok (.ifCond .ne 13, 3) := by decide +kernel
theorem dX5_setCutOff_16 : decode cX5_setCutOff 16 = .ok (.new 50, 3) := by decide +kernel
theorem dX5_setCutOff_19 : decode cX5_setCutOff 19 = .ok (.dup, 1) := by decide +kernel
theorem dX5_setCutOff_20 : decode cX5_setCutOff 20 = .ok (.ldc 210, 2) := by decide +kernel
theorem dX5_setCutOff_22 : decode cX5_setCutOff 22 = .ok (.invokespecial 54, 3) := by decide +kernel
theorem dX5_setCutOff_25 : decode cX5_setCutOff 25 = .ok (.athrow, 1) := by decide +kernel
theorem dX5_setCutOff_26 : decode cX5_setCutOff 26 = .ok (.aload_n 0, 1) := by decide +kernel
theorem dX5_setCutOff_27 : decode cX5_setCutOff 27 = .ok (.getfield 18, 3) := by decide +kernel
theorem dX5_setCutOff_30 : decode cX5_setCutOff 30 = .ok (.iload_n 1, 1) := by decide +kernel
theorem dX5_setCutOff_31 : decode cX5_setCutOff 31 = .ok (.iaload, 1) := by decide +kernel
theorem dX5_setCutOff_32 : decode cX5_setCutOff 32 = .ok (.istore_n 3, 1) := by decide +kernel
theorem dX5_setCutOff_33 : decode cX5_setCutOff 33 = .ok (.aload_n 0, 1) := by decide +kernel
theorem dX5_setCutOff_34 : decode cX5_setCutOff 34 = .ok (.getfield 18, 3) := by decide +kernel
theorem dX5_setCutOff_37 : decode cX5_setCutOff 37 = .ok (.iload_n 1, 1) := by decide +kernel
theorem dX5_setCutOff_38 : decode cX5_setCutOff 38 = .ok (.iload_n 2, 1) := by decide +kernel
theorem dX5_setCutOff_39 : decode cX5_setCutOff 39 = .ok (.iastore, 1) := by decide +kernel
theorem dX5_setCutOff_40 : decode cX5_setCutOff 40 = .ok (.iload_n 3, 1) := by decide +kernel
theorem dX5_setCutOff_41 : decode cX5_setCutOff 41 = .ok (.ireturn, 1) := by decide +kernel
set_option maxHeartbeats 4000000 in
set_option maxRecDepth 100000 in
theorem c_X5_setCutOff (l : Launch) (hl0 : l.stackTraces = false) (g : kG) (e0 : Nat) (z : Nat → Nat) (S : wPS) (sz : Nat) (hI : Inv z e0 S) (n v : Int32) : kM l g e0 yX5_setCutOff cX5_setCutOff 4 (some .int) 7 103 2 12 [.ref (z 0), .int n, .int v] S sz (pI (fun r T => ∃ j, j < 3 ∧ n = nI j ∧ (¬ v < 0 ∧ ¬ 1439 < v) ∧ r = pX S (z 6) j ∧ T = setX S (z 6) (upd (pX S (z 6)) j v))) (fun E => (E = xI ∧ (n < 0 ∨ 3 ≤ n)) ∨ (E = xA ∧ (∃ j, j < 3 ∧ n = nI j) ∧ (v < 0 ∨ 1439 < v))) := by
  refine kM.of (by decide) (Nat.le_of_ble_eq_true rfl) ?_
  intro p e s m below meth c ls B hin
  obtain ⟨F, hr, hlk, hte, hP, hK, hD, hE, hS, hA, hl, hsz⟩ := B
  subst hsz
  have hx := F.1
  have hb := F.2.1
  have hl : lv_has ls 4 [(0, .ref (z 0)), (1, .int n), (2, .int v)] := hl
  refine lv_aload_n hx hb dX5_setCutOff_0 rfl (lv_at hl 0 rfl) ?_
  refine lv_iload_n hx hb dX5_setCutOff_1 rfl (lv_at hl 1 rfl) ?_
  refine kcallU (kV (n := 1) (As := [.int n]) (rest := []) (b := (z 0)) (C := RX5) F hE hK hP hD hS hA (c_X5_checkCarrier l hl0 g e0 z S _ hI n) (rr_Pickwave hK hP (hI.1.1 0 (by decide))) kw_524 kw_525 kw_526 kw_2 kw_527 (by decide +kernel) ⟨Nat.le_of_ble_eq_true rfl, Nat.le_of_ble_eq_true rfl⟩ rfl hl.1 rfl (Nat.le_of_ble_eq_true rfl) dX5_setCutOff_2 ⟨Nat.le_of_ble_eq_true rfl, Nat.le_of_ble_eq_true rfl⟩) rfl hD hS hA (fun E ce q9 H1 locs1 hex hP1 hS1 hce hcv hcl => kthru hte hlk (Or.inl hex) hP1 hS1 hce hcv hcl (Nat.le_of_ble_eq_true rfl) (Nat.le_of_ble_eq_true rfl)) (fun T1 H locs hp hP hD hS => ?_)
  obtain ⟨hT, hp2⟩ := hp
  have hT := hT.symm
  subst hT
  obtain ⟨j, hj, hn⟩ := kix (M := 3) (N := 3) rfl (by decide) hp2.1 hp2.2
  have hcl : n.toNatClampNeg = j := by rw [hn, nI_clamp (by omega)]
  refine lv_iload_n hx hb dX5_setCutOff_5 rfl (lv_at hl 2 rfl) ?_
  refine lv_iconst (v := 0) hx hb dX5_setCutOff_6 (by decide) ?_
  refine lv_sipush (v := 1439) hx hb dX5_setCutOff_7 (by decide) ?_
  refine kcallI (kSt (n := 3) (As := [.int v, .int 0, .int 1439]) (rest := []) F hE hK hP hD hS hA (c_X5_isBetween l hl0 g e0 S _ v 0 1439) kw_106 kw_107 kw_2 kw_108 (by decide +kernel) ⟨Nat.le_of_ble_eq_true rfl, Nat.le_of_ble_eq_true rfl⟩ rfl hl.1 rfl (Nat.le_of_ble_eq_true rfl) dX5_setCutOff_10 ⟨Nat.le_of_ble_eq_true rfl, Nat.le_of_ble_eq_true rfl⟩) rfl hD hS hA (fun _ _ _ _ _ h => False.elim h) (fun r3 T3 H locs hp hP hD hS => ?_)
  obtain ⟨hT, hp4⟩ := hp
  have hT := hT.symm
  subst hT
  refine lv_if_ne (tgt := 26) hx hb dX5_setCutOff_13 (by decide) (fun c5 => ?_) (fun c5 => ?_)
  · have h_v := (show _ ∧ _ from by rcases hp4 with ⟨-, h1, h2⟩ | ⟨h, -⟩; exact ⟨h1, h2⟩; exact absurd c5 (by rw [h]; decide))
    refine lv_aload_n hx hb dX5_setCutOff_26 rfl (lv_at hl 0 rfl) ?_
    refine rs_Pickwave_cutOffs (b := z 6) F hK hP (hI.1.1 0 (by decide)) hI.2.1.2.1 kw_19 dX5_setCutOff_27 ?_
    refine lv_iload_n hx hb dX5_setCutOff_30 rfl (lv_at hl 1 rfl) ?_
    refine rd_I F hK hP (hI.1.1 6 (by decide)) (by show vp_in n (pN S (z 6)); rw [hn, hI.2.2.1.2.2.1]; exact vp_in_nI hj (by decide)) dX5_setCutOff_31 ?_
    refine lv_topi (fun x6 ex6 => ?_)
    refine lv_istore_n (lv' := [(3, .int x6), (0, .ref (z 0)), (1, .int n), (2, .int v)]) hx hb dX5_setCutOff_32 rfl hl (by decide) rfl (fun ls hl => ?_)
    refine lv_aload_n hx hb dX5_setCutOff_33 rfl (lv_at hl 1 rfl) ?_
    refine rs_Pickwave_cutOffs (b := z 6) F hK hP (hI.1.1 0 (by decide)) hI.2.1.2.1 kw_19 dX5_setCutOff_34 ?_
    refine lv_iload_n hx hb dX5_setCutOff_37 rfl (lv_at hl 2 rfl) ?_
    refine lv_iload_n hx hb dX5_setCutOff_38 rfl (lv_at hl 3 rfl) ?_
    refine rt_I F hK hP hD hS (hI.1.1 6 (by decide)) (by show vp_in n (pN S (z 6)); rw [hn, hI.2.2.1.2.2.1]; exact vp_in_nI hj (by decide)) dX5_setCutOff_39 (fun H locs hP hD hS => ?_)
    refine lv_iload_n hx hb dX5_setCutOff_40 rfl (lv_at hl 0 rfl) ?_
    exact kEndI F hr rfl hlk hP hD hS (Nat.le_of_ble_eq_true rfl) (Nat.le_of_ble_eq_true rfl) dX5_setCutOff_41 ⟨_, rfl, ⟨j, hj, hn, h_v, by rw [ex6, hcl], by rw [hcl]⟩⟩
  · exact kth_IAE hl0 F hE hlk hte hP hS hl.1 (List.mem_of_getElem? (i := 15) rfl) dX5_setCutOff_16 dX5_setCutOff_19 dX5_setCutOff_20 dX5_setCutOff_22 dX5_setCutOff_25 ⟨Nat.le_of_ble_eq_true rfl, Nat.le_of_ble_eq_true rfl, Nat.le_of_ble_eq_true rfl, Nat.le_of_ble_eq_true rfl⟩ (Nat.le_of_ble_eq_true rfl) (Nat.le_of_ble_eq_true rfl) (Or.inr ⟨rfl, ⟨j, hj, hn⟩, (by rcases hp4 with ⟨h, -, -⟩ | ⟨-, h⟩; exact absurd c5 (by rw [h]; decide); exact h)⟩)
