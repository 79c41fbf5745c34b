theorem q_send_32 {j a mi ld : Nat} {q : qS} : q_send j a mi ld q 32 j = mi := by
  unfold q_send
  rw [q_k (by decide), q_k (by decide), q_k (by decide), q_at]
set_option maxHeartbeats 4000000 in
set_option maxRecDepth 100000 in
theorem c_X5_send_x (l : Launch) (hl0 : l.stackTraces = false) (g : kG) (e0 : Nat) (z : Nat → Nat) (S : wPS) (sz : Nat) (hI : Inv z e0 S) (av lv : Nat → Nat) (q : qS) (hR : Rq z av lv S q) (hW : q_W q) (h13 : ∀ a, a < q 72 0 → q 13 a < 2 ^ 31) (h2 : ∀ b, b < 4 → q 2 b ≤ 10) (n a : Int32) : kM l g e0 yX5_send cX5_send 6 (some .int) 7 103 3 18 [.ref (z 0), .int n, .int a] S sz (pI (fun r T => Inv z e0 T ∧ ∃ j i mi ld, j < 2 ∧ n = nI j ∧ i < q 72 0 ∧ a = nI i ∧ 3 ≤ mi ∧ mi ≤ 30 ∧ 0 < ld ∧ ld ≤ 10 ∧ ld ≤ q 13 i ∧ q 30 j = 0 ∧ Rq z av lv T (q_send j i mi ld q) ∧ r = nI mi)) (fun E => E = xI ∨ E = xU ∨ E = xS ∨ E = xN) := by
  refine kM.of (by decide) (Nat.le_of_ble_eq_true rfl) ?_
  intro p e s m below meth c ls B hin
  obtain ⟨F, hr, hlk, hte, hP, hK, hD, hE, hS, hA, hl, hsz⟩ := B
  subst hsz
  have hx := F.1
  have hb := F.2.1
  have hl : lv_has ls 6 [(0, .ref (z 0)), (1, .int n), (2, .int a)] := hl
  have h12 : q 72 0 ≤ 12 := by have := hW.1.1.1; omega
  refine lv_aload_n hx hb dX5_send_0 rfl (lv_at hl 0 rfl) ?_
  refine lv_iload_n hx hb dX5_send_1 rfl (lv_at hl 1 rfl) ?_
  refine kcallR (kV (n := 1) (As := [.int n]) (rest := []) (b := (z 0)) (C := RX5) F hE hK hP hD hS hA (c_X5_findRobot l hl0 g e0 z S _ hI n) (rr_Pickwave hK hP (hI.1.1 0 (by decide))) kw_244 kw_245 kw_246 kw_2 kw_247 (by decide +kernel) ⟨Nat.le_of_ble_eq_true rfl, Nat.le_of_ble_eq_true rfl⟩ rfl hl.1 rfl (Nat.le_of_ble_eq_true rfl) dX5_send_2 ⟨Nat.le_of_ble_eq_true rfl, Nat.le_of_ble_eq_true rfl⟩) rfl hD hS hA (fun E ce q9 H1 locs1 hex hP1 hS1 hce hcv hcl => kthru hte hlk (Or.inl hex.1) hP1 hS1 hce hcv hcl (Nat.le_of_ble_eq_true rfl) (Nat.le_of_ble_eq_true rfl)) (fun b1 T1 H locs hp hP hD hS => ?_)
  obtain ⟨hT, hp2⟩ := hp
  have hT := hT.symm
  subst hT
  obtain ⟨j3, hj3, hn3, rfl⟩ := hp2
  refine lv_astore_n (lv' := [(3, .ref (z (8 + j3))), (0, .ref (z 0)), (1, .int n), (2, .int a)]) hx hb dX5_send_5 rfl hl (by decide) rfl (fun ls hl => ?_)
  refine lv_aload_n hx hb dX5_send_6 rfl (lv_at hl 1 rfl) ?_
  refine lv_iload_n hx hb dX5_send_7 rfl (lv_at hl 3 rfl) ?_
  refine kcallR (kV (n := 1) (As := [.int a]) (rest := []) (b := (z 0)) (C := RX5) F hE hK hP hD hS hA (c_X5_findArticle_x l hl0 g e0 z S _ hI av lv q hR h12 a) (rr_Pickwave hK hP (hI.1.1 0 (by decide))) kw_197 kw_198 kw_199 kw_2 kw_200 (by decide +kernel) ⟨Nat.le_of_ble_eq_true rfl, Nat.le_of_ble_eq_true rfl⟩ rfl hl.1 rfl (Nat.le_of_ble_eq_true rfl) dX5_send_8 ⟨Nat.le_of_ble_eq_true rfl, Nat.le_of_ble_eq_true rfl⟩) rfl hD hS hA (fun E ce q9 H1 locs1 hex hP1 hS1 hce hcv hcl => kthru hte hlk (Or.inl hex.1) hP1 hS1 hce hcv hcl (Nat.le_of_ble_eq_true rfl) (Nat.le_of_ble_eq_true rfl)) (fun b4 T4 H locs hp hP hD hS => ?_)
  obtain ⟨hT, hp5⟩ := hp
  have hT := hT.symm
  subst hT
  obtain ⟨i6, hi6, hn6, rfl⟩ := hp5
  refine lv_astore (lv' := [(4, .ref (av i6)), (3, .ref (z (8 + j3))), (0, .ref (z 0)), (1, .int n), (2, .int a)]) hx hb dX5_send_11 hl (by decide) rfl (fun ls hl => ?_)
  refine lv_aload hx hb dX5_send_13 (lv_at hl 0 rfl) ?_
  refine rs_Article_aisle (b := z (2 + q 10 i6)) F hK hP (hR.1 i6 hi6).1 ((hR.1 i6 hi6).2.2.1) kw_369 dX5_send_15 ?_
  refine rg_Aisle_blocked F hK hP (hI.oa (hR.1 i6 hi6).2.2.2.1) kw_360 dX5_send_18 ?_
  refine lv_topi (fun x7 ex7 => ?_)
  refine lv_if_eq (tgt := 34) hx hb dX5_send_21 (by decide) (fun c8 => ?_) (fun c8 => ?_)
  · refine lv_aload_n hx hb dX5_send_34 rfl (lv_at hl 1 rfl) ?_
    rcases (Nat.eq_zero_or_pos (q 30 j3)) with hz | hz
    · refine rz_Robot_article F hK hP (hI.or hj3) ((hR.2.2.2.2.2.1 j3 hj3).1.trans (if_pos hz)) kw_457 dX5_send_35 ?_
      refine lv_ifnullN (tgt := 51) hx hb dX5_send_38 (by decide) ?_
      refine lv_bipush (v := 10) hx hb dX5_send_51 (by decide) ?_
      refine lv_aload hx hb dX5_send_53 (lv_at hl 0 rfl) ?_
      refine rg_Article_reserve F hK hP (hR.1 i6 hi6).1 kw_227 dX5_send_55 ?_
      refine lv_topi (fun x9 ex9 => ?_)
      refine lv_aload hx hb dX5_send_58 (lv_at hl 0 rfl) ?_
      refine kcallI (kV (n := 0) (As := []) (rest := [.int x9, .int 10]) (b := (av i6)) (C := RX1) F hE hK hP hD hS hA (c_X1_roomLeft l hl0 g e0 S _ (av i6) (hR.1 i6 hi6).1) (rr_Article hK hP (hR.1 i6 hi6).1) kw_386 kw_387 kw_388 kw_82 kw_389 (by decide +kernel) ⟨Nat.le_of_ble_eq_true rfl, Nat.le_of_ble_eq_true rfl⟩ rfl hl.1 rfl (Nat.le_of_ble_eq_true rfl) dX5_send_60 ⟨Nat.le_of_ble_eq_true rfl, Nat.le_of_ble_eq_true rfl⟩) rfl hD hS hA (fun _ _ _ _ _ h => False.elim h) (fun r10 T10 H locs hp hP hD hS => ?_)
      obtain ⟨hT, hp11⟩ := hp
      have hT := hT.symm
      subst hT
      refine va_mmin hx hb (by rw [F.2.2.1]; exact hl.1.symm) F.2.2.2.1 (F.2.2.2.2 _ kw_458) (F.2.2.2.2 _ kw_149) (F.2.2.2.2 _ kw_123) (F.2.2.2.2 _ kw_150) (Nat.le_of_ble_eq_true rfl) (Nat.le_of_ble_eq_true rfl) (Nat.le_of_ble_eq_true rfl) (Nat.le_of_ble_eq_true rfl) dX5_send_63 ?_
      refine lv_topi (fun x12 ex12 => ?_)
      refine va_mmin hx hb (by rw [F.2.2.1]; exact hl.1.symm) F.2.2.2.1 (F.2.2.2.2 _ kw_458) (F.2.2.2.2 _ kw_149) (F.2.2.2.2 _ kw_123) (F.2.2.2.2 _ kw_150) (Nat.le_of_ble_eq_true rfl) (Nat.le_of_ble_eq_true rfl) (Nat.le_of_ble_eq_true rfl) (Nat.le_of_ble_eq_true rfl) dX5_send_66 ?_
      refine lv_topi (fun x13 ex13 => ?_)
      refine lv_istore (lv' := [(5, .int x13), (4, .ref (av i6)), (3, .ref (z (8 + j3))), (0, .ref (z 0)), (1, .int n), (2, .int a)]) hx hb dX5_send_69 hl (by decide) rfl (fun ls hl => ?_)
      refine lv_iload hx hb dX5_send_71 (lv_at hl 0 rfl) ?_
      refine lv_if_gt (tgt := 86) hx hb dX5_send_73 (by decide) (fun c14 => ?_) (fun c14 => ?_)
      · have hld : 0 < min 10 (min (q 13 i6) (q 11 i6 - q 12 i6)) := (Nat.eq_zero_or_pos (min 10 (min (q 13 i6) (q 11 i6 - q 12 i6)))).elim (fun h => absurd c14 (Int32.not_lt.mpr (by rw [(show x13 = nI (min 10 (min (q 13 i6) (q 11 i6 - q 12 i6))) from (by rw [ex13, (show (10 : Int32) = nI 10 from rfl), (show (x12 : Int32) = nI (min (q 13 i6) (q 11 i6 - q 12 i6)) from (by rw [ex12, (show (x9 : Int32) = nI (q 13 i6) from (ex9.trans ((hR.1 i6 hi6).2.2.2.2 13 (by decide)))), (show (r10 : Int32) = nI (q 11 i6 - q 12 i6) from (by rw [hp11, ((hR.1 i6 hi6).2.2.2.2 11 (by decide)), ((hR.1 i6 hi6).2.2.2.2 12 (by decide))]; exact nI_subI (hW.2.1 _ hi6).2.1))]; exact nI_min (h13 _ hi6) (by have := (hW.2.1 _ hi6).2; omega)))]; exact nI_min (by decide) (by have := h13 _ hi6; omega))), h]; decide))) id
        have hl10 : min 10 (min (q 13 i6) (q 11 i6 - q 12 i6)) ≤ 10 := Nat.min_le_left _ _
        have hl13 : min 10 (min (q 13 i6) (q 11 i6 - q 12 i6)) ≤ q 13 i6 := Nat.le_trans (Nat.min_le_right _ _) (Nat.min_le_left _ _)
        refine lv_aload_n hx hb dX5_send_86 rfl (lv_at hl 2 rfl) ?_
        refine lv_aload_n hx hb dX5_send_87 rfl (lv_at hl 3 rfl) ?_
        refine lv_aload hx hb dX5_send_88 (lv_at hl 1 rfl) ?_
        refine rs_Article_aisle (b := z (2 + q 10 i6)) F hK hP (hR.1 i6 hi6).1 ((hR.1 i6 hi6).2.2.1) kw_369 dX5_send_90 ?_
        refine kcallI (kV (n := 1) (As := [.ref (z (2 + q 10 i6))]) (rest := [.ref (z (8 + j3))]) (b := (z 0)) (C := RX5) F hE hK hP hD hS hA (c_X5_minutesOfAWay_x l hl0 g e0 z S _ hI av lv q hR (q 10 i6) (hR.1 i6 hi6).2.2.2.1 (h2 _ (hR.1 _ hi6).2.2.2.1)) (rr_Pickwave hK hP (hI.1.1 0 (by decide))) kw_459 kw_460 kw_461 kw_2 kw_462 (by decide +kernel) ⟨Nat.le_of_ble_eq_true rfl, Nat.le_of_ble_eq_true rfl⟩ rfl hl.1 rfl (Nat.le_of_ble_eq_true rfl) dX5_send_93 ⟨Nat.le_of_ble_eq_true rfl, Nat.le_of_ble_eq_true rfl⟩) rfl hD hS hA (fun _ _ _ _ _ h => False.elim h) (fun r15 T15 H locs hp hP hD hS => ?_)
        obtain ⟨hT, hp16⟩ := hp
        have hT := hT.symm
        subst hT
        obtain ⟨mi17, mia17, mib17, mie17⟩ := hp16
        refine rp_Robot_minutes F hK hP hD hS (hI.or hj3) kw_255 dX5_send_96 (fun H locs hP hD hS => ?_)
        have hR18 := Rq.robx (x := r15) (f := 32) (v := mi17) hR hI.1.2 hj3 (by decide) mie17
        refine lv_aload_n hx hb dX5_send_99 rfl (lv_at hl 2 rfl) ?_
        refine lv_aload hx hb dX5_send_100 (lv_at hl 1 rfl) ?_
        refine rps_Robot_article F hK hP hD hS (hI.or hj3) kw_457 dX5_send_102 (fun H locs hP hD hS => ?_)
        have hI2 : Inv z e0 (setG (setF S 32 (z (8 + j3)) r15) 30 (z (8 + j3)) (some (av i6))) := Inv.setRob (hI.keep (kp_setF hI.kp (by decide) (by decide)).1) (hR.1 i6 hi6).1
        have hR19 := Rq.way (v := i6 + 1) hR18 hI.1.2 hj3 ((if_neg (Nat.succ_ne_zero _)).symm)
        refine lv_aload_n hx hb dX5_send_105 rfl (lv_at hl 2 rfl) ?_
        refine lv_iload hx hb dX5_send_106 (lv_at hl 0 rfl) ?_
        refine rp_Robot_load F hK hP hD hS (hI.or hj3) kw_243 dX5_send_108 (fun H locs hP hD hS => ?_)
        have hR20 := Rq.robx (x := x13) (f := 31) (v := (min 10 (min (q 13 i6) (q 11 i6 - q 12 i6)))) hR19 hI.1.2 hj3 (by decide) (by rw [ex13, (show (10 : Int32) = nI 10 from rfl), (show (x12 : Int32) = nI (min (q 13 i6) (q 11 i6 - q 12 i6)) from (by rw [ex12, (show (x9 : Int32) = nI (q 13 i6) from (ex9.trans ((hR.1 i6 hi6).2.2.2.2 13 (by decide)))), (show (r10 : Int32) = nI (q 11 i6 - q 12 i6) from (by rw [hp11, ((hR.1 i6 hi6).2.2.2.2 11 (by decide)), ((hR.1 i6 hi6).2.2.2.2 12 (by decide))]; exact nI_subI (hW.2.1 _ hi6).2.1))]; exact nI_min (h13 _ hi6) (by have := (hW.2.1 _ hi6).2; omega)))]; exact nI_min (by decide) (by have := h13 _ hi6; omega))
        refine lv_aload hx hb dX5_send_111 (lv_at hl 1 rfl) ?_
        refine lv_dup hx hb dX5_send_113 rfl ?_
        refine rg_Article_reserve F hK hP (hR.1 i6 hi6).1 kw_227 dX5_send_114 ?_
        refine lv_topi (fun x21 ex21 => ?_)
        refine lv_iload hx hb dX5_send_117 (lv_at hl 0 rfl) ?_
        refine lv_isub hx hb dX5_send_119 ?_
        refine lv_topi (fun x22 ex22 => ?_)
        refine rp_Article_reserve F hK hP hD hS (hR.1 i6 hi6).1 kw_227 dX5_send_120 (fun H locs hP hD hS => ?_)
        have hR23 := Rq.artx (x := x22) (f := 13) (v := (((q_up (q_up (q_up q 32 j3 mi17) 30 j3 (i6 + 1)) 31 j3 (min 10 (min (q 13 i6) (q 11 i6 - q 12 i6)))) 13 i6) - (min 10 (min (q 13 i6) (q 11 i6 - q 12 i6))))) hR20 hi6 (by decide) (by rw [ex22, (show (x21 : Int32) = nI ((q_up (q_up (q_up q 32 j3 mi17) 30 j3 (i6 + 1)) 31 j3 (min 10 (min (q 13 i6) (q 11 i6 - q 12 i6)))) 13 i6) from (ex21.trans ((hR20.1 i6 hi6).2.2.2.2 13 (by decide)))), (show (x13 : Int32) = nI (min 10 (min (q 13 i6) (q 11 i6 - q 12 i6))) from (by rw [ex13, (show (10 : Int32) = nI 10 from rfl), (show (x12 : Int32) = nI (min (q 13 i6) (q 11 i6 - q 12 i6)) from (by rw [ex12, (show (x9 : Int32) = nI (q 13 i6) from (ex9.trans ((hR.1 i6 hi6).2.2.2.2 13 (by decide)))), (show (r10 : Int32) = nI (q 11 i6 - q 12 i6) from (by rw [hp11, ((hR.1 i6 hi6).2.2.2.2 11 (by decide)), ((hR.1 i6 hi6).2.2.2.2 12 (by decide))]; exact nI_subI (hW.2.1 _ hi6).2.1))]; exact nI_min (h13 _ hi6) (by have := (hW.2.1 _ hi6).2; omega)))]; exact nI_min (by decide) (by have := h13 _ hi6; omega)))]; exact nI_subI hl13)
        refine lv_aload_n hx hb dX5_send_123 rfl (lv_at hl 2 rfl) ?_
        refine rg_Robot_minutes F hK hP (hI.or hj3) kw_255 dX5_send_124 ?_
        refine lv_topi (fun x24 ex24 => ?_)
        exact kEndI F hr rfl hlk hP hD hS (Nat.le_of_ble_eq_true rfl) (Nat.le_of_ble_eq_true rfl) dX5_send_127 ⟨_, rfl, ⟨hI2.keep (kp_setF (kp_setF hI2.kp (by decide) (by decide)) (by decide) (by decide)).1, j3, i6, mi17, _, hj3, hn3, hi6, hn6, mia17, mib17, hld, hl10, hl13, hz, hR23, ((show x24 = nI ((q_up (q_up (q_up (q_up q 32 j3 mi17) 30 j3 (i6 + 1)) 31 j3 (min 10 (min (q 13 i6) (q 11 i6 - q 12 i6)))) 13 i6 (((q_up (q_up (q_up q 32 j3 mi17) 30 j3 (i6 + 1)) 31 j3 (min 10 (min (q 13 i6) (q 11 i6 - q 12 i6)))) 13 i6) - (min 10 (min (q 13 i6) (q 11 i6 - q 12 i6))))) 32 j3) from (ex24.trans ((hR23.2.2.2.2.2.1 j3 hj3).2 32 (by decide)))).trans (congrArg nI q_send_32))⟩⟩
      · exact kth_NSEE hl0 F hE hlk hte hP hS hl.1 (List.mem_of_getElem? (i := 19) rfl) dX5_send_76 dX5_send_79 dX5_send_80 dX5_send_82 dX5_send_85 ⟨Nat.le_of_ble_eq_true rfl, Nat.le_of_ble_eq_true rfl, Nat.le_of_ble_eq_true rfl, Nat.le_of_ble_eq_true rfl⟩ (Nat.le_of_ble_eq_true rfl) (Nat.le_of_ble_eq_true rfl) (Or.inr (Or.inr (Or.inr rfl)))
    · have ha30hz : q 30 j3 - 1 < q 72 0 := by have := hW.1.2.2.2.2.2.1 j3 hj3; omega
      refine rs_Robot_article (b := av (q 30 j3 - 1)) F hK hP (hI.or hj3) ((hR.2.2.2.2.2.1 j3 hj3).1.trans (if_neg (Nat.pos_iff_ne_zero.mp hz))) kw_457 dX5_send_35 ?_
      refine lv_ifnull hx hb dX5_send_38 ?_
      exact kth_ISE hl0 F hE hlk hte hP hS hl.1 (List.mem_of_getElem? (i := 18) rfl) dX5_send_41 dX5_send_44 dX5_send_45 dX5_send_47 dX5_send_50 ⟨Nat.le_of_ble_eq_true rfl, Nat.le_of_ble_eq_true rfl, Nat.le_of_ble_eq_true rfl, Nat.le_of_ble_eq_true rfl⟩ (Nat.le_of_ble_eq_true rfl) (Nat.le_of_ble_eq_true rfl) (Or.inr (Or.inr (Or.inl rfl)))
  · exact kth_UOE hl0 F hE hlk hte hP hS hl.1 (List.mem_of_getElem? (i := 13) rfl) dX5_send_24 dX5_send_27 dX5_send_28 dX5_send_30 dX5_send_33 ⟨Nat.le_of_ble_eq_true rfl, Nat.le_of_ble_eq_true rfl, Nat.le_of_ble_eq_true rfl, Nat.le_of_ble_eq_true rfl⟩ (Nat.le_of_ble_eq_true rfl) (Nat.le_of_ble_eq_true rfl) (Or.inr (Or.inl rfl))
set_option maxHeartbeats 4000000 in
set_option maxRecDepth 100000 in
theorem c_X5_pass_x (l : Launch) (hl0 : l.stackTraces = false) (g : kG) (e0 : Nat) (z : Nat → Nat) (S : wPS) (sz : Nat) (hI : Inv z e0 S) (av lv : Nat → Nat) (q : qS) (hR : Rq z av lv S q) (hW : q_W q) (N : Nat) (n : Int32) (hnN : n = nI N) (hN : N ≤ 60) (h56 : q 56 0 ≤ 1439) (h32 : ∀ r, r < 2 → q 32 r ≤ 30) (hb1 : ∀ b, b < 4 → q 1 b < 2 ^ 31) : kM l g e0 yX5_pass cX5_pass 5 (some .int) 6 82 1 6 [.ref (z 0), .int n] S sz (pI (fun r T => Inv z e0 T ∧ 1 ≤ N ∧ q 56 0 + N ≤ 1439 ∧ Rq z av lv T (q_pass N q) ∧ ∃ c, c ≤ 20 * N ∧ r = nI c)) (fun E => E = xA) := by
  refine kM.of (by decide) (Nat.le_of_ble_eq_true rfl) ?_
  intro p e s m below meth c ls B hin
  obtain ⟨F, hr, hlk, hte, hP, hK, hD, hE, hS, hA, hl, hsz⟩ := B
  subst hsz
  have hx := F.1
  have hb := F.2.1
  have hl : lv_has ls 5 [(0, .ref (z 0)), (1, .int n)] := hl
  refine lv_iload_n hx hb dX5_pass_0 rfl (lv_at hl 1 rfl) ?_
  refine lv_iconst (v := 1) hx hb dX5_pass_1 (by decide) ?_
  refine lv_bipush (v := 60) hx hb dX5_pass_2 (by decide) ?_
  refine kcallI (kSt (n := 3) (As := [.int n, .int 1, .int 60]) (rest := []) F hE hK hP hD hS hA (c_X5_isBetween l hl0 g e0 S _ n 1 60) kw_87 kw_88 kw_2 kw_89 (by decide +kernel) ⟨Nat.le_of_ble_eq_true rfl, Nat.le_of_ble_eq_true rfl⟩ rfl hl.1 rfl (Nat.le_of_ble_eq_true rfl) dX5_pass_4 ⟨Nat.le_of_ble_eq_true rfl, Nat.le_of_ble_eq_true rfl⟩) rfl hD hS hA (fun _ _ _ _ _ h => False.elim h) (fun r1 T1 H locs hp hP hD hS => ?_)
  obtain ⟨hT, hp2⟩ := hp
  have hT := hT.symm
  subst hT
  refine lv_if_ne (tgt := 21) hx hb dX5_pass_7 (by decide) (fun c3 => ?_) (fun c3 => ?_)
  · have h_v := (show _ ∧ _ from by rcases hp2 with ⟨-, h1, h2⟩ | ⟨h, -⟩; exact ⟨h1, h2⟩; exact absurd c3 (by rw [h]; decide))
    have h1N : 1 ≤ N := (Nat.lt_or_ge N 1).elim (fun h => absurd (by rw [hnN]; exact nI_lt h (by decide)) h_v.1) id
    refine lv_aload_n hx hb dX5_pass_21 rfl (lv_at hl 0 rfl) ?_
    refine rg_Pickwave_presentMinute F hK hP (hI.1.1 0 (by decide)) kw_167 dX5_pass_22 ?_
    refine lv_topi (fun x4 ex4 => ?_)
    refine lv_iload_n hx hb dX5_pass_25 rfl (lv_at hl 1 rfl) ?_
    refine lv_iadd hx hb dX5_pass_26 ?_
    refine lv_topi (fun x5 ex5 => ?_)
    refine lv_sipush (v := 1439) hx hb dX5_pass_27 (by decide) ?_
    refine lv_icmp_le (tgt := 44) hx hb dX5_pass_30 (by decide) (fun c6 => ?_) (fun c6 => ?_)
    · have hsum : q 56 0 + N ≤ 1439 := (nI_leI (by omega) (by decide)).mp (by rw [← (show x5 = nI ((q 56 0) + N) from (by rw [ex5, (show (x4 : Int32) = nI (q 56 0) from (ex4.trans (hR.2.2.2.2.2.2.1.1 56 (by decide)))), (show (n : Int32) = nI N from hnN)]; exact nI_add _ _))]; exact c6)
      refine lv_iconst (v := 0) hx hb dX5_pass_44 (by decide) ?_
      refine lv_istore_n (lv' := [(2, .int 0), (0, .ref (z 0)), (1, .int n)]) hx hb dX5_pass_45 rfl hl (by decide) rfl (fun ls hl => ?_)
      refine lv_iconst (v := 0) hx hb dX5_pass_46 (by decide) ?_
      refine lv_istore_n (lv' := [(3, .int 0), (2, .int 0), (0, .ref (z 0)), (1, .int n)]) hx hb dX5_pass_47 rfl hl (by decide) rfl (fun ls hl => ?_)
      have loop : ∀ (fu : Nat) (T0 : wPS) (i : Nat) (xi br : Int32) (H : Heap) (locs : List Loc) (ls : Array Slot), va_P (kD g) vwCl (kW g T0) H → va_D (kA (pL S) s.heap.size) (kW g T0) → va_S (kA (pL S) s.heap.size) s.heap H locs → lv_has ls 5 [(3, .int xi), (2, .int br), (0, .ref (z 0)), (1, .int n)] → N - i < fu → (xi = nI i) → (i ≤ N) → (Inv z e0 T0) → (Rq z av lv T0 (q_pass i q)) → (∃ c, c ≤ 20 * i ∧ br = nI c) → W p l e ({ frames := 6, cells := 1, slots := 6, locals := 82 }) s m ([.ref (z 0), .int n] : List Value).toArray below meth c H locs 0 0 (vx_MQ below (kQ g S s.heap.size (pI (fun r T => Inv z e0 T ∧ 1 ≤ N ∧ q 56 0 + N ≤ 1439 ∧ Rq z av lv T (q_pass N q) ∧ ∃ c, c ≤ 20 * N ∧ r = nI c))) (kX g S s.heap.size (fun E => E = xA)) ([.ref (z 0), .int n] : List Value).toArray s 1 6 (kA (pL S) s.heap.size)) (F0 m 48 ls []) := by
        intro fu
        induction fu with
        | zero => intro T0 i xi br H locs ls hP hD hS hl hn hi hin hI0 hRq hbr; exact absurd hn (Nat.not_lt_zero _)
        | succ fu ih =>
          intro T0 i xi br H locs ls hP hD hS hl hn hi hin hI0 hRq hbr
          obtain ⟨c, hc, hcc⟩ := hbr
          refine lv_iload_n hx hb dX5_pass_48 rfl (lv_at hl 0 rfl) ?_
          refine lv_iload_n hx hb dX5_pass_49 rfl (lv_at hl 3 rfl) ?_
          refine lv_icmp_ge (tgt := 101) hx hb dX5_pass_50 (by decide) (fun c7 => ?_) (fun c7 => ?_)
          · refine lv_iload_n hx hb dX5_pass_101 rfl (lv_at hl 1 rfl) ?_
            have hiN : i = N := kend2 hin (by omega) hi hnN rfl c7
            exact kEndI F hr rfl hlk hP hD hS (Nat.le_of_ble_eq_true rfl) (Nat.le_of_ble_eq_true rfl) dX5_pass_102 ⟨_, rfl, ⟨hI0, h1N, hsum, by rw [← hiN]; exact hRq, c, by omega, hcc⟩⟩
          · have hlt : i < N := (Nat.lt_or_ge i N).elim id (fun h => absurd (by rw [hi, hnN]; exact nI_le h (by omega)) c7)
            refine lv_aload_n hx hb dX5_pass_53 rfl (lv_at hl 2 rfl) ?_
            refine lv_dup hx hb dX5_pass_54 rfl ?_
            refine rg_Pickwave_presentMinute F hK hP (hI0.1.1 0 (by decide)) kw_167 dX5_pass_55 ?_
            refine lv_topi (fun x8 ex8 => ?_)
            refine lv_iconst (v := 1) hx hb dX5_pass_58 (by decide) ?_
            refine lv_iadd hx hb dX5_pass_59 ?_
            refine lv_topi (fun x9 ex9 => ?_)
            refine rp_Pickwave_presentMinute F hK hP hD hS (hI0.1.1 0 (by decide)) kw_167 dX5_pass_60 (fun H locs hP hD hS => ?_)
            have hI2 : Inv z e0 (setF T0 56 (z 0) x9) := hI0.setU (by decide)
            have hR10 := Rq.numx (x := x9) (f := 56) (v := (((q_pass i q) 56 0) + 1)) hRq (by decide) (by rw [ex9, (show (x8 : Int32) = nI ((q_pass i q) 56 0) from (ex8.trans (hRq.2.2.2.2.2.2.1.1 56 (by decide)))), (show (1 : Int32) = nI 1 from rfl)]; exact nI_add _ _)
            refine lv_iconst (v := 0) hx hb dX5_pass_63 (by decide) ?_
            refine lv_istore (lv' := [(4, .int 0), (3, .int xi), (2, .int br), (0, .ref (z 0)), (1, .int n)]) hx hb dX5_pass_64 hl (by decide) rfl (fun ls hl => ?_)
            refine lv_iload hx hb dX5_pass_66 (lv_at hl 0 rfl) ?_
            refine lv_aload_n hx hb dX5_pass_68 rfl (lv_at hl 3 rfl) ?_
            refine rs_Pickwave_robots (b := z 7) F hK hP (hI2.1.1 0 (by decide)) hI2.2.1.2.2.1 kw_17 dX5_pass_69 ?_
            refine rl_Robot (v := 2) F hK hP (hI2.1.1 7 (by decide)) (congrArg Int32.ofNat (show pN (setF T0 56 (z 0) x9) (z 7) = 2 from hI2.2.2.1.2.2.2.1)) dX5_pass_72 ?_
            refine lv_icmp_ge (tgt := 95) hx hb dX5_pass_73 (by decide) (fun c11 => ?_) (fun c11 => ?_)
            · exact absurd c11 (by decide)
            · refine lv_iload_n hx hb dX5_pass_76 rfl (lv_at hl 2 rfl) ?_
              refine lv_aload_n hx hb dX5_pass_77 rfl (lv_at hl 3 rfl) ?_
              refine rs_Pickwave_robots (b := z 7) F hK hP (hI2.1.1 0 (by decide)) hI2.2.1.2.2.1 kw_17 dX5_pass_78 ?_
              refine lv_iload hx hb dX5_pass_81 (lv_at hl 0 rfl) ?_
              refine rds_Robot (b := z 8) F hK hP (hI2.1.1 7 (by decide)) (by rw [hI2.2.2.1.2.2.2.1]; exact vp_in_nI (n := 0) (by decide) (by decide)) (hI2.2.2.1.2.2.2.2.1 0 (by decide)) dX5_pass_83 ?_
              have hWi : q_W (q_pass i q) := q_pass_W hW
              have hWa : q_W (q_up (q_pass i q) 56 0 (q_pass i q 56 0 + 1)) := ⟨q_up_V hWi.1 (by decide) (by decide), q_up_W3 hWi.2.1 (by decide), q_up_W4b hWi.2.2 (by decide)⟩
              have hP32 : ∀ r, r < 2 → (q_up (q_pass i q) 56 0 (q_pass i q 56 0 + 1)) 32 r < 2 ^ 31 := fun r hr => Nat.lt_of_le_of_lt (Nat.le_trans (Nat.le_trans (Nat.le_of_eq (q_k (by decide))) q_pass_32) (h32 r hr)) (by decide)
              have hPb : ∀ b, b < 4 → (q_up (q_pass i q) 56 0 (q_pass i q 56 0 + 1)) 1 b < 2 ^ 31 := fun b hb => by rw [q_k (by decide), q_pass_o (by decide)]; exact hb1 b hb
              refine kcallI (kSt (n := 1) (As := [.ref (z 8)]) (rest := [.int br]) F hE hK hP hD hS hA (c_X5_passMinuteOf_x l hl0 g e0 z (setF T0 56 (z 0) x9) _ hI2 av lv (q_up (q_pass i q) 56 0 (((q_pass i q) 56 0) + 1)) hR10 hWa.1 hWa.2.1 0 (by decide) (hP32 0 (by decide)) hPb) kw_482 kw_483 kw_2 kw_484 (by decide +kernel) ⟨Nat.le_of_ble_eq_true rfl, Nat.le_of_ble_eq_true rfl⟩ rfl hl.1 rfl (Nat.le_of_ble_eq_true rfl) dX5_pass_84 ⟨Nat.le_of_ble_eq_true rfl, Nat.le_of_ble_eq_true rfl⟩) rfl hD hS hA (fun _ _ _ _ _ h => False.elim h) (fun r12 T12 H locs hp hP hD hS => ?_)
              obtain ⟨hk13, hr13, hv13⟩ := hp
              have N13 : Kp z (setF T0 56 (z 0) x9) T12 := hk13
              have K13 : Kp z (setF T0 56 (z 0) x9) T12 := Kp.trans hI2.kp N13
              have I13 : Inv z e0 T12 := hI2.keep K13.1
              obtain ⟨mi13, mib13, mie13⟩ := hv13
              refine lv_iadd hx hb dX5_pass_87 ?_
              refine lv_topi (fun x14 ex14 => ?_)
              refine lv_istore_n (lv' := [(2, .int x14), (4, .int 0), (3, .int xi), (0, .ref (z 0)), (1, .int n)]) hx hb dX5_pass_88 rfl hl (by decide) rfl (fun ls hl => ?_)
              refine lv_iinc (v := 1) (lv' := [(4, .int 1), (2, .int x14), (3, .int xi), (0, .ref (z 0)), (1, .int n)]) hx hb dX5_pass_89 hl (k := 1) rfl (by decide) (by decide) rfl (fun ls hl => ?_)
              refine lv_goto (tgt := 66) hx hb dX5_pass_92 (by decide) ?_
              refine lv_iload hx hb dX5_pass_66 (lv_at hl 0 rfl) ?_
              refine lv_aload_n hx hb dX5_pass_68 rfl (lv_at hl 3 rfl) ?_
              refine rs_Pickwave_robots (b := z 7) F hK hP (I13.1.1 0 (by decide)) I13.2.1.2.2.1 kw_17 dX5_pass_69 ?_
              refine rl_Robot (v := 2) F hK hP (I13.1.1 7 (by decide)) (congrArg Int32.ofNat (show pN T12 (z 7) = 2 from I13.2.2.1.2.2.2.1)) dX5_pass_72 ?_
              refine lv_icmp_ge (tgt := 95) hx hb dX5_pass_73 (by decide) (fun c15 => ?_) (fun c15 => ?_)
              · exact absurd c15 (by decide)
              · refine lv_iload_n hx hb dX5_pass_76 rfl (lv_at hl 1 rfl) ?_
                refine lv_aload_n hx hb dX5_pass_77 rfl (lv_at hl 3 rfl) ?_
                refine rs_Pickwave_robots (b := z 7) F hK hP (I13.1.1 0 (by decide)) I13.2.1.2.2.1 kw_17 dX5_pass_78 ?_
                refine lv_iload hx hb dX5_pass_81 (lv_at hl 0 rfl) ?_
                refine rds_Robot (b := z 9) F hK hP (I13.1.1 7 (by decide)) (by rw [I13.2.2.1.2.2.2.1]; exact vp_in_nI (n := 1) (by decide) (by decide)) (I13.2.2.1.2.2.2.2.1 1 (by decide)) dX5_pass_83 ?_
                have hWb : q_W (q_pm 0 (q_up (q_pass i q) 56 0 (q_pass i q 56 0 + 1))) := q_pm_W hWa (by decide)
                refine kcallI (kSt (n := 1) (As := [.ref (z 9)]) (rest := [.int x14]) F hE hK hP hD hS hA (c_X5_passMinuteOf_x l hl0 g e0 z T12 _ (hI2.keep K13.1) av lv (q_pm 0 (q_up (q_pass i q) 56 0 (((q_pass i q) 56 0) + 1))) hr13 hWb.1 hWb.2.1 1 (by decide) (Nat.lt_of_le_of_lt q_pm_32 (hP32 1 (by decide))) (fun b hb => by rw [q_pm_o (by decide)]; exact hPb b hb)) kw_482 kw_483 kw_2 kw_484 (by decide +kernel) ⟨Nat.le_of_ble_eq_true rfl, Nat.le_of_ble_eq_true rfl⟩ rfl hl.1 rfl (Nat.le_of_ble_eq_true rfl) dX5_pass_84 ⟨Nat.le_of_ble_eq_true rfl, Nat.le_of_ble_eq_true rfl⟩) rfl hD hS hA (fun _ _ _ _ _ h => False.elim h) (fun r16 T16 H locs hp hP hD hS => ?_)
                obtain ⟨hk17, hr17, hv17⟩ := hp
                have N17 : Kp z T12 T16 := hk17
                have K17 : Kp z (setF T0 56 (z 0) x9) T16 := Kp.trans K13 N17
                have I17 : Inv z e0 T16 := hI2.keep K17.1
                obtain ⟨mi17, mib17, mie17⟩ := hv17
                refine lv_iadd hx hb dX5_pass_87 ?_
                refine lv_topi (fun x18 ex18 => ?_)
                refine lv_istore_n (lv' := [(2, .int x18), (4, .int 1), (3, .int xi), (0, .ref (z 0)), (1, .int n)]) hx hb dX5_pass_88 rfl hl (by decide) rfl (fun ls hl => ?_)
                refine lv_iinc (v := 2) (lv' := [(4, .int 2), (2, .int x18), (3, .int xi), (0, .ref (z 0)), (1, .int n)]) hx hb dX5_pass_89 hl (k := 1) rfl (by decide) (by decide) rfl (fun ls hl => ?_)
                refine lv_goto (tgt := 66) hx hb dX5_pass_92 (by decide) ?_
                refine lv_iload hx hb dX5_pass_66 (lv_at hl 0 rfl) ?_
                refine lv_aload_n hx hb dX5_pass_68 rfl (lv_at hl 3 rfl) ?_
                refine rs_Pickwave_robots (b := z 7) F hK hP (I17.1.1 0 (by decide)) I17.2.1.2.2.1 kw_17 dX5_pass_69 ?_
                refine rl_Robot (v := 2) F hK hP (I17.1.1 7 (by decide)) (congrArg Int32.ofNat (show pN T16 (z 7) = 2 from I17.2.2.1.2.2.2.1)) dX5_pass_72 ?_
                refine lv_icmp_ge (tgt := 95) hx hb dX5_pass_73 (by decide) (fun c19 => ?_) (fun c19 => ?_)
                · obtain ⟨x20, ex20⟩ : ∃ y : Int32, y = xi + 1 := ⟨_, rfl⟩
                  refine lv_iinc (v := x20) (lv' := [(3, .int x20), (4, .int 2), (2, .int x18), (0, .ref (z 0)), (1, .int n)]) hx hb dX5_pass_95 hl (k := 2) rfl (by rw [ex20]; rfl) (by decide) rfl (fun ls hl => ?_)
                  refine lv_goto (tgt := 48) hx hb dX5_pass_98 (by decide) ?_
                  exact ih _ (i + 1) x20 x18 H locs ls hP hD hS (lv_sub hl [0, 2, 3, 4] rfl) (by omega) (by rw [ex20, hi]; exact nI_1 i) hlt (hI2.keep K17.1) hr17 ⟨(c + mi13) + mi17, by omega, (show x18 = nI ((c + mi13) + mi17) from (by rw [ex18, (show (x14 : Int32) = nI (c + mi13) from (by rw [ex14, (show (br : Int32) = nI c from hcc), (show (r12 : Int32) = nI mi13 from mie13)]; exact nI_add _ _)), (show (r16 : Int32) = nI mi17 from mie17)]; exact nI_add _ _))⟩
                · exact absurd (by decide) c19
      exact loop 61 _ 0 0 0 _ _ _ hP hD hS (lv_sub hl [0, 1, 2, 3] rfl) (by omega) rfl (Nat.zero_le _) hI hR ⟨0, Nat.zero_le _, rfl⟩
    · exact kth_IAEW hl0 F hE hlk hte hP hS hl.1 (List.mem_of_getElem? (i := 22) rfl) dX5_pass_33 dX5_pass_36 dX5_pass_37 dX5_pass_40 dX5_pass_43 ⟨Nat.le_of_ble_eq_true rfl, Nat.le_of_ble_eq_true rfl, Nat.le_of_ble_eq_true rfl, Nat.le_of_ble_eq_true rfl⟩ (Nat.le_of_ble_eq_true rfl) (Nat.le_of_ble_eq_true rfl) rfl
  · exact kth_IAEW hl0 F hE hlk hte hP hS hl.1 (List.mem_of_getElem? (i := 21) rfl) dX5_pass_10 dX5_pass_13 dX5_pass_14 dX5_pass_17 dX5_pass_20 ⟨Nat.le_of_ble_eq_true rfl, Nat.le_of_ble_eq_true rfl, Nat.le_of_ble_eq_true rfl, Nat.le_of_ble_eq_true rfl⟩ (Nat.le_of_ble_eq_true rfl) (Nat.le_of_ble_eq_true rfl) rfl
