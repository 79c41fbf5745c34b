theorem nI_mulI (a b : Nat) : nI a * nI b = nI (a * b) := (Int32.ofNat_mul a b).symm
theorem q_pm_i {r : Nat} {q : qS} (h : q 30 r = 0 ∨ q 1 (q 10 (q 30 r - 1)) ≠ 0) : q_pm r q = q := if_pos h
theorem q_pm_m {r : Nat} {q : qS} (h : ¬ (q 30 r = 0 ∨ q 1 (q 10 (q 30 r - 1)) ≠ 0)) (h2 : 0 < q 32 r - 1) : q_pm r q = q_up q 32 r (q 32 r - 1) := (if_neg h).trans (if_pos h2)
theorem q_pm_e {r : Nat} {q : qS} (h : ¬ (q 30 r = 0 ∨ q 1 (q 10 (q 30 r - 1)) ≠ 0)) (h2 : q 32 r - 1 = 0) : q_pm r q = q_put (q 30 r - 1) (q_up q 32 r (q 32 r - 1) 31 r) (q_up (q_up (q_up q 32 r (q 32 r - 1)) 30 r 0) 31 r 0) := by
  unfold q_pm
  rw [if_neg h, if_neg (by omega), h2, q_k (by decide)]
set_option maxHeartbeats 4000000 in
set_option maxRecDepth 100000 in
theorem c_X5_canBePromised_x (l : Launch) (hl0 : l.stackTraces = false) (g : kG) (e0 : Nat) (z : Nat → Nat) (S : wPS) (sz : Nat) (hI : Inv z e0 S) (av lv : Nat → Nat) (q : qS) (hR : Rq z av lv S q) (h3 : q_W3 q) (n : Nat) (hn : n < q 73 0) (h23 : q 23 n < 2 ^ 31) (hb1 : q 1 (q 10 (q 21 n)) < 2 ^ 31) : kM l g e0 yX5_canBePromised cX5_canBePromised 1 (some .boolean) 1 20 0 0 [.ref (lv n)] S sz (pI (fun r T => T = S ∧ ((r = 1 ∧ q 1 (q 10 (q 21 n)) = 0 ∧ q 23 n ≤ q 12 (q 21 n) - q 14 (q 21 n)) ∨ (r = 0 ∧ ¬ (q 1 (q 10 (q 21 n)) = 0 ∧ q 23 n ≤ q 12 (q 21 n) - q 14 (q 21 n)))))) (fun E => False) := by
  refine kM.of (by decide) (Nat.le_of_ble_eq_true rfl) ?_
  intro p e s m below meth c ls B hin
  obtain ⟨F, hr, hlk, hte, hP, hK, hD, hE, hS, hA, hl, hsz⟩ := B
  subst hsz
  have hx := F.1
  have hb := F.2.1
  have hl : lv_has ls 1 [(0, .ref (lv n))] := hl
  have ha := (hR.2.1 n hn).2.2.2.1
  refine lv_aload_n hx hb dX5_canBePromised_0 rfl (lv_at hl 0 rfl) ?_
  refine rs_Line_article (b := av (q 21 n)) F hK hP (hR.2.1 n hn).1 ((hR.2.1 n hn).2.2.1) kw_325 dX5_canBePromised_1 ?_
  refine rs_Article_aisle (b := z (2 + q 10 (q 21 n))) F hK hP (hR.1 _ (hR.2.1 n hn).2.2.2.1).1 ((hR.1 (q 21 n) (hR.2.1 n hn).2.2.2.1).2.2.1) kw_369 dX5_canBePromised_4 ?_
  refine rg_Aisle_blocked F hK hP (hI.oa (hR.1 (q 21 n) (hR.2.1 n hn).2.2.2.1).2.2.2.1) kw_360 dX5_canBePromised_7 ?_
  refine lv_topi (fun x1 ex1 => ?_)
  refine lv_if_ne (tgt := 31) hx hb dX5_canBePromised_10 (by decide) (fun c2 => ?_) (fun c2 => ?_)
  · refine lv_iconst (v := 0) hx hb dX5_canBePromised_31 (by decide) ?_
    exact kEndI F hr rfl hlk hP hD hS (Nat.le_of_ble_eq_true rfl) (Nat.le_of_ble_eq_true rfl) dX5_canBePromised_32 ⟨_, rfl, ⟨rfl, Or.inr ⟨rfl, (fun h => c2 ((ex1.trans (hR.2.2.2.2.1 (q 10 (q 21 n)) (hR.1 (q 21 n) (hR.2.1 n hn).2.2.2.1).2.2.2.1 1 (by decide))).trans (by rw [h.1]; rfl)))⟩⟩⟩
  · refine lv_aload_n hx hb dX5_canBePromised_13 rfl (lv_at hl 0 rfl) ?_
    refine rg_Line_amount F hK hP (hR.2.1 n hn).1 kw_280 dX5_canBePromised_14 ?_
    refine lv_topi (fun x3 ex3 => ?_)
    refine lv_aload_n hx hb dX5_canBePromised_17 rfl (lv_at hl 0 rfl) ?_
    refine rs_Line_article (b := av (q 21 n)) F hK hP (hR.2.1 n hn).1 ((hR.2.1 n hn).2.2.1) kw_325 dX5_canBePromised_18 ?_
    refine kcallI (kV (n := 0) (As := []) (rest := [.int x3]) (b := (av (q 21 n))) (C := RX1) F hE hK hP hD hS hA (c_X1_freeUnits l hl0 g e0 S _ (av (q 21 n)) (hR.1 _ (hR.2.1 n hn).2.2.2.1).1) (rr_Article hK hP (hR.1 _ (hR.2.1 n hn).2.2.2.1).1) kw_341 kw_342 kw_343 kw_82 kw_344 (by decide +kernel) ⟨Nat.le_of_ble_eq_true rfl, Nat.le_of_ble_eq_true rfl⟩ rfl hl.1 rfl (Nat.le_of_ble_eq_true rfl) dX5_canBePromised_21 ⟨Nat.le_of_ble_eq_true rfl, Nat.le_of_ble_eq_true rfl⟩) rfl hD hS hA (fun _ _ _ _ _ h => False.elim h) (fun r4 T4 H locs hp hP hD hS => ?_)
    obtain ⟨hT, hp5⟩ := hp
    have hT := hT.symm
    subst hT
    have hfr : r4 = nI (q 12 (q 21 n) - q 14 (q 21 n)) := by rw [hp5, ((hR.1 (q 21 n) (hR.2.1 n hn).2.2.2.1).2.2.2.2 12 (by decide)), ((hR.1 (q 21 n) (hR.2.1 n hn).2.2.2.1).2.2.2.2 14 (by decide))]; exact nI_subI (h3 _ ha).1
    have hb9 : q 12 (q 21 n) - q 14 (q 21 n) < 2 ^ 31 := by have := h3 _ ha; omega
    refine lv_icmp_gt (tgt := 31) hx hb dX5_canBePromised_24 (by decide) (fun c6 => ?_) (fun c6 => ?_)
    · refine lv_iconst (v := 0) hx hb dX5_canBePromised_31 (by decide) ?_
      exact kEndI F hr rfl hlk hP hD hS (Nat.le_of_ble_eq_true rfl) (Nat.le_of_ble_eq_true rfl) dX5_canBePromised_32 ⟨_, rfl, ⟨rfl, Or.inr ⟨rfl, (fun h => Int32.not_le.mpr c6 (by rw [hfr, (ex3.trans ((hR.2.1 n hn).2.2.2.2.2.2 23 (by decide)))]; exact nI_le h.2 hb9))⟩⟩⟩
    · refine lv_iconst (v := 1) hx hb dX5_canBePromised_27 (by decide) ?_
      refine lv_goto (tgt := 32) hx hb dX5_canBePromised_28 (by decide) ?_
      exact kEndI F hr rfl hlk hP hD hS (Nat.le_of_ble_eq_true rfl) (Nat.le_of_ble_eq_true rfl) dX5_canBePromised_32 ⟨_, rfl, ⟨rfl, Or.inl ⟨rfl, (nI_inj (b := 0) hb1 (by decide) ((ex1.trans (hR.2.2.2.2.1 (q 10 (q 21 n)) (hR.1 (q 21 n) (hR.2.1 n hn).2.2.2.1).2.2.2.1 1 (by decide))).symm.trans c2)), ((nI_leI h23 hb9).mp (by rw [← hfr, ← (ex3.trans ((hR.2.1 n hn).2.2.2.2.2.2 23 (by decide)))]; exact Int32.not_lt.mp c6))⟩⟩⟩
set_option maxHeartbeats 4000000 in
set_option maxRecDepth 100000 in
theorem c_X5_minutesOfAWay_x (l : Launch) (hl0 : l.stackTraces = false) (g : kG) (e0 : Nat) (z : Nat → Nat) (S : wPS) (sz : Nat) (hI : Inv z e0 S) (av lv : Nat → Nat) (q : qS) (hR : Rq z av lv S q) (j : Nat) (hj : j < 4) (h2 : q 2 j ≤ 10) : kM l g e0 yX5_minutesOfAWay cX5_minutesOfAWay 3 (some .int) 1 23 0 0 [.ref (z 0), .ref (z (2 + j))] S sz (pI (fun r T => T = S ∧ ∃ mi, 3 ≤ mi ∧ mi ≤ 30 ∧ r = nI mi)) (fun E => False) := by
  refine kM.of (by decide) (Nat.le_of_ble_eq_true rfl) ?_
  intro p e s m below meth c ls B hin
  obtain ⟨F, hr, hlk, hte, hP, hK, hD, hE, hS, hA, hl, hsz⟩ := B
  subst hsz
  have hx := F.1
  have hb := F.2.1
  have hl : lv_has ls 3 [(0, .ref (z 0)), (1, .ref (z (2 + j)))] := hl
  refine lv_iconst (v := 3) hx hb dX5_minutesOfAWay_0 (by decide) ?_
  refine lv_iconst (v := 2) hx hb dX5_minutesOfAWay_1 (by decide) ?_
  refine lv_aload_n hx hb dX5_minutesOfAWay_2 rfl (lv_at hl 1 rfl) ?_
  refine rg_Aisle_pickers F hK hP (hI.oa hj) kw_377 dX5_minutesOfAWay_3 ?_
  refine lv_topi (fun x1 ex1 => ?_)
  refine lv_imul hx hb dX5_minutesOfAWay_6 ?_
  refine lv_topi (fun x2 ex2 => ?_)
  refine lv_iadd hx hb dX5_minutesOfAWay_7 ?_
  refine lv_topi (fun x3 ex3 => ?_)
  refine lv_istore_n (lv' := [(2, .int x3), (0, .ref (z 0)), (1, .ref (z (2 + j)))]) hx hb dX5_minutesOfAWay_8 rfl hl (by decide) rfl (fun ls hl => ?_)
  refine lv_aload_n hx hb dX5_minutesOfAWay_9 rfl (lv_at hl 1 rfl) ?_
  refine lv_aload_n hx hb dX5_minutesOfAWay_10 rfl (lv_at hl 2 rfl) ?_
  refine kcallI (kV (n := 1) (As := [.ref (z (2 + j))]) (rest := []) (b := (z 0)) (C := RX5) F hE hK hP hD hS hA (c_X5_hasRobotIn l hl0 g e0 z S _ hI (z (2 + j)) (hI.oa hj)) (rr_Pickwave hK hP (hI.1.1 0 (by decide))) kw_463 kw_464 kw_465 kw_2 kw_466 (by decide +kernel) ⟨Nat.le_of_ble_eq_true rfl, Nat.le_of_ble_eq_true rfl⟩ rfl hl.1 rfl (Nat.le_of_ble_eq_true rfl) dX5_minutesOfAWay_11 ⟨Nat.le_of_ble_eq_true rfl, Nat.le_of_ble_eq_true rfl⟩) rfl hD hS hA (fun _ _ _ _ _ h => False.elim h) (fun r4 T4 H locs hp hP hD hS => ?_)
  obtain ⟨hT, hp5⟩ := hp
  have hT := hT.symm
  subst hT
  refine lv_if_eq (tgt := 23) hx hb dX5_minutesOfAWay_14 (by decide) (fun c6 => ?_) (fun c6 => ?_)
  · refine lv_iload_n hx hb dX5_minutesOfAWay_23 rfl (lv_at hl 0 rfl) ?_
    exact kEndI F hr rfl hlk hP hD hS (Nat.le_of_ble_eq_true rfl) (Nat.le_of_ble_eq_true rfl) dX5_minutesOfAWay_24 ⟨_, rfl, ⟨rfl, 3 + (2 * (q 2 j)), by omega, by omega, (by rw [ex3, (show (3 : Int32) = nI 3 from rfl), (show (x2 : Int32) = nI (2 * (q 2 j)) from (by rw [ex2, (show (2 : Int32) = nI 2 from rfl), (show (x1 : Int32) = nI (q 2 j) from (ex1.trans (hR.2.2.2.2.1 j hj 2 (by decide))))]; exact nI_mulI _ _))]; exact nI_add _ _)⟩⟩
  · refine lv_iload_n hx hb dX5_minutesOfAWay_17 rfl (lv_at hl 0 rfl) ?_
    refine lv_iconst (v := 4) hx hb dX5_minutesOfAWay_18 (by decide) ?_
    refine lv_iadd hx hb dX5_minutesOfAWay_19 ?_
    refine lv_topi (fun x7 ex7 => ?_)
    refine lv_goto (tgt := 24) hx hb dX5_minutesOfAWay_20 (by decide) ?_
    exact kEndI F hr rfl hlk hP hD hS (Nat.le_of_ble_eq_true rfl) (Nat.le_of_ble_eq_true rfl) dX5_minutesOfAWay_24 ⟨_, rfl, ⟨rfl, (3 + (2 * (q 2 j))) + 4, by omega, by omega, (by rw [ex7, (show (x3 : Int32) = nI (3 + (2 * (q 2 j))) from (by rw [ex3, (show (3 : Int32) = nI 3 from rfl), (show (x2 : Int32) = nI (2 * (q 2 j)) from (by rw [ex2, (show (2 : Int32) = nI 2 from rfl), (show (x1 : Int32) = nI (q 2 j) from (ex1.trans (hR.2.2.2.2.1 j hj 2 (by decide))))]; exact nI_mulI _ _))]; exact nI_add _ _)), (show (4 : Int32) = nI 4 from rfl)]; exact nI_add _ _)⟩⟩
set_option maxHeartbeats 4000000 in
set_option maxRecDepth 100000 in
theorem c_X5_passMinuteOf_x (l : Launch) (hl0 : l.stackTraces = false) (g : kG) (e0 : Nat) (z : Nat → Nat) (S : wPS) (sz : Nat) (hI : Inv z e0 S) (av lv : Nat → Nat) (q : qS) (hR : Rq z av lv S q) (hV : q_V q) (h3 : q_W3 q) (j : Nat) (hj : j < 2) (h32 : q 32 j < 2 ^ 31) (hb1 : ∀ i, i < 4 → q 1 i < 2 ^ 31) : kM l g e0 yX5_passMinuteOf cX5_passMinuteOf 3 (some .int) 2 42 0 0 [.ref (z (8 + j))] S sz (pI (fun r T => Kp z S T ∧ Rq z av lv T (q_pm j q) ∧ ∃ mi, mi ≤ 10 ∧ r = nI mi)) (fun E => False) := by
  refine kM.of (by decide) (Nat.le_of_ble_eq_true rfl) ?_
  intro p e s m below meth c ls B hin
  obtain ⟨F, hr, hlk, hte, hP, hK, hD, hE, hS, hA, hl, hsz⟩ := B
  subst hsz
  have hx := F.1
  have hb := F.2.1
  have hl : lv_has ls 3 [(0, .ref (z (8 + j)))] := hl
  refine lv_aload_n hx hb dX5_passMinuteOf_0 rfl (lv_at hl 0 rfl) ?_
  rcases (Nat.eq_zero_or_pos (q 30 j)) with hz | hz
  · refine rz_Robot_article F hK hP (hI.or hj) ((hR.2.2.2.2.2.1 j hj).1.trans (if_pos hz)) kw_457 dX5_passMinuteOf_1 ?_
    refine lv_astore_nN (lv' := [(1, .null), (0, .ref (z (8 + j)))]) hx hb dX5_passMinuteOf_4 rfl hl (by decide) rfl (fun ls hl => ?_)
    refine lv_aload_nN hx hb dX5_passMinuteOf_5 rfl (lv_at hl 0 rfl) ?_
    refine lv_ifnullN (tgt := 19) hx hb dX5_passMinuteOf_6 (by decide) ?_
    refine lv_iconst (v := 0) hx hb dX5_passMinuteOf_19 (by decide) ?_
    exact kEndI F hr rfl hlk hP hD hS (Nat.le_of_ble_eq_true rfl) (Nat.le_of_ble_eq_true rfl) dX5_passMinuteOf_20 ⟨_, rfl, ⟨hI.kp, by rw [q_pm_i (Or.inl hz)]; exact hR, 0, by decide, rfl⟩⟩
  · have ha30hz : q 30 j - 1 < q 72 0 := by have := hV.2.2.2.2.2.1 j hj; omega
    refine rs_Robot_article (b := av (q 30 j - 1)) F hK hP (hI.or hj) ((hR.2.2.2.2.2.1 j hj).1.trans (if_neg (Nat.pos_iff_ne_zero.mp hz))) kw_457 dX5_passMinuteOf_1 ?_
    refine lv_astore_n (lv' := [(1, .ref (av (q 30 j - 1))), (0, .ref (z (8 + j)))]) hx hb dX5_passMinuteOf_4 rfl hl (by decide) rfl (fun ls hl => ?_)
    refine lv_aload_n hx hb dX5_passMinuteOf_5 rfl (lv_at hl 0 rfl) ?_
    refine lv_ifnull hx hb dX5_passMinuteOf_6 ?_
    refine lv_aload_n hx hb dX5_passMinuteOf_9 rfl (lv_at hl 0 rfl) ?_
    refine rs_Article_aisle (b := z (2 + q 10 (q 30 j - 1))) F hK hP (hR.1 _ ha30hz).1 ((hR.1 (q 30 j - 1) ha30hz).2.2.1) kw_369 dX5_passMinuteOf_10 ?_
    refine rg_Aisle_blocked F hK hP (hI.oa (hR.1 (q 30 j - 1) ha30hz).2.2.2.1) kw_360 dX5_passMinuteOf_13 ?_
    refine lv_topi (fun x1 ex1 => ?_)
    refine lv_if_eq (tgt := 21) hx hb dX5_passMinuteOf_16 (by decide) (fun c2 => ?_) (fun c2 => ?_)
    · have hno : ¬ (q 30 j = 0 ∨ q 1 (q 10 (q 30 j - 1)) ≠ 0) := fun h => h.elim (Nat.pos_iff_ne_zero.mp hz) (fun h => h (nI_inj (b := 0) (hb1 _ (hR.1 _ ha30hz).2.2.2.1) (by decide) ((ex1.trans (hR.2.2.2.2.1 (q 10 (q 30 j - 1)) (hR.1 (q 30 j - 1) ha30hz).2.2.2.1 1 (by decide))).symm.trans c2)))
      have hw7 : 0 < q 32 j ∧ q 31 j ≤ 10 := by have := hV.2.2.2.2.2.1 j hj; omega
      refine lv_aload_n hx hb dX5_passMinuteOf_21 rfl (lv_at hl 1 rfl) ?_
      refine lv_dup hx hb dX5_passMinuteOf_22 rfl ?_
      refine rg_Robot_minutes F hK hP (hI.or hj) kw_255 dX5_passMinuteOf_23 ?_
      refine lv_topi (fun x3 ex3 => ?_)
      refine lv_iconst (v := 1) hx hb dX5_passMinuteOf_26 (by decide) ?_
      refine lv_isub hx hb dX5_passMinuteOf_27 ?_
      refine lv_topi (fun x4 ex4 => ?_)
      refine rp_Robot_minutes F hK hP hD hS (hI.or hj) kw_255 dX5_passMinuteOf_28 (fun H locs hP hD hS => ?_)
      have hR5 := Rq.robx (x := x4) (f := 32) (v := ((q 32 j) - 1)) hR hI.1.2 hj (by decide) (by rw [ex4, (show (x3 : Int32) = nI (q 32 j) from (ex3.trans ((hR.2.2.2.2.2.1 j hj).2 32 (by decide)))), (show (1 : Int32) = nI 1 from rfl)]; exact nI_subI hw7.1)
      refine lv_aload_n hx hb dX5_passMinuteOf_31 rfl (lv_at hl 1 rfl) ?_
      refine rg_Robot_minutes F hK hP (hI.or hj) kw_255 dX5_passMinuteOf_32 ?_
      refine lv_topi (fun x6 ex6 => ?_)
      refine lv_if_le (tgt := 40) hx hb dX5_passMinuteOf_35 (by decide) (fun c7 => ?_) (fun c7 => ?_)
      · have hx35 : x6 = nI (q 32 j - 1) := ((ex6.trans ((hR5.2.2.2.2.2.1 j hj).2 32 (by decide)))).trans (congrArg nI q_at)
        have h35 : q 32 j - 1 = 0 := by have := (nI_leI (a := q 32 j - 1) (b := 0) (by omega) (by decide)).mp (by rw [← hx35]; exact c7); omega
        refine lv_aload_n hx hb dX5_passMinuteOf_40 rfl (lv_at hl 1 rfl) ?_
        refine rg_Robot_load F hK hP (hI.or hj) kw_243 dX5_passMinuteOf_41 ?_
        refine lv_topi (fun x8 ex8 => ?_)
        refine lv_istore_n (lv' := [(2, .int x8), (1, .ref (av (q 30 j - 1))), (0, .ref (z (8 + j)))]) hx hb dX5_passMinuteOf_44 rfl hl (by decide) rfl (fun ls hl => ?_)
        refine lv_aload_n hx hb dX5_passMinuteOf_45 rfl (lv_at hl 2 rfl) ?_
        refine lv_null hx hb dX5_passMinuteOf_46 ?_
        refine rpn_Robot_article F hK hP hD hS (hI.or hj) kw_457 dX5_passMinuteOf_47 (fun H locs hP hD hS => ?_)
        have hR9 := Rq.way (v := 0) hR5 hI.1.2 hj ((if_pos rfl).symm)
        refine lv_aload_n hx hb dX5_passMinuteOf_50 rfl (lv_at hl 2 rfl) ?_
        refine lv_iconst (v := 0) hx hb dX5_passMinuteOf_51 (by decide) ?_
        refine rp_Robot_load F hK hP hD hS (hI.or hj) kw_243 dX5_passMinuteOf_52 (fun H locs hP hD hS => ?_)
        have hR10 := Rq.robx (x := 0) (f := 31) (v := 0) hR9 hI.1.2 hj (by decide) (rfl : (0 : Int32) = nI 0)
        refine lv_aload_n hx hb dX5_passMinuteOf_55 rfl (lv_at hl 1 rfl) ?_
        refine lv_iload_n hx hb dX5_passMinuteOf_56 rfl (lv_at hl 0 rfl) ?_
        refine kcallI (kV (n := 1) (As := [.int x8]) (rest := []) (b := (av (q 30 j - 1))) (C := RX1) F hE hK hP hD hS hA (c_X1_putAway_x l hl0 g e0 z (setF (setG (setF S 32 (z (8 + j)) x4) 30 (z (8 + j)) none) 31 (z (8 + j)) 0) _ (hI.keep (kp_setF (kp_idle (kp_setF hI.kp (by decide) (by decide))) (by decide) (by decide)).1) av lv (q_up (q_up (q_up q 32 j ((q 32 j) - 1)) 30 j 0) 31 j 0) hR10 (q 30 j - 1) ((q_up q 32 j ((q 32 j) - 1)) 31 j) ha30hz x8 (ex8.trans ((hR5.2.2.2.2.2.1 j hj).2 31 (by decide))) (show q 31 j < 2 ^ 31 by omega) ⟨(h3 _ ha30hz).2.1, by have := (h3 _ ha30hz).2.2; exact Nat.lt_of_le_of_lt this (by decide)⟩) (rr_Article hK hP (hR.1 _ ha30hz).1) kw_390 kw_391 kw_392 kw_82 kw_393 (by decide +kernel) ⟨Nat.le_of_ble_eq_true rfl, Nat.le_of_ble_eq_true rfl⟩ rfl hl.1 rfl (Nat.le_of_ble_eq_true rfl) dX5_passMinuteOf_57 ⟨Nat.le_of_ble_eq_true rfl, Nat.le_of_ble_eq_true rfl⟩) rfl hD hS hA (fun _ _ _ _ _ h => False.elim h) (fun r11 T11 H locs hp hP hD hS => ?_)
        obtain ⟨hk12, hr12, hv12⟩ := hp
        have N12 : Kp z (setF (setG (setF S 32 (z (8 + j)) x4) 30 (z (8 + j)) none) 31 (z (8 + j)) 0) T11 := hk12
        have K12 : Kp z S T11 := Kp.trans (kp_setF (kp_idle (kp_setF hI.kp (by decide) (by decide))) (by decide) (by decide)) N12
        have I12 : Inv z e0 T11 := hI.keep K12.1
        have o13 : Ob T11 3 (z (8 + j)) := N12.1.ob (hI.or hj)
        have o14 : Ob T11 1 (av (q 30 j - 1)) := N12.1.ob (hR.1 _ ha30hz).1
        have o15 : Ob T11 0 (z (2 + q 10 (q 30 j - 1))) := N12.1.ob (hI.oa (hR.1 (q 30 j - 1) ha30hz).2.2.2.1)
        exact kEndI F hr rfl hlk hP hD hS (Nat.le_of_ble_eq_true rfl) (Nat.le_of_ble_eq_true rfl) dX5_passMinuteOf_60 ⟨_, rfl, ⟨K12, by rw [q_pm_e hno h35]; exact hr12, _, Nat.le_trans (Nat.min_le_left _ _) (show q 31 j ≤ 10 from hw7.2), hv12⟩⟩
      · have hx35 : x6 = nI (q 32 j - 1) := ((ex6.trans ((hR5.2.2.2.2.2.1 j hj).2 32 (by decide)))).trans (congrArg nI q_at)
        have h35 : 0 < q 32 j - 1 := (Nat.eq_zero_or_pos (q 32 j - 1)).elim (fun h => absurd (by rw [hx35, h]; decide) c7) id
        refine lv_iconst (v := 0) hx hb dX5_passMinuteOf_38 (by decide) ?_
        exact kEndI F hr rfl hlk hP hD hS (Nat.le_of_ble_eq_true rfl) (Nat.le_of_ble_eq_true rfl) dX5_passMinuteOf_39 ⟨_, rfl, ⟨(kp_setF hI.kp (by decide) (by decide)), by rw [q_pm_m hno h35]; exact hR5, 0, by decide, rfl⟩⟩
    · refine lv_iconst (v := 0) hx hb dX5_passMinuteOf_19 (by decide) ?_
      exact kEndI F hr rfl hlk hP hD hS (Nat.le_of_ble_eq_true rfl) (Nat.le_of_ble_eq_true rfl) dX5_passMinuteOf_20 ⟨_, rfl, ⟨hI.kp, by rw [q_pm_i (Or.inr (fun h => c2 ((ex1.trans (hR.2.2.2.2.1 (q 10 (q 30 j - 1)) (hR.1 (q 30 j - 1) ha30hz).2.2.2.1 1 (by decide))).trans (by rw [h]; rfl))))]; exact hR, 0, by decide, rfl⟩⟩
