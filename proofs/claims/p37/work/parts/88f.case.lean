set_option maxHeartbeats 8000000 in
set_option maxRecDepth 100000 in
theorem kcs_pick {p : Program} {l : Launch} {e : Env} {s : State} {m : MethodId} {below : List Frame} {meth : Method} {c : Code} {b L : Nat} {xs : Nat → Int32} {g : kG} {e0 : Nat} {z av lv : Nat → Nat} {S O : wPS} {q : qS} {ra rr rb ri : Nat} {H : Heap} {locs : List Loc} {k0 n0 : Nat} {Q : State → Prop} {ls : Array Slot} (hl0 : l.stackTraces = false) (hL9 : L ≤ 260) (C : kLw p s m c b L xs g e0 z av lv S O q ra rr rb ri H locs) (hU : q_U q ≤ 4000) (hk0 : k0 + 3000 ≤ 1072639) (hn0 : n0 + 20000 ≤ 5883708) {kd nx kx mm aa od on un : Int32} {bf : Int64} {a m9 o9 : Nat} (ha : a ≤ 3) (haa : aa.toInt = ((a : Nat) : Int)) (hm9 : m9 < 1000) (hmm : mm.toInt = ((m9 : Nat) : Int)) (ho9 : o9 ≤ q 73 0) (hod : od.toInt = ((o9 : Nat) : Int)) (hon : on.toInt = ((q 73 0 : Nat) : Int)) (hun : un.toInt = ((q_U q : Nat) : Int)) (hl : lv_has ls 23 [(18, .int 0), (17, .int 0), (16, .int od), (15, .int mm), (14, .int aa), (13, .int kd), (11, .long bf), (10, .int nx), (9, .int kx), (8, .int 1), (7, .int on), (6, .int un), (5, .ref ri), (4, .ref rb), (3, .ref rr), (2, .ref ra), (1, .ref (z 0)), (0, .ref b)])
    (kk : ∀ (S1 O1 : wPS) (av1 lv1 : Nat → Nat) (q1 : qS) (H1 : Heap) (locs1 : List Loc) (ls1 : Array Slot) (k1 n1 : Nat) (th on1 un1 : Int32), kLw p s m c b L xs g e0 z av1 lv1 S1 O1 q1 ra rr rb ri H1 locs1 → q_U q1 ≤ q_U q + 14 → (th = 0 ∨ (th = 1 ∧ q_sm q1 = q_sm q)) → on1.toInt = ((q1 73 0 : Nat) : Int) → un1.toInt = ((q_U q1 : Nat) : Int) → k1 ≤ k0 + 3000 → n1 ≤ n0 + 20000 → lv_has ls1 23 [(18, .int th), (11, .long bf), (10, .int nx), (9, .int kx), (8, .int 1), (7, .int on1), (6, .int un1), (5, .ref ri), (4, .ref rb), (3, .ref rr), (2, .ref ra), (1, .ref (z 0)), (0, .ref b)] → W p l e room_1 s m #[Value.ref b] below meth c H1 locs1 k1 n1 Q (F0 m 1227 ls1 [])) :
    W p l e room_1 s m #[Value.ref b] below meth c H locs k0 n0 Q (F0 m 654 ls []) := by
  obtain ⟨⟨F, hK, hE, hNc, hX, hbl⟩, ⟨hP, hO⟩, ⟨hD, hDO⟩, hdis, hS, ⟨hI, hR, hW, hL⟩, hO9⟩ := C
  have hx := F.1
  have hb := F.2.1
  have hbA : ¬ kAs s b := Nat.not_le.mpr hbl
  have hA : ∀ q : Nat, s.heap.size ≤ q → kAs s q := fun _ h => h
  have hU5 : q_U q ≤ 5000 := by omega
  have h721 : q 72 0 = 3 := hL.1
  have h72 : q 72 0 ≤ 12 := by omega
  have h73 : q 73 0 ≤ 12 := hW.1.1.2.1
  have hro : q 42 0 ≤ 504 := q_room hW.1.1 hW.1.2.2.2.1 hW.1.2.2.2.2.1
  have hroom : q 42 0 < 516 := by omega
  have h57 : q 57 0 ≤ 20 := hW.1.2.2.2.2.1.1
  have h56 : q 56 0 ≤ 1439 := hL.2.2.2.2.2.1
  have h25 : ∀ i, i < q 73 0 → q 25 i < 2 ^ 31 := fun i hi => by have := (hW.1.2.2.1 i hi).2.2.2; omega
  obtain ⟨⟨oa, la⟩, ⟨orr, lr⟩, ⟨obb, lb⟩, ⟨oi, li⟩, hne, hra, hrb, hri⟩ := id hO9
  rcases (Nat.lt_or_ge o9 (q 73 0)) with hin | hin
  · have hin : o9 < q 73 0 := by omega
    have h4a := hW.1.2.2.1 o9 hin
    have h4b := hW.2.2 o9 hin
    have h1 := hW.1.1.2.2.1 o9 hin
    have h10 := hW.1.1.2.2.2 (q 21 o9) h1.1
    have hb1 := hL.2.2.1 _ h10
    have w3o := hW.2.1 (q 21 o9) h1.1
    refine lv_aload_n hx hb dL_law_654 rfl (lv_at hl 16 rfl) ?_
    refine lv_iload hx hb dL_law_655 (lv_at hl 2 rfl) ?_
    refine kcallhI (kSthW (n := 2) (As := [.ref (z 0), .int od]) (rest := []) F hE hNc hK hP hD hS hA (kh_amount l g e0 S _ (z 0) od _ _ hI.ob0 (c_X5_amount_x l hl0 g e0 z S _ hI av lv q hR h73 od) (fun E h => h.1)) kw_273 kw_274 kw_61 kw_275 (by decide +kernel) ⟨Nat.le_of_ble_eq_true rfl, Nat.le_of_ble_eq_true rfl⟩ rfl hl.1 rfl (Nat.le_of_ble_eq_true rfl) dL_law_657 ⟨(by show k0 + 1 ≤ 1072639; omega), (by show n0 + 6 ≤ 5883708; omega)⟩) rfl hD hS hA (fun r1 T1 H locs hp hP hq1x hq2x hq3x hf1 hS => ?_)
    clear hq1x hq2x hq3x
    have hO := kO_keep hO hdis hf1
    obtain ⟨hT, nr1⟩ := kp_A (i := o9) hp hod (by omega) (by omega) (by omega)
    subst hT
    clear hp
    refine lv_istore (lv' := [(19, .int r1), (18, .int 0), (17, .int 0), (16, .int od), (15, .int mm), (14, .int aa), (13, .int kd), (11, .long bf), (10, .int nx), (9, .int kx), (8, .int 1), (7, .int on), (6, .int un), (5, .ref ri), (4, .ref rb), (3, .ref rr), (2, .ref ra), (1, .ref (z 0)), (0, .ref b)]) hx hb dL_law_660 hl (by decide) rfl (fun ls hl => ?_)
    refine lv_iload hx hb dL_law_662 (lv_at hl 4 rfl) ?_
    refine lv_iconst (v := 3) hx hb dL_law_664 (by decide) ?_
    refine lv_irem hx hb dL_law_665 (by decide) ?_
    refine lv_topi (fun x2 ex2 => ?_)
    have nx2 : x2.toInt = ((m9 % 3 : Nat) : Int) := kt_rem ex2 hmm (by decide : (3 : Int32).toInt = ((3 : Nat) : Int)) (by omega) (by omega) (by omega)
    refine lv_if_gt (tgt := 675) hx hb dL_law_666 (by decide) (fun c3 => ?_) (fun c3 => ?_)
    · have d3 : (0) < x2.toInt := (kc_lt (by decide : (0 : Int32).toInt = 0) (rfl : x2.toInt = x2.toInt)).mp c3
      refine lv_iload hx hb dL_law_675 (lv_at hl 0 rfl) ?_
      refine lv_goto (tgt := 685) hx hb dL_law_677 (by decide) ?_
      refine lv_istore (lv' := [(20, .int r1), (19, .int r1), (18, .int 0), (17, .int 0), (16, .int od), (15, .int mm), (14, .int aa), (13, .int kd), (11, .long bf), (10, .int nx), (9, .int kx), (8, .int 1), (7, .int on), (6, .int un), (5, .ref ri), (4, .ref rb), (3, .ref rr), (2, .ref ra), (1, .ref (z 0)), (0, .ref b)]) hx hb dL_law_685 hl (by decide) rfl (fun ls hl => ?_)
      refine lv_iload hx hb dL_law_687 (lv_at hl 4 rfl) ?_
      refine lv_iload hx hb dL_law_689 (lv_at hl 12 rfl) ?_
      refine lv_icmp_ge (tgt := 706) hx hb dL_law_691 (by decide) (fun c4 => ?_) (fun c4 => ?_)
      · have d4 : on.toInt ≤ od.toInt := (kc_le (rfl : on.toInt = on.toInt) (rfl : od.toInt = od.toInt)).mp c4
        exfalso; omega
      · have d4 : ¬ (on.toInt ≤ od.toInt) := mt (kc_le (rfl : on.toInt = on.toInt) (rfl : od.toInt = od.toInt)).mpr c4
        refine lv_aload_n hx hb dL_law_694 rfl (lv_at hl 18 rfl) ?_
        refine lv_aload hx hb dL_law_695 (lv_at hl 14 rfl) ?_
        refine lv_iload hx hb dL_law_697 (lv_at hl 4 rfl) ?_
        refine rd_I F hK hO oi (by rw [li]; exact kt_in hod (by omega) (by decide)) dL_law_699 ?_
        refine lv_topi (fun x5 ex5 => ?_)
        have nx5 : x5.toInt = ((q 21 o9 : Nat) : Int) := kt_nI (by rw [ex5, kt_clamp hod (by omega)]; exact hri o9 (by omega)) (by omega)
        refine kcallhI (kSthW (n := 2) (As := [.ref (z 0), .int x5]) (rest := []) F hE hNc hK hP hD hS hA (kh_stock l g e0 S _ (z 0) x5 _ _ hI.ob0 (c_X5_stock_x l hl0 g e0 z S _ hI av lv q hR h72 x5) (fun E h => h.1)) kw_188 kw_189 kw_61 kw_190 (by decide +kernel) ⟨Nat.le_of_ble_eq_true rfl, Nat.le_of_ble_eq_true rfl⟩ rfl hl.1 rfl (Nat.le_of_ble_eq_true rfl) dL_law_700 ⟨(by show k0 + 1 + 1 ≤ 1072639; omega), (by show n0 + 6 + 6 ≤ 5883708; omega)⟩) rfl hD hS hA (fun r6 T1 H locs hp hP hq1x hq2x hq3x hf1 hS => ?_)
        clear hq1x hq2x hq3x
        have hO := kO_keep hO hdis hf1
        obtain ⟨hT, nr6⟩ := kp_A (i := q 21 o9) hp nx5 (by omega) (by omega) (by omega)
        subst hT
        clear hp
        refine lv_goto (tgt := 707) hx hb dL_law_703 (by decide) ?_
        refine lv_istore (lv' := [(21, .int r6), (20, .int r1), (19, .int r1), (18, .int 0), (17, .int 0), (16, .int od), (15, .int mm), (14, .int aa), (13, .int kd), (11, .long bf), (10, .int nx), (9, .int kx), (8, .int 1), (7, .int on), (6, .int un), (5, .ref ri), (4, .ref rb), (3, .ref rr), (2, .ref ra), (1, .ref (z 0)), (0, .ref b)]) hx hb dL_law_707 hl (by decide) rfl (fun ls hl => ?_)
        refine lv_iload hx hb dL_law_709 (lv_at hl 5 rfl) ?_
        refine lv_iload hx hb dL_law_711 (lv_at hl 13 rfl) ?_
        refine lv_icmp_ge (tgt := 724) hx hb dL_law_713 (by decide) (fun c7 => ?_) (fun c7 => ?_)
        · have d7 : on.toInt ≤ od.toInt := (kc_le (rfl : on.toInt = on.toInt) (rfl : od.toInt = od.toInt)).mp c7
          exfalso; omega
        · have d7 : ¬ (on.toInt ≤ od.toInt) := mt (kc_le (rfl : on.toInt = on.toInt) (rfl : od.toInt = od.toInt)).mpr c7
          refine lv_aload hx hb dL_law_716 (lv_at hl 15 rfl) ?_
          refine lv_iload hx hb dL_law_718 (lv_at hl 5 rfl) ?_
          refine rd_I F hK hO oi (by rw [li]; exact kt_in hod (by omega) (by decide)) dL_law_720 ?_
          refine lv_topi (fun x8 ex8 => ?_)
          have nx8 : x8.toInt = ((q 21 o9 : Nat) : Int) := kt_nI (by rw [ex8, kt_clamp hod (by omega)]; exact hri o9 (by omega)) (by omega)
          refine lv_goto (tgt := 725) hx hb dL_law_721 (by decide) ?_
          refine lv_istore (lv' := [(22, .int x8), (21, .int r6), (20, .int r1), (19, .int r1), (18, .int 0), (17, .int 0), (16, .int od), (15, .int mm), (14, .int aa), (13, .int kd), (11, .long bf), (10, .int nx), (9, .int kx), (8, .int 1), (7, .int on), (6, .int un), (5, .ref ri), (4, .ref rb), (3, .ref rr), (2, .ref ra), (1, .ref (z 0)), (0, .ref b)]) hx hb dL_law_725 hl (by decide) rfl (fun ls hl => ?_)
          refine lv_aload_n hx hb dL_law_727 rfl (lv_at hl 20 rfl) ?_
          refine lv_iload hx hb dL_law_728 (lv_at hl 6 rfl) ?_
          refine lv_iload hx hb dL_law_730 (lv_at hl 2 rfl) ?_
          refine kcallhI (kSthW (n := 3) (As := [.ref (z 0), .int od, .int r1]) (rest := []) F hE hNc hK hP hD hS hA (kh_pick l g e0 S _ (z 0) od r1 _ _ hI.ob0 (c_X5_pick_x l hl0 g e0 z S _ hI av lv q hR hW od r1) (fun E h => h)) kw_396 kw_397 kw_61 kw_398 (by decide +kernel) ⟨Nat.le_of_ble_eq_true rfl, Nat.le_of_ble_eq_true rfl⟩ rfl hl.1 rfl (Nat.le_of_ble_eq_true rfl) dL_law_732 ⟨(by show k0 + 1 + 1 + 3 ≤ 1072639; omega), (by show n0 + 6 + 6 + 27 ≤ 5883708; omega)⟩) rfl hD hS hA (fun r9 S1 H locs hp hP hDs hD1 hq3x hf1 hS => ?_)
          clear hq3x
          have hO9x := kO_keep hO hdis hf1
          have hdis9 := kdis_keep hO hdis hDs
          rcases hp with hp | hp
          · have hO := hO9x
            have hdis := hdis9
            have hD := hD1
            obtain ⟨hI1, i2, f9, hi2, ei2, ef, hf9, hst, hp⟩ := hp
            obtain rfl : o9 = i2 := nI_inj (by omega) (by omega) ((kt_of hod (by omega)).symm.trans ei2)
            have nf : r1.toInt = ((f9 : Nat) : Int) := kt_nI ef (by omega)
            have k14x := k14 hW hi2 hst
            have w3i := hW.2.1 (q 21 o9) h1.1
            have u13 := q_U13 (q := q) (a := q 21 o9) (by omega)
            rcases hp with hp | hp
            · obtain ⟨fe, er, hR1⟩ := hp
              subst er
              obtain ⟨q1, hq1⟩ : ∃ q9 : qS, q9 = q_pickA o9 q := ⟨_, rfl⟩
              rw [← hq1] at hR1
              have hW1 : q_W q1 := by rw [hq1]; exact q_pickA_W hW hi2 hst (by omega)
              have hL1 : q_L q1 := q_L_of hL (fun k hk i => by rw [hq1]; exact q_pickA_o (q_mem (P := fun k => k ∉ [12, 14, 24, 42, 43, 44]) hk (by decide)))
              have hO9 := q_O_of (q' := q1) hO9 (fun k hk i => by rw [hq1]; exact q_pickA_o (q_mem (P := fun k => k ∉ [12, 14, 24, 42, 43, 44]) hk (by decide)))
              have f24 : q1 24 o9 = 107 := by rw [hq1]; exact q_pickA_f.1
              have f12 : q1 12 (q 21 o9) = q 12 (q 21 o9) - q 23 o9 := by rw [hq1]; exact q_pickA_f.2.1
              have f13 : ∀ i, q1 13 i = q 13 i := fun i => by rw [hq1]; exact q_pickA_o (by decide)
              have hU0 := q_U_art (q := q) (q' := q1) (a := q 21 o9) (by omega) (fun k hk i hi => by rcases q_m2 hk with rfl | rfl; rw [hq1]; exact q_pickA_f.2.2 i hi; exact f13 i) (fun r => by rw [hq1]; exact q_pickA_o (by decide))
              rw [f12, f13] at hU0
              have f73 : q1 73 0 = q 73 0 := by rw [hq1]; exact q_pickA_o (by decide)
              have hI := hI1
              have hR := hR1
              have hW := hW1
              have hL := hL1
              clear hro hroom h57 h56
              have h721 : q1 72 0 = 3 := hL.1
              have h72 : q1 72 0 ≤ 12 := by omega
              have h73 : q1 73 0 ≤ 12 := hW.1.1.2.1
              have hro : q1 42 0 ≤ 504 := q_room hW.1.1 hW.1.2.2.2.1 hW.1.2.2.2.2.1
              have hroom : q1 42 0 < 516 := by omega
              have h57 : q1 57 0 ≤ 20 := hW.1.2.2.2.2.1.1
              have h56 : q1 56 0 ≤ 1439 := hL.2.2.2.2.2.1
              have h25 : ∀ i, i < q1 73 0 → q1 25 i < 2 ^ 31 := fun i hi => by have := (hW.1.2.2.1 i hi).2.2.2; omega
              have hU5 : q_U q1 ≤ 5000 := by omega
              obtain ⟨⟨oa, la⟩, ⟨orr, lr⟩, ⟨obb, lb⟩, ⟨oi, li⟩, hne, hra, hrb, hri⟩ := id hO9
              refine lv_istore (lv' := [(17, .int (-1)), (22, .int x8), (21, .int r6), (20, .int r1), (19, .int r1), (18, .int 0), (16, .int od), (15, .int mm), (14, .int aa), (13, .int kd), (11, .long bf), (10, .int nx), (9, .int kx), (8, .int 1), (7, .int on), (6, .int un), (5, .ref ri), (4, .ref rb), (3, .ref rr), (2, .ref ra), (1, .ref (z 0)), (0, .ref b)]) hx hb dL_law_735 hl (by decide) rfl (fun ls hl => ?_)
              refine lv_iload hx hb dL_law_737 (lv_at hl 0 rfl) ?_
              refine lv_iconst (v := (-1)) hx hb dL_law_739 (by decide) ?_
              refine lv_icmp_ge (tgt := 747) hx hb dL_law_740 (by decide) (fun c10 => ?_) (fun c10 => ?_)
              · refine lv_iconst (v := 0) hx hb dL_law_747 (by decide) ?_
                refine lv_istore (lv' := [(18, .int 0), (17, .int (-1)), (22, .int x8), (21, .int r6), (20, .int r1), (19, .int r1), (16, .int od), (15, .int mm), (14, .int aa), (13, .int kd), (11, .long bf), (10, .int nx), (9, .int kx), (8, .int 1), (7, .int on), (6, .int un), (5, .ref ri), (4, .ref rb), (3, .ref rr), (2, .ref ra), (1, .ref (z 0)), (0, .ref b)]) hx hb dL_law_748 hl (by decide) rfl (fun ls hl => ?_)
                refine lv_iload hx hb dL_law_750 (lv_at hl 1 rfl) ?_
                refine lv_if_lt (tgt := 839) hx hb dL_law_752 (by decide) (fun c11 => ?_) (fun c11 => ?_)
                · refine lv_iload hx hb dL_law_839 (lv_at hl 1 rfl) ?_
                  refine lv_iconst (v := (-1)) hx hb dL_law_841 (by decide) ?_
                  refine lv_icmp_ne (tgt := 884) hx hb dL_law_842 (by decide) (fun c12 => ?_) (fun c12 => ?_)
                  · exact absurd c12 (by decide)
                  · refine lv_iload hx hb dL_law_845 (lv_at hl 15 rfl) ?_
                    refine lv_iload hx hb dL_law_847 (lv_at hl 4 rfl) ?_
                    refine lv_isub hx hb dL_law_849 ?_
                    refine lv_topi (fun x13 ex13 => ?_)
                    have tx13 : x13.toInt = un.toInt - r1.toInt := kt_sub ex13 (rfl : un.toInt = un.toInt) (rfl : r1.toInt = r1.toInt) (by omega) (by omega)
                    refine lv_istore (lv' := [(6, .int x13), (18, .int 0), (17, .int (-1)), (22, .int x8), (21, .int r6), (20, .int r1), (19, .int r1), (16, .int od), (15, .int mm), (14, .int aa), (13, .int kd), (11, .long bf), (10, .int nx), (9, .int kx), (8, .int 1), (7, .int on), (5, .ref ri), (4, .ref rb), (3, .ref rr), (2, .ref ra), (1, .ref (z 0)), (0, .ref b)]) hx hb dL_law_850 hl (by decide) rfl (fun ls hl => ?_)
                    refine lv_aload_n hx hb dL_law_852 rfl (lv_at hl 20 rfl) ?_
                    refine lv_iload hx hb dL_law_853 (lv_at hl 7 rfl) ?_
                    refine kcallhI (kSthW (n := 2) (As := [.ref (z 0), .int od]) (rest := []) F hE hNc hK hP hD hS hA (kh_state l g e0 S1 _ (z 0) od _ _ hI.ob0 (c_X5_state_x l hl0 g e0 z S1 _ hI av lv q1 hR h73 od) (fun E h => h.1)) kw_260 kw_261 kw_61 kw_262 (by decide +kernel) ⟨Nat.le_of_ble_eq_true rfl, Nat.le_of_ble_eq_true rfl⟩ rfl hl.1 rfl (Nat.le_of_ble_eq_true rfl) dL_law_855 ⟨(by show k0 + 1 + 1 + 3 + 1 ≤ 1072639; omega), (by show n0 + 6 + 6 + 27 + 6 ≤ 5883708; omega)⟩) rfl hD hS hA (fun r14 T1 H locs hp hP hq1x hq2x hq3x hf1 hS => ?_)
                    clear hq1x hq2x hq3x
                    have hO := kO_keep hO hdis hf1
                    obtain ⟨hT, nr14⟩ := kp_Ac (i := o9) hp hod (by omega) (by omega) (by omega)
                    subst hT
                    clear hp
                    refine lv_bipush (v := 107) hx hb dL_law_858 (by decide) ?_
                    refine lv_icmp_ne (tgt := 881) hx hb dL_law_860 (by decide) (fun c15 => ?_) (fun c15 => ?_)
                    · have d15 : r14.toInt ≠ (107) := mt (kc_eq (rfl : r14.toInt = r14.toInt) (by decide : (107 : Int32).toInt = 107)).mpr c15
                      exfalso; omega
                    · have d15 : r14.toInt = (107) := (kc_eq (rfl : r14.toInt = r14.toInt) (by decide : (107 : Int32).toInt = 107)).mp c15
                      refine lv_aload_n hx hb dL_law_863 rfl (lv_at hl 20 rfl) ?_
                      refine lv_iload hx hb dL_law_864 (lv_at hl 3 rfl) ?_
                      refine kcallhI (kSthW (n := 2) (As := [.ref (z 0), .int x8]) (rest := []) F hE hNc hK hP hD hS hA (kh_stock l g e0 S1 _ (z 0) x8 _ _ hI.ob0 (c_X5_stock_x l hl0 g e0 z S1 _ hI av lv q1 hR h72 x8) (fun E h => h.1)) kw_188 kw_189 kw_61 kw_190 (by decide +kernel) ⟨Nat.le_of_ble_eq_true rfl, Nat.le_of_ble_eq_true rfl⟩ rfl hl.1 rfl (Nat.le_of_ble_eq_true rfl) dL_law_866 ⟨(by show k0 + 1 + 1 + 3 + 1 + 1 ≤ 1072639; omega), (by show n0 + 6 + 6 + 27 + 6 + 6 ≤ 5883708; omega)⟩) rfl hD hS hA (fun r16 T1 H locs hp hP hq1x hq2x hq3x hf1 hS => ?_)
                      clear hq1x hq2x hq3x
                      have hO := kO_keep hO hdis hf1
                      obtain ⟨hT, nr16⟩ := kp_A (i := q 21 o9) hp nx8 (by omega) (by omega) (by omega)
                      subst hT
                      clear hp
                      refine lv_iload hx hb dL_law_869 (lv_at hl 4 rfl) ?_
                      refine lv_iload hx hb dL_law_871 (lv_at hl 5 rfl) ?_
                      refine lv_isub hx hb dL_law_873 ?_
                      refine lv_topi (fun x17 ex17 => ?_)
                      have tx17 : x17.toInt = r6.toInt - r1.toInt := kt_sub ex17 (rfl : r6.toInt = r6.toInt) (rfl : r1.toInt = r1.toInt) (by omega) (by omega)
                      refine lv_icmp_ne (tgt := 881) hx hb dL_law_874 (by decide) (fun c18 => ?_) (fun c18 => ?_)
                      · have d18 : r16.toInt ≠ x17.toInt := mt (kc_eq (rfl : r16.toInt = r16.toInt) (rfl : x17.toInt = x17.toInt)).mpr c18
                        exfalso; omega
                      · have d18 : r16.toInt = x17.toInt := (kc_eq (rfl : r16.toInt = r16.toInt) (rfl : x17.toInt = x17.toInt)).mp c18
                        refine lv_iconst (v := 1) hx hb dL_law_877 (by decide) ?_
                        refine lv_goto (tgt := 882) hx hb dL_law_878 (by decide) ?_
                        refine lv_istore (lv' := [(8, .int 1), (6, .int x13), (18, .int 0), (17, .int (-1)), (22, .int x8), (21, .int r6), (20, .int r1), (19, .int r1), (16, .int od), (15, .int mm), (14, .int aa), (13, .int kd), (11, .long bf), (10, .int nx), (9, .int kx), (7, .int on), (5, .ref ri), (4, .ref rb), (3, .ref rr), (2, .ref ra), (1, .ref (z 0)), (0, .ref b)]) hx hb dL_law_882 hl (by decide) rfl (fun ls hl => ?_)
                        refine lv_goto (tgt := 1227) hx hb dL_law_884 (by decide) ?_
                        exact kk S1 O av lv q1 _ _ ls _ _ 0 on x13 ⟨⟨F, hK, hE, hNc, hX, hbl⟩, ⟨hP, hO⟩, ⟨hD, hDO⟩, hdis, hS, ⟨hI, hR, hW, hL⟩, hO9⟩ (by omega) (Or.inl rfl) (by omega) (by omega) (by omega) (by omega) (lv_sub hl [2, 12, 13, 14, 0, 15, 1, 16, 17, 18, 19, 20, 21] rfl)
                · exact absurd (by decide) c11
              · exact absurd (by decide) c10
            · obtain ⟨fl, b4, er, hx9⟩ := hp
              obtain ⟨lv, hR1⟩ : ∃ l9 : Nat → Nat, Rq z av l9 S1 (q_split o9 f9 q) := hx9.elim fun x h => ⟨_, h⟩
              clear hx9
              obtain ⟨q1, hq1⟩ : ∃ q9 : qS, q9 = q_split o9 f9 q := ⟨_, rfl⟩
              rw [← hq1] at hR1
              have hW1 : q_W q1 := by rw [hq1]; exact q_split_W hW hi2 hst fl b4
              have hL1 : q_L q1 := q_L_of hL (fun k hk i => by rw [hq1]; exact q_split_o (q_mem (P := fun k => k ∉ [12, 14, 21, 22, 23, 24, 25, 42, 43, 44, 73]) hk (by decide)))
              have fk : ∀ k, k ∈ [10, 11, 1] → ∀ i, q1 k i = q k i := fun k hk i => by rw [hq1]; exact q_split_o (q_mem (P := fun k => k ∉ [12, 14, 21, 22, 23, 24, 25, 42, 43, 44, 73]) hk (by decide))
              obtain ⟨f73, f21n, f23n, f12, f12o⟩ := q_split_f (q := q) (n := o9) (f := f9)
              rw [← hq1] at f73 f21n f23n f12 f12o
              have f21 : ∀ n, n ≠ q 73 0 → q1 21 n = q 21 n := fun n hn => by rw [hq1, q_split_p (Or.inl rfl) hn]; exact q_k (by decide)
              have f23 : q1 23 o9 = f9 := by rw [hq1, q_split_p (Or.inr (Or.inl rfl)) (by omega)]; exact q_at
              have f13 : ∀ i, q1 13 i = q 13 i := fun i => by rw [hq1]; exact q_split_o (by decide)
              have hU0 := q_U_art (q := q) (q' := q1) (a := q 21 o9) (by omega) (fun k hk i hi => by rcases q_m2 hk with rfl | rfl; exact f12o i hi; exact f13 i) (fun r => by rw [hq1]; exact q_split_o (by decide))
              rw [f12, f13] at hU0
              have nr9 : r9.toInt = ((q 73 0 : Nat) : Int) := kt_nI er (by omega)
              have hI := hI1
              have hR := hR1
              have hW := hW1
              have hL := hL1
              clear hro hroom h57 h56
              have h721 : q1 72 0 = 3 := hL.1
              have h72 : q1 72 0 ≤ 12 := by omega
              have h73 : q1 73 0 ≤ 12 := hW.1.1.2.1
              have hro : q1 42 0 ≤ 504 := q_room hW.1.1 hW.1.2.2.2.1 hW.1.2.2.2.2.1
              have hroom : q1 42 0 < 516 := by omega
              have h57 : q1 57 0 ≤ 20 := hW.1.2.2.2.2.1.1
              have h56 : q1 56 0 ≤ 1439 := hL.2.2.2.2.2.1
              have h25 : ∀ i, i < q1 73 0 → q1 25 i < 2 ^ 31 := fun i hi => by have := (hW.1.2.2.1 i hi).2.2.2; omega
              have hU5 : q_U q1 ≤ 5000 := by omega
              have w3j := hW.2.1 (q 21 o9) (by omega)
              refine lv_istore (lv' := [(17, .int r9), (22, .int x8), (21, .int r6), (20, .int r1), (19, .int r1), (18, .int 0), (16, .int od), (15, .int mm), (14, .int aa), (13, .int kd), (11, .long bf), (10, .int nx), (9, .int kx), (8, .int 1), (7, .int on), (6, .int un), (5, .ref ri), (4, .ref rb), (3, .ref rr), (2, .ref ra), (1, .ref (z 0)), (0, .ref b)]) hx hb dL_law_735 hl (by decide) rfl (fun ls hl => ?_)
              refine lv_iload hx hb dL_law_737 (lv_at hl 0 rfl) ?_
              refine lv_iconst (v := (-1)) hx hb dL_law_739 (by decide) ?_
              refine lv_icmp_ge (tgt := 747) hx hb dL_law_740 (by decide) (fun c19 => ?_) (fun c19 => ?_)
              · have d19 : (-1) ≤ r9.toInt := (kc_le (by decide : (-1 : Int32).toInt = -1) (rfl : r9.toInt = r9.toInt)).mp c19
                refine lv_iconst (v := 0) hx hb dL_law_747 (by decide) ?_
                refine lv_istore (lv' := [(18, .int 0), (17, .int r9), (22, .int x8), (21, .int r6), (20, .int r1), (19, .int r1), (16, .int od), (15, .int mm), (14, .int aa), (13, .int kd), (11, .long bf), (10, .int nx), (9, .int kx), (8, .int 1), (7, .int on), (6, .int un), (5, .ref ri), (4, .ref rb), (3, .ref rr), (2, .ref ra), (1, .ref (z 0)), (0, .ref b)]) hx hb dL_law_748 hl (by decide) rfl (fun ls hl => ?_)
                refine lv_iload hx hb dL_law_750 (lv_at hl 1 rfl) ?_
                refine lv_if_lt (tgt := 839) hx hb dL_law_752 (by decide) (fun c20 => ?_) (fun c20 => ?_)
                · have d20 : r9.toInt < (0) := (kc_lt (rfl : r9.toInt = r9.toInt) (by decide : (0 : Int32).toInt = 0)).mp c20
                  exfalso; omega
                · have d20 : ¬ (r9.toInt < (0)) := mt (kc_lt (rfl : r9.toInt = r9.toInt) (by decide : (0 : Int32).toInt = 0)).mpr c20
                  refine lv_aload hx hb dL_law_755 (lv_at hl 16 rfl) ?_
                  refine lv_iload hx hb dL_law_757 (lv_at hl 1 rfl) ?_
                  refine lv_iload hx hb dL_law_759 (lv_at hl 2 rfl) ?_
                  refine rt2_I F hK hP hO hD hDO hdis hS oi (by rw [li]; exact kt_in nr9 (by omega) (by decide)) dL_law_761 (fun H locs hP hO hDO hS => ?_)
                  rw [kt_clamp nr9 (by omega)] at hO hDO
                  have hdis : kdis S1 (setX O ri (upd (pX O ri) (q 73 0) x8)) := hdis
                  have hO9 := q_O_item hO9 fk rfl f73 f21 f21n (kt_of nx8 (by omega))
                  obtain ⟨⟨oa, la⟩, ⟨orr, lr⟩, ⟨obb, lb⟩, ⟨oi, li⟩, hne, hra, hrb, hri⟩ := id hO9
                  refine lv_iload hx hb dL_law_762 (lv_at hl 15 rfl) ?_
                  refine lv_iload hx hb dL_law_764 (lv_at hl 3 rfl) ?_
                  refine lv_isub hx hb dL_law_766 ?_
                  refine lv_topi (fun x21 ex21 => ?_)
                  have tx21 : x21.toInt = un.toInt - r6.toInt := kt_sub ex21 (rfl : un.toInt = un.toInt) (rfl : r6.toInt = r6.toInt) (by omega) (by omega)
                  refine lv_istore (lv' := [(6, .int x21), (18, .int 0), (17, .int r9), (22, .int x8), (21, .int r6), (20, .int r1), (19, .int r1), (16, .int od), (15, .int mm), (14, .int aa), (13, .int kd), (11, .long bf), (10, .int nx), (9, .int kx), (8, .int 1), (7, .int on), (5, .ref ri), (4, .ref rb), (3, .ref rr), (2, .ref ra), (1, .ref (z 0)), (0, .ref b)]) hx hb dL_law_767 hl (by decide) rfl (fun ls hl => ?_)
                  refine lv_iload hx hb dL_law_769 (lv_at hl 2 rfl) ?_
                  refine lv_iload hx hb dL_law_771 (lv_at hl 15 rfl) ?_
                  refine lv_icmp_ne (tgt := 830) hx hb dL_law_773 (by decide) (fun c22 => ?_) (fun c22 => ?_)
                  · have d22 : r9.toInt ≠ on.toInt := mt (kc_eq (rfl : r9.toInt = r9.toInt) (rfl : on.toInt = on.toInt)).mpr c22
                    exfalso; omega
                  · have d22 : r9.toInt = on.toInt := (kc_eq (rfl : r9.toInt = r9.toInt) (rfl : on.toInt = on.toInt)).mp c22
                    refine lv_iload hx hb dL_law_776 (lv_at hl 5 rfl) ?_
                    refine lv_iload hx hb dL_law_778 (lv_at hl 6 rfl) ?_
                    refine lv_icmp_ge (tgt := 830) hx hb dL_law_780 (by decide) (fun c23 => ?_) (fun c23 => ?_)
                    · have d23 : r1.toInt ≤ r1.toInt := (kc_le (rfl : r1.toInt = r1.toInt) (rfl : r1.toInt = r1.toInt)).mp c23
                      exfalso; omega
                    · have d23 : ¬ (r1.toInt ≤ r1.toInt) := mt (kc_le (rfl : r1.toInt = r1.toInt) (rfl : r1.toInt = r1.toInt)).mpr c23
                      refine lv_aload_n hx hb dL_law_783 rfl (lv_at hl 20 rfl) ?_
                      refine lv_iload hx hb dL_law_784 (lv_at hl 2 rfl) ?_
                      refine kcallhI (kSthW (n := 2) (As := [.ref (z 0), .int r9]) (rest := []) F hE hNc hK hP hD hS hA (kh_amount l g e0 S1 _ (z 0) r9 _ _ hI.ob0 (c_X5_amount_x l hl0 g e0 z S1 _ hI av lv q1 hR h73 r9) (fun E h => h.1)) kw_273 kw_274 kw_61 kw_275 (by decide +kernel) ⟨Nat.le_of_ble_eq_true rfl, Nat.le_of_ble_eq_true rfl⟩ rfl hl.1 rfl (Nat.le_of_ble_eq_true rfl) dL_law_786 ⟨(by show k0 + 1 + 1 + 3 + 1 ≤ 1072639; omega), (by show n0 + 6 + 6 + 27 + 6 ≤ 5883708; omega)⟩) rfl hD hS hA (fun r24 T1 H locs hp hP hq1x hq2x hq3x hf1 hS => ?_)
                      clear hq1x hq2x hq3x
                      have hO := kO_keep hO hdis hf1
                      obtain ⟨hT, nr24⟩ := kp_A (i := q 73 0) hp nr9 (by omega) (by omega) (by omega)
                      subst hT
                      clear hp
                      refine lv_iload hx hb dL_law_789 (lv_at hl 6 rfl) ?_
                      refine lv_iload hx hb dL_law_791 (lv_at hl 5 rfl) ?_
                      refine lv_isub hx hb dL_law_793 ?_
                      refine lv_topi (fun x25 ex25 => ?_)
                      have tx25 : x25.toInt = r1.toInt - r1.toInt := kt_sub ex25 (rfl : r1.toInt = r1.toInt) (rfl : r1.toInt = r1.toInt) (by omega) (by omega)
                      refine lv_icmp_ne (tgt := 830) hx hb dL_law_794 (by decide) (fun c26 => ?_) (fun c26 => ?_)
                      · have d26 : r24.toInt ≠ x25.toInt := mt (kc_eq (rfl : r24.toInt = r24.toInt) (rfl : x25.toInt = x25.toInt)).mpr c26
                        exfalso; omega
                      · have d26 : r24.toInt = x25.toInt := (kc_eq (rfl : r24.toInt = r24.toInt) (rfl : x25.toInt = x25.toInt)).mp c26
                        refine lv_aload_n hx hb dL_law_797 rfl (lv_at hl 20 rfl) ?_
                        refine lv_iload hx hb dL_law_798 (lv_at hl 7 rfl) ?_
                        refine kcallhI (kSthW (n := 2) (As := [.ref (z 0), .int od]) (rest := []) F hE hNc hK hP hD hS hA (kh_amount l g e0 S1 _ (z 0) od _ _ hI.ob0 (c_X5_amount_x l hl0 g e0 z S1 _ hI av lv q1 hR h73 od) (fun E h => h.1)) kw_273 kw_274 kw_61 kw_275 (by decide +kernel) ⟨Nat.le_of_ble_eq_true rfl, Nat.le_of_ble_eq_true rfl⟩ rfl hl.1 rfl (Nat.le_of_ble_eq_true rfl) dL_law_800 ⟨(by show k0 + 1 + 1 + 3 + 1 + 1 ≤ 1072639; omega), (by show n0 + 6 + 6 + 27 + 6 + 6 ≤ 5883708; omega)⟩) rfl hD hS hA (fun r27 T1 H locs hp hP hq1x hq2x hq3x hf1 hS => ?_)
                        clear hq1x hq2x hq3x
                        have hO := kO_keep hO hdis hf1
                        obtain ⟨hT, nr27⟩ := kp_A (i := o9) hp hod (by omega) (by omega) (by omega)
                        subst hT
                        clear hp
                        refine lv_iload hx hb dL_law_803 (lv_at hl 5 rfl) ?_
                        refine lv_icmp_ne (tgt := 830) hx hb dL_law_805 (by decide) (fun c28 => ?_) (fun c28 => ?_)
                        · have d28 : r27.toInt ≠ r1.toInt := mt (kc_eq (rfl : r27.toInt = r27.toInt) (rfl : r1.toInt = r1.toInt)).mpr c28
                          exfalso; omega
                        · have d28 : r27.toInt = r1.toInt := (kc_eq (rfl : r27.toInt = r27.toInt) (rfl : r1.toInt = r1.toInt)).mp c28
                          refine lv_aload_n hx hb dL_law_808 rfl (lv_at hl 20 rfl) ?_
                          refine lv_iload hx hb dL_law_809 (lv_at hl 3 rfl) ?_
                          refine kcallhI (kSthW (n := 2) (As := [.ref (z 0), .int x8]) (rest := []) F hE hNc hK hP hD hS hA (kh_stock l g e0 S1 _ (z 0) x8 _ _ hI.ob0 (c_X5_stock_x l hl0 g e0 z S1 _ hI av lv q1 hR h72 x8) (fun E h => h.1)) kw_188 kw_189 kw_61 kw_190 (by decide +kernel) ⟨Nat.le_of_ble_eq_true rfl, Nat.le_of_ble_eq_true rfl⟩ rfl hl.1 rfl (Nat.le_of_ble_eq_true rfl) dL_law_811 ⟨(by show k0 + 1 + 1 + 3 + 1 + 1 + 1 ≤ 1072639; omega), (by show n0 + 6 + 6 + 27 + 6 + 6 + 6 ≤ 5883708; omega)⟩) rfl hD hS hA (fun r29 T1 H locs hp hP hq1x hq2x hq3x hf1 hS => ?_)
                          clear hq1x hq2x hq3x
                          have hO := kO_keep hO hdis hf1
                          obtain ⟨hT, nr29⟩ := kp_A (i := q 21 o9) hp nx8 (by omega) (by omega) (by omega)
                          subst hT
                          clear hp
                          refine lv_if_ne (tgt := 830) hx hb dL_law_814 (by decide) (fun c30 => ?_) (fun c30 => ?_)
                          · have d30 : r29.toInt ≠ (0) := mt (kc_eq (rfl : r29.toInt = r29.toInt) (by decide : (0 : Int32).toInt = 0)).mpr c30
                            exfalso; omega
                          · have d30 : r29.toInt = (0) := (kc_eq (rfl : r29.toInt = r29.toInt) (by decide : (0 : Int32).toInt = 0)).mp c30
                            refine lv_aload_n hx hb dL_law_817 rfl (lv_at hl 20 rfl) ?_
                            refine lv_iload hx hb dL_law_818 (lv_at hl 3 rfl) ?_
                            refine kcallhI (kSthW (n := 2) (As := [.ref (z 0), .int x8]) (rest := []) F hE hNc hK hP hD hS hA (kh_promised l g e0 S1 _ (z 0) x8 _ _ hI.ob0 (c_X5_promised_x l hl0 g e0 z S1 _ hI av lv q1 hR h72 x8) (fun E h => h.1)) kw_228 kw_229 kw_61 kw_230 (by decide +kernel) ⟨Nat.le_of_ble_eq_true rfl, Nat.le_of_ble_eq_true rfl⟩ rfl hl.1 rfl (Nat.le_of_ble_eq_true rfl) dL_law_820 ⟨(by show k0 + 1 + 1 + 3 + 1 + 1 + 1 + 1 ≤ 1072639; omega), (by show n0 + 6 + 6 + 27 + 6 + 6 + 6 + 6 ≤ 5883708; omega)⟩) rfl hD hS hA (fun r31 T1 H locs hp hP hq1x hq2x hq3x hf1 hS => ?_)
                            clear hq1x hq2x hq3x
                            have hO := kO_keep hO hdis hf1
                            obtain ⟨hT, nr31⟩ := kp_A (i := q 21 o9) hp nx8 (by omega) (by omega) (by omega)
                            subst hT
                            clear hp
                            refine lv_if_ne (tgt := 830) hx hb dL_law_823 (by decide) (fun c32 => ?_) (fun c32 => ?_)
                            · have d32 : r31.toInt ≠ (0) := mt (kc_eq (rfl : r31.toInt = r31.toInt) (by decide : (0 : Int32).toInt = 0)).mpr c32
                              exfalso; omega
                            · have d32 : r31.toInt = (0) := (kc_eq (rfl : r31.toInt = r31.toInt) (by decide : (0 : Int32).toInt = 0)).mp c32
                              refine lv_iconst (v := 1) hx hb dL_law_826 (by decide) ?_
                              refine lv_goto (tgt := 831) hx hb dL_law_827 (by decide) ?_
                              refine lv_istore (lv' := [(8, .int 1), (6, .int x21), (18, .int 0), (17, .int r9), (22, .int x8), (21, .int r6), (20, .int r1), (19, .int r1), (16, .int od), (15, .int mm), (14, .int aa), (13, .int kd), (11, .long bf), (10, .int nx), (9, .int kx), (7, .int on), (5, .ref ri), (4, .ref rb), (3, .ref rr), (2, .ref ra), (1, .ref (z 0)), (0, .ref b)]) hx hb dL_law_831 hl (by decide) rfl (fun ls hl => ?_)
                              obtain ⟨x33, ex33⟩ : ∃ y : Int32, y = on + 1 := ⟨_, rfl⟩
                              refine lv_iinc (v := x33) (lv' := [(7, .int x33), (8, .int 1), (6, .int x21), (18, .int 0), (17, .int r9), (22, .int x8), (21, .int r6), (20, .int r1), (19, .int r1), (16, .int od), (15, .int mm), (14, .int aa), (13, .int kd), (11, .long bf), (10, .int nx), (9, .int kx), (5, .ref ri), (4, .ref rb), (3, .ref rr), (2, .ref ra), (1, .ref (z 0)), (0, .ref b)]) hx hb dL_law_833 hl (k := 15) rfl (by rw [ex33]; rfl) (by decide) rfl (fun ls hl => ?_)
                              have tx33 : x33.toInt = on.toInt + 1 := kt_add ex33 (rfl : on.toInt = on.toInt) (by decide) (by omega) (by omega)
                              refine lv_goto (tgt := 884) hx hb dL_law_836 (by decide) ?_
                              refine lv_goto (tgt := 1227) hx hb dL_law_884 (by decide) ?_
                              exact kk S1 (setX O ri (upd (pX O ri) (q 73 0) x8)) av lv q1 _ _ ls _ _ 0 x33 x21 ⟨⟨F, hK, hE, hNc, hX, hbl⟩, ⟨hP, hO⟩, ⟨hD, hDO⟩, hdis, hS, ⟨hI, hR, hW, hL⟩, hO9⟩ (by omega) (Or.inl rfl) (by omega) (by omega) (by omega) (by omega) (lv_sub hl [3, 13, 14, 15, 1, 0, 2, 16, 17, 18, 19, 20, 21] rfl)
              · have d19 : ¬ ((-1) ≤ r9.toInt) := mt (kc_le (by decide : (-1 : Int32).toInt = -1) (rfl : r9.toInt = r9.toInt)).mpr c19
                exfalso; omega
          · have hO := hO9x
            obtain ⟨hT, hrx⟩ : S = S1 ∧ r9.toInt ≤ -75 := by rcases hp with ⟨e, -, h⟩ | ⟨e, -, h⟩ | ⟨e, -, h⟩ | ⟨e, -, h⟩ <;> exact ⟨h.symm, by rw [e]; decide⟩
            subst hT
            clear hp
            refine lv_istore (lv' := [(17, .int r9), (22, .int x8), (21, .int r6), (20, .int r1), (19, .int r1), (18, .int 0), (16, .int od), (15, .int mm), (14, .int aa), (13, .int kd), (11, .long bf), (10, .int nx), (9, .int kx), (8, .int 1), (7, .int on), (6, .int un), (5, .ref ri), (4, .ref rb), (3, .ref rr), (2, .ref ra), (1, .ref (z 0)), (0, .ref b)]) hx hb dL_law_735 hl (by decide) rfl (fun ls hl => ?_)
            refine lv_iload hx hb dL_law_737 (lv_at hl 0 rfl) ?_
            refine lv_iconst (v := (-1)) hx hb dL_law_739 (by decide) ?_
            refine lv_icmp_ge (tgt := 747) hx hb dL_law_740 (by decide) (fun c34 => ?_) (fun c34 => ?_)
            · have d34 : (-1) ≤ r9.toInt := (kc_le (by decide : (-1 : Int32).toInt = -1) (rfl : r9.toInt = r9.toInt)).mp c34
              exfalso; omega
            · have d34 : ¬ ((-1) ≤ r9.toInt) := mt (kc_le (by decide : (-1 : Int32).toInt = -1) (rfl : r9.toInt = r9.toInt)).mpr c34
              refine lv_iconst (v := 1) hx hb dL_law_743 (by decide) ?_
              refine lv_goto (tgt := 748) hx hb dL_law_744 (by decide) ?_
              refine lv_istore (lv' := [(18, .int 1), (17, .int r9), (22, .int x8), (21, .int r6), (20, .int r1), (19, .int r1), (16, .int od), (15, .int mm), (14, .int aa), (13, .int kd), (11, .long bf), (10, .int nx), (9, .int kx), (8, .int 1), (7, .int on), (6, .int un), (5, .ref ri), (4, .ref rb), (3, .ref rr), (2, .ref ra), (1, .ref (z 0)), (0, .ref b)]) hx hb dL_law_748 hl (by decide) rfl (fun ls hl => ?_)
              refine lv_iload hx hb dL_law_750 (lv_at hl 1 rfl) ?_
              refine lv_if_lt (tgt := 839) hx hb dL_law_752 (by decide) (fun c35 => ?_) (fun c35 => ?_)
              · have d35 : r9.toInt < (0) := (kc_lt (rfl : r9.toInt = r9.toInt) (by decide : (0 : Int32).toInt = 0)).mp c35
                refine lv_iload hx hb dL_law_839 (lv_at hl 1 rfl) ?_
                refine lv_iconst (v := (-1)) hx hb dL_law_841 (by decide) ?_
                refine lv_icmp_ne (tgt := 884) hx hb dL_law_842 (by decide) (fun c36 => ?_) (fun c36 => ?_)
                · have d36 : r9.toInt ≠ (-1) := mt (kc_eq (rfl : r9.toInt = r9.toInt) (by decide : (-1 : Int32).toInt = -1)).mpr c36
                  refine lv_goto (tgt := 1227) hx hb dL_law_884 (by decide) ?_
                  exact kk S O av lv q _ _ ls _ _ 1 on un ⟨⟨F, hK, hE, hNc, hX, hbl⟩, ⟨hP, hO⟩, ⟨hD, hDO⟩, hdis, hS, ⟨hI, hR, hW, hL⟩, hO9⟩ (by omega) (Or.inr ⟨rfl, rfl⟩) (by omega) (by omega) (by omega) (by omega) (lv_sub hl [0, 10, 11, 12, 13, 14, 15, 16, 17, 18, 19, 20, 21] rfl)
                · have d36 : r9.toInt = (-1) := (kc_eq (rfl : r9.toInt = r9.toInt) (by decide : (-1 : Int32).toInt = -1)).mp c36
                  exfalso; omega
              · have d35 : ¬ (r9.toInt < (0)) := mt (kc_lt (rfl : r9.toInt = r9.toInt) (by decide : (0 : Int32).toInt = 0)).mpr c35
                exfalso; omega
    · have d3 : ¬ ((0) < x2.toInt) := mt (kc_lt (by decide : (0 : Int32).toInt = 0) (rfl : x2.toInt = x2.toInt)).mpr c3
      refine lv_iload hx hb dL_law_669 (lv_at hl 0 rfl) ?_
      refine lv_iconst (v := 1) hx hb dL_law_671 (by decide) ?_
      refine lv_icmp_ge (tgt := 680) hx hb dL_law_672 (by decide) (fun c37 => ?_) (fun c37 => ?_)
      · have d37 : (1) ≤ r1.toInt := (kc_le (by decide : (1 : Int32).toInt = 1) (rfl : r1.toInt = r1.toInt)).mp c37
        refine lv_iload hx hb dL_law_680 (lv_at hl 4 rfl) ?_
        refine lv_iload hx hb dL_law_682 (lv_at hl 0 rfl) ?_
        refine lv_irem hx hb dL_law_684 (fun h9 => by have h8 := (kc_eq (rfl : r1.toInt = r1.toInt) (by decide : (0 : Int32).toInt = 0)).mp h9; omega) ?_
        refine lv_topi (fun x38 ex38 => ?_)
        have nx38 : x38.toInt = ((m9 % (q 23 o9) : Nat) : Int) := kt_rem ex38 hmm nr1 (by omega) (by omega) (by omega)
        have mx38 : m9 % (q 23 o9) < q 23 o9 := Nat.mod_lt _ (by omega)
        generalize m9 % (q 23 o9) = jx38 at nx38 mx38
        refine lv_istore (lv' := [(20, .int x38), (19, .int r1), (18, .int 0), (17, .int 0), (16, .int od), (15, .int mm), (14, .int aa), (13, .int kd), (11, .long bf), (10, .int nx), (9, .int kx), (8, .int 1), (7, .int on), (6, .int un), (5, .ref ri), (4, .ref rb), (3, .ref rr), (2, .ref ra), (1, .ref (z 0)), (0, .ref b)]) hx hb dL_law_685 hl (by decide) rfl (fun ls hl => ?_)
        refine lv_iload hx hb dL_law_687 (lv_at hl 4 rfl) ?_
        refine lv_iload hx hb dL_law_689 (lv_at hl 12 rfl) ?_
        refine lv_icmp_ge (tgt := 706) hx hb dL_law_691 (by decide) (fun c39 => ?_) (fun c39 => ?_)
        · have d39 : on.toInt ≤ od.toInt := (kc_le (rfl : on.toInt = on.toInt) (rfl : od.toInt = od.toInt)).mp c39
          exfalso; omega
        · have d39 : ¬ (on.toInt ≤ od.toInt) := mt (kc_le (rfl : on.toInt = on.toInt) (rfl : od.toInt = od.toInt)).mpr c39
          refine lv_aload_n hx hb dL_law_694 rfl (lv_at hl 18 rfl) ?_
          refine lv_aload hx hb dL_law_695 (lv_at hl 14 rfl) ?_
          refine lv_iload hx hb dL_law_697 (lv_at hl 4 rfl) ?_
          refine rd_I F hK hO oi (by rw [li]; exact kt_in hod (by omega) (by decide)) dL_law_699 ?_
          refine lv_topi (fun x40 ex40 => ?_)
          have nx40 : x40.toInt = ((q 21 o9 : Nat) : Int) := kt_nI (by rw [ex40, kt_clamp hod (by omega)]; exact hri o9 (by omega)) (by omega)
          refine kcallhI (kSthW (n := 2) (As := [.ref (z 0), .int x40]) (rest := []) F hE hNc hK hP hD hS hA (kh_stock l g e0 S _ (z 0) x40 _ _ hI.ob0 (c_X5_stock_x l hl0 g e0 z S _ hI av lv q hR h72 x40) (fun E h => h.1)) kw_188 kw_189 kw_61 kw_190 (by decide +kernel) ⟨Nat.le_of_ble_eq_true rfl, Nat.le_of_ble_eq_true rfl⟩ rfl hl.1 rfl (Nat.le_of_ble_eq_true rfl) dL_law_700 ⟨(by show k0 + 1 + 1 ≤ 1072639; omega), (by show n0 + 6 + 6 ≤ 5883708; omega)⟩) rfl hD hS hA (fun r41 T1 H locs hp hP hq1x hq2x hq3x hf1 hS => ?_)
          clear hq1x hq2x hq3x
          have hO := kO_keep hO hdis hf1
          obtain ⟨hT, nr41⟩ := kp_A (i := q 21 o9) hp nx40 (by omega) (by omega) (by omega)
          subst hT
          clear hp
          refine lv_goto (tgt := 707) hx hb dL_law_703 (by decide) ?_
          refine lv_istore (lv' := [(21, .int r41), (20, .int x38), (19, .int r1), (18, .int 0), (17, .int 0), (16, .int od), (15, .int mm), (14, .int aa), (13, .int kd), (11, .long bf), (10, .int nx), (9, .int kx), (8, .int 1), (7, .int on), (6, .int un), (5, .ref ri), (4, .ref rb), (3, .ref rr), (2, .ref ra), (1, .ref (z 0)), (0, .ref b)]) hx hb dL_law_707 hl (by decide) rfl (fun ls hl => ?_)
          refine lv_iload hx hb dL_law_709 (lv_at hl 5 rfl) ?_
          refine lv_iload hx hb dL_law_711 (lv_at hl 13 rfl) ?_
          refine lv_icmp_ge (tgt := 724) hx hb dL_law_713 (by decide) (fun c42 => ?_) (fun c42 => ?_)
          · have d42 : on.toInt ≤ od.toInt := (kc_le (rfl : on.toInt = on.toInt) (rfl : od.toInt = od.toInt)).mp c42
            exfalso; omega
          · have d42 : ¬ (on.toInt ≤ od.toInt) := mt (kc_le (rfl : on.toInt = on.toInt) (rfl : od.toInt = od.toInt)).mpr c42
            refine lv_aload hx hb dL_law_716 (lv_at hl 15 rfl) ?_
            refine lv_iload hx hb dL_law_718 (lv_at hl 5 rfl) ?_
            refine rd_I F hK hO oi (by rw [li]; exact kt_in hod (by omega) (by decide)) dL_law_720 ?_
            refine lv_topi (fun x43 ex43 => ?_)
            have nx43 : x43.toInt = ((q 21 o9 : Nat) : Int) := kt_nI (by rw [ex43, kt_clamp hod (by omega)]; exact hri o9 (by omega)) (by omega)
            refine lv_goto (tgt := 725) hx hb dL_law_721 (by decide) ?_
            refine lv_istore (lv' := [(22, .int x43), (21, .int r41), (20, .int x38), (19, .int r1), (18, .int 0), (17, .int 0), (16, .int od), (15, .int mm), (14, .int aa), (13, .int kd), (11, .long bf), (10, .int nx), (9, .int kx), (8, .int 1), (7, .int on), (6, .int un), (5, .ref ri), (4, .ref rb), (3, .ref rr), (2, .ref ra), (1, .ref (z 0)), (0, .ref b)]) hx hb dL_law_725 hl (by decide) rfl (fun ls hl => ?_)
            refine lv_aload_n hx hb dL_law_727 rfl (lv_at hl 20 rfl) ?_
            refine lv_iload hx hb dL_law_728 (lv_at hl 6 rfl) ?_
            refine lv_iload hx hb dL_law_730 (lv_at hl 2 rfl) ?_
            refine kcallhI (kSthW (n := 3) (As := [.ref (z 0), .int od, .int x38]) (rest := []) F hE hNc hK hP hD hS hA (kh_pick l g e0 S _ (z 0) od x38 _ _ hI.ob0 (c_X5_pick_x l hl0 g e0 z S _ hI av lv q hR hW od x38) (fun E h => h)) kw_396 kw_397 kw_61 kw_398 (by decide +kernel) ⟨Nat.le_of_ble_eq_true rfl, Nat.le_of_ble_eq_true rfl⟩ rfl hl.1 rfl (Nat.le_of_ble_eq_true rfl) dL_law_732 ⟨(by show k0 + 1 + 1 + 3 ≤ 1072639; omega), (by show n0 + 6 + 6 + 27 ≤ 5883708; omega)⟩) rfl hD hS hA (fun r44 S1 H locs hp hP hDs hD1 hq3x hf1 hS => ?_)
            clear hq3x
            have hO9x := kO_keep hO hdis hf1
            have hdis9 := kdis_keep hO hdis hDs
            rcases hp with hp | hp
            · have hO := hO9x
              have hdis := hdis9
              have hD := hD1
              obtain ⟨hI1, i2, f9, hi2, ei2, ef, hf9, hst, hp⟩ := hp
              obtain rfl : o9 = i2 := nI_inj (by omega) (by omega) ((kt_of hod (by omega)).symm.trans ei2)
              have nf : x38.toInt = ((f9 : Nat) : Int) := kt_nI ef (by omega)
              have k14x := k14 hW hi2 hst
              have w3i := hW.2.1 (q 21 o9) h1.1
              have u13 := q_U13 (q := q) (a := q 21 o9) (by omega)
              rcases hp with hp | hp
              · obtain ⟨fe, er, hR1⟩ := hp
                subst er
                obtain ⟨q1, hq1⟩ : ∃ q9 : qS, q9 = q_pickA o9 q := ⟨_, rfl⟩
                rw [← hq1] at hR1
                have hW1 : q_W q1 := by rw [hq1]; exact q_pickA_W hW hi2 hst (by omega)
                have hL1 : q_L q1 := q_L_of hL (fun k hk i => by rw [hq1]; exact q_pickA_o (q_mem (P := fun k => k ∉ [12, 14, 24, 42, 43, 44]) hk (by decide)))
                have hO9 := q_O_of (q' := q1) hO9 (fun k hk i => by rw [hq1]; exact q_pickA_o (q_mem (P := fun k => k ∉ [12, 14, 24, 42, 43, 44]) hk (by decide)))
                have f24 : q1 24 o9 = 107 := by rw [hq1]; exact q_pickA_f.1
                have f12 : q1 12 (q 21 o9) = q 12 (q 21 o9) - q 23 o9 := by rw [hq1]; exact q_pickA_f.2.1
                have f13 : ∀ i, q1 13 i = q 13 i := fun i => by rw [hq1]; exact q_pickA_o (by decide)
                have hU0 := q_U_art (q := q) (q' := q1) (a := q 21 o9) (by omega) (fun k hk i hi => by rcases q_m2 hk with rfl | rfl; rw [hq1]; exact q_pickA_f.2.2 i hi; exact f13 i) (fun r => by rw [hq1]; exact q_pickA_o (by decide))
                rw [f12, f13] at hU0
                have f73 : q1 73 0 = q 73 0 := by rw [hq1]; exact q_pickA_o (by decide)
                have hI := hI1
                have hR := hR1
                have hW := hW1
                have hL := hL1
                clear hro hroom h57 h56
                have h721 : q1 72 0 = 3 := hL.1
                have h72 : q1 72 0 ≤ 12 := by omega
                have h73 : q1 73 0 ≤ 12 := hW.1.1.2.1
                have hro : q1 42 0 ≤ 504 := q_room hW.1.1 hW.1.2.2.2.1 hW.1.2.2.2.2.1
                have hroom : q1 42 0 < 516 := by omega
                have h57 : q1 57 0 ≤ 20 := hW.1.2.2.2.2.1.1
                have h56 : q1 56 0 ≤ 1439 := hL.2.2.2.2.2.1
                have h25 : ∀ i, i < q1 73 0 → q1 25 i < 2 ^ 31 := fun i hi => by have := (hW.1.2.2.1 i hi).2.2.2; omega
                have hU5 : q_U q1 ≤ 5000 := by omega
                obtain ⟨⟨oa, la⟩, ⟨orr, lr⟩, ⟨obb, lb⟩, ⟨oi, li⟩, hne, hra, hrb, hri⟩ := id hO9
                refine lv_istore (lv' := [(17, .int (-1)), (22, .int x43), (21, .int r41), (20, .int x38), (19, .int r1), (18, .int 0), (16, .int od), (15, .int mm), (14, .int aa), (13, .int kd), (11, .long bf), (10, .int nx), (9, .int kx), (8, .int 1), (7, .int on), (6, .int un), (5, .ref ri), (4, .ref rb), (3, .ref rr), (2, .ref ra), (1, .ref (z 0)), (0, .ref b)]) hx hb dL_law_735 hl (by decide) rfl (fun ls hl => ?_)
                refine lv_iload hx hb dL_law_737 (lv_at hl 0 rfl) ?_
                refine lv_iconst (v := (-1)) hx hb dL_law_739 (by decide) ?_
                refine lv_icmp_ge (tgt := 747) hx hb dL_law_740 (by decide) (fun c45 => ?_) (fun c45 => ?_)
                · refine lv_iconst (v := 0) hx hb dL_law_747 (by decide) ?_
                  refine lv_istore (lv' := [(18, .int 0), (17, .int (-1)), (22, .int x43), (21, .int r41), (20, .int x38), (19, .int r1), (16, .int od), (15, .int mm), (14, .int aa), (13, .int kd), (11, .long bf), (10, .int nx), (9, .int kx), (8, .int 1), (7, .int on), (6, .int un), (5, .ref ri), (4, .ref rb), (3, .ref rr), (2, .ref ra), (1, .ref (z 0)), (0, .ref b)]) hx hb dL_law_748 hl (by decide) rfl (fun ls hl => ?_)
                  refine lv_iload hx hb dL_law_750 (lv_at hl 1 rfl) ?_
                  refine lv_if_lt (tgt := 839) hx hb dL_law_752 (by decide) (fun c46 => ?_) (fun c46 => ?_)
                  · refine lv_iload hx hb dL_law_839 (lv_at hl 1 rfl) ?_
                    refine lv_iconst (v := (-1)) hx hb dL_law_841 (by decide) ?_
                    refine lv_icmp_ne (tgt := 884) hx hb dL_law_842 (by decide) (fun c47 => ?_) (fun c47 => ?_)
                    · exact absurd c47 (by decide)
                    · refine lv_iload hx hb dL_law_845 (lv_at hl 15 rfl) ?_
                      refine lv_iload hx hb dL_law_847 (lv_at hl 4 rfl) ?_
                      refine lv_isub hx hb dL_law_849 ?_
                      refine lv_topi (fun x48 ex48 => ?_)
                      have tx48 : x48.toInt = un.toInt - x38.toInt := kt_sub ex48 (rfl : un.toInt = un.toInt) (rfl : x38.toInt = x38.toInt) (by omega) (by omega)
                      refine lv_istore (lv' := [(6, .int x48), (18, .int 0), (17, .int (-1)), (22, .int x43), (21, .int r41), (20, .int x38), (19, .int r1), (16, .int od), (15, .int mm), (14, .int aa), (13, .int kd), (11, .long bf), (10, .int nx), (9, .int kx), (8, .int 1), (7, .int on), (5, .ref ri), (4, .ref rb), (3, .ref rr), (2, .ref ra), (1, .ref (z 0)), (0, .ref b)]) hx hb dL_law_850 hl (by decide) rfl (fun ls hl => ?_)
                      refine lv_aload_n hx hb dL_law_852 rfl (lv_at hl 20 rfl) ?_
                      refine lv_iload hx hb dL_law_853 (lv_at hl 7 rfl) ?_
                      refine kcallhI (kSthW (n := 2) (As := [.ref (z 0), .int od]) (rest := []) F hE hNc hK hP hD hS hA (kh_state l g e0 S1 _ (z 0) od _ _ hI.ob0 (c_X5_state_x l hl0 g e0 z S1 _ hI av lv q1 hR h73 od) (fun E h => h.1)) kw_260 kw_261 kw_61 kw_262 (by decide +kernel) ⟨Nat.le_of_ble_eq_true rfl, Nat.le_of_ble_eq_true rfl⟩ rfl hl.1 rfl (Nat.le_of_ble_eq_true rfl) dL_law_855 ⟨(by show k0 + 1 + 1 + 3 + 1 ≤ 1072639; omega), (by show n0 + 6 + 6 + 27 + 6 ≤ 5883708; omega)⟩) rfl hD hS hA (fun r49 T1 H locs hp hP hq1x hq2x hq3x hf1 hS => ?_)
                      clear hq1x hq2x hq3x
                      have hO := kO_keep hO hdis hf1
                      obtain ⟨hT, nr49⟩ := kp_Ac (i := o9) hp hod (by omega) (by omega) (by omega)
                      subst hT
                      clear hp
                      refine lv_bipush (v := 107) hx hb dL_law_858 (by decide) ?_
                      refine lv_icmp_ne (tgt := 881) hx hb dL_law_860 (by decide) (fun c50 => ?_) (fun c50 => ?_)
                      · have d50 : r49.toInt ≠ (107) := mt (kc_eq (rfl : r49.toInt = r49.toInt) (by decide : (107 : Int32).toInt = 107)).mpr c50
                        exfalso; omega
                      · have d50 : r49.toInt = (107) := (kc_eq (rfl : r49.toInt = r49.toInt) (by decide : (107 : Int32).toInt = 107)).mp c50
                        refine lv_aload_n hx hb dL_law_863 rfl (lv_at hl 20 rfl) ?_
                        refine lv_iload hx hb dL_law_864 (lv_at hl 3 rfl) ?_
                        refine kcallhI (kSthW (n := 2) (As := [.ref (z 0), .int x43]) (rest := []) F hE hNc hK hP hD hS hA (kh_stock l g e0 S1 _ (z 0) x43 _ _ hI.ob0 (c_X5_stock_x l hl0 g e0 z S1 _ hI av lv q1 hR h72 x43) (fun E h => h.1)) kw_188 kw_189 kw_61 kw_190 (by decide +kernel) ⟨Nat.le_of_ble_eq_true rfl, Nat.le_of_ble_eq_true rfl⟩ rfl hl.1 rfl (Nat.le_of_ble_eq_true rfl) dL_law_866 ⟨(by show k0 + 1 + 1 + 3 + 1 + 1 ≤ 1072639; omega), (by show n0 + 6 + 6 + 27 + 6 + 6 ≤ 5883708; omega)⟩) rfl hD hS hA (fun r51 T1 H locs hp hP hq1x hq2x hq3x hf1 hS => ?_)
                        clear hq1x hq2x hq3x
                        have hO := kO_keep hO hdis hf1
                        obtain ⟨hT, nr51⟩ := kp_A (i := q 21 o9) hp nx43 (by omega) (by omega) (by omega)
                        subst hT
                        clear hp
                        refine lv_iload hx hb dL_law_869 (lv_at hl 4 rfl) ?_
                        refine lv_iload hx hb dL_law_871 (lv_at hl 5 rfl) ?_
                        refine lv_isub hx hb dL_law_873 ?_
                        refine lv_topi (fun x52 ex52 => ?_)
                        have tx52 : x52.toInt = r41.toInt - x38.toInt := kt_sub ex52 (rfl : r41.toInt = r41.toInt) (rfl : x38.toInt = x38.toInt) (by omega) (by omega)
                        refine lv_icmp_ne (tgt := 881) hx hb dL_law_874 (by decide) (fun c53 => ?_) (fun c53 => ?_)
                        · have d53 : r51.toInt ≠ x52.toInt := mt (kc_eq (rfl : r51.toInt = r51.toInt) (rfl : x52.toInt = x52.toInt)).mpr c53
                          exfalso; omega
                        · have d53 : r51.toInt = x52.toInt := (kc_eq (rfl : r51.toInt = r51.toInt) (rfl : x52.toInt = x52.toInt)).mp c53
                          refine lv_iconst (v := 1) hx hb dL_law_877 (by decide) ?_
                          refine lv_goto (tgt := 882) hx hb dL_law_878 (by decide) ?_
                          refine lv_istore (lv' := [(8, .int 1), (6, .int x48), (18, .int 0), (17, .int (-1)), (22, .int x43), (21, .int r41), (20, .int x38), (19, .int r1), (16, .int od), (15, .int mm), (14, .int aa), (13, .int kd), (11, .long bf), (10, .int nx), (9, .int kx), (7, .int on), (5, .ref ri), (4, .ref rb), (3, .ref rr), (2, .ref ra), (1, .ref (z 0)), (0, .ref b)]) hx hb dL_law_882 hl (by decide) rfl (fun ls hl => ?_)
                          refine lv_goto (tgt := 1227) hx hb dL_law_884 (by decide) ?_
                          exact kk S1 O av lv q1 _ _ ls _ _ 0 on x48 ⟨⟨F, hK, hE, hNc, hX, hbl⟩, ⟨hP, hO⟩, ⟨hD, hDO⟩, hdis, hS, ⟨hI, hR, hW, hL⟩, hO9⟩ (by omega) (Or.inl rfl) (by omega) (by omega) (by omega) (by omega) (lv_sub hl [2, 12, 13, 14, 0, 15, 1, 16, 17, 18, 19, 20, 21] rfl)
                  · exact absurd (by decide) c46
                · exact absurd (by decide) c45
              · obtain ⟨fl, b4, er, hx9⟩ := hp
                obtain ⟨lv, hR1⟩ : ∃ l9 : Nat → Nat, Rq z av l9 S1 (q_split o9 f9 q) := hx9.elim fun x h => ⟨_, h⟩
                clear hx9
                obtain ⟨q1, hq1⟩ : ∃ q9 : qS, q9 = q_split o9 f9 q := ⟨_, rfl⟩
                rw [← hq1] at hR1
                have hW1 : q_W q1 := by rw [hq1]; exact q_split_W hW hi2 hst fl b4
                have hL1 : q_L q1 := q_L_of hL (fun k hk i => by rw [hq1]; exact q_split_o (q_mem (P := fun k => k ∉ [12, 14, 21, 22, 23, 24, 25, 42, 43, 44, 73]) hk (by decide)))
                have fk : ∀ k, k ∈ [10, 11, 1] → ∀ i, q1 k i = q k i := fun k hk i => by rw [hq1]; exact q_split_o (q_mem (P := fun k => k ∉ [12, 14, 21, 22, 23, 24, 25, 42, 43, 44, 73]) hk (by decide))
                obtain ⟨f73, f21n, f23n, f12, f12o⟩ := q_split_f (q := q) (n := o9) (f := f9)
                rw [← hq1] at f73 f21n f23n f12 f12o
                have f21 : ∀ n, n ≠ q 73 0 → q1 21 n = q 21 n := fun n hn => by rw [hq1, q_split_p (Or.inl rfl) hn]; exact q_k (by decide)
                have f23 : q1 23 o9 = f9 := by rw [hq1, q_split_p (Or.inr (Or.inl rfl)) (by omega)]; exact q_at
                have f13 : ∀ i, q1 13 i = q 13 i := fun i => by rw [hq1]; exact q_split_o (by decide)
                have hU0 := q_U_art (q := q) (q' := q1) (a := q 21 o9) (by omega) (fun k hk i hi => by rcases q_m2 hk with rfl | rfl; exact f12o i hi; exact f13 i) (fun r => by rw [hq1]; exact q_split_o (by decide))
                rw [f12, f13] at hU0
                have nr44 : r44.toInt = ((q 73 0 : Nat) : Int) := kt_nI er (by omega)
                have hI := hI1
                have hR := hR1
                have hW := hW1
                have hL := hL1
                clear hro hroom h57 h56
                have h721 : q1 72 0 = 3 := hL.1
                have h72 : q1 72 0 ≤ 12 := by omega
                have h73 : q1 73 0 ≤ 12 := hW.1.1.2.1
                have hro : q1 42 0 ≤ 504 := q_room hW.1.1 hW.1.2.2.2.1 hW.1.2.2.2.2.1
                have hroom : q1 42 0 < 516 := by omega
                have h57 : q1 57 0 ≤ 20 := hW.1.2.2.2.2.1.1
                have h56 : q1 56 0 ≤ 1439 := hL.2.2.2.2.2.1
                have h25 : ∀ i, i < q1 73 0 → q1 25 i < 2 ^ 31 := fun i hi => by have := (hW.1.2.2.1 i hi).2.2.2; omega
                have hU5 : q_U q1 ≤ 5000 := by omega
                have w3j := hW.2.1 (q 21 o9) (by omega)
                refine lv_istore (lv' := [(17, .int r44), (22, .int x43), (21, .int r41), (20, .int x38), (19, .int r1), (18, .int 0), (16, .int od), (15, .int mm), (14, .int aa), (13, .int kd), (11, .long bf), (10, .int nx), (9, .int kx), (8, .int 1), (7, .int on), (6, .int un), (5, .ref ri), (4, .ref rb), (3, .ref rr), (2, .ref ra), (1, .ref (z 0)), (0, .ref b)]) hx hb dL_law_735 hl (by decide) rfl (fun ls hl => ?_)
                refine lv_iload hx hb dL_law_737 (lv_at hl 0 rfl) ?_
                refine lv_iconst (v := (-1)) hx hb dL_law_739 (by decide) ?_
                refine lv_icmp_ge (tgt := 747) hx hb dL_law_740 (by decide) (fun c54 => ?_) (fun c54 => ?_)
                · have d54 : (-1) ≤ r44.toInt := (kc_le (by decide : (-1 : Int32).toInt = -1) (rfl : r44.toInt = r44.toInt)).mp c54
                  refine lv_iconst (v := 0) hx hb dL_law_747 (by decide) ?_
                  refine lv_istore (lv' := [(18, .int 0), (17, .int r44), (22, .int x43), (21, .int r41), (20, .int x38), (19, .int r1), (16, .int od), (15, .int mm), (14, .int aa), (13, .int kd), (11, .long bf), (10, .int nx), (9, .int kx), (8, .int 1), (7, .int on), (6, .int un), (5, .ref ri), (4, .ref rb), (3, .ref rr), (2, .ref ra), (1, .ref (z 0)), (0, .ref b)]) hx hb dL_law_748 hl (by decide) rfl (fun ls hl => ?_)
                  refine lv_iload hx hb dL_law_750 (lv_at hl 1 rfl) ?_
                  refine lv_if_lt (tgt := 839) hx hb dL_law_752 (by decide) (fun c55 => ?_) (fun c55 => ?_)
                  · have d55 : r44.toInt < (0) := (kc_lt (rfl : r44.toInt = r44.toInt) (by decide : (0 : Int32).toInt = 0)).mp c55
                    exfalso; omega
                  · have d55 : ¬ (r44.toInt < (0)) := mt (kc_lt (rfl : r44.toInt = r44.toInt) (by decide : (0 : Int32).toInt = 0)).mpr c55
                    refine lv_aload hx hb dL_law_755 (lv_at hl 16 rfl) ?_
                    refine lv_iload hx hb dL_law_757 (lv_at hl 1 rfl) ?_
                    refine lv_iload hx hb dL_law_759 (lv_at hl 2 rfl) ?_
                    refine rt2_I F hK hP hO hD hDO hdis hS oi (by rw [li]; exact kt_in nr44 (by omega) (by decide)) dL_law_761 (fun H locs hP hO hDO hS => ?_)
                    rw [kt_clamp nr44 (by omega)] at hO hDO
                    have hdis : kdis S1 (setX O ri (upd (pX O ri) (q 73 0) x43)) := hdis
                    have hO9 := q_O_item hO9 fk rfl f73 f21 f21n (kt_of nx43 (by omega))
                    obtain ⟨⟨oa, la⟩, ⟨orr, lr⟩, ⟨obb, lb⟩, ⟨oi, li⟩, hne, hra, hrb, hri⟩ := id hO9
                    refine lv_iload hx hb dL_law_762 (lv_at hl 15 rfl) ?_
                    refine lv_iload hx hb dL_law_764 (lv_at hl 3 rfl) ?_
                    refine lv_isub hx hb dL_law_766 ?_
                    refine lv_topi (fun x56 ex56 => ?_)
                    have tx56 : x56.toInt = un.toInt - r41.toInt := kt_sub ex56 (rfl : un.toInt = un.toInt) (rfl : r41.toInt = r41.toInt) (by omega) (by omega)
                    refine lv_istore (lv' := [(6, .int x56), (18, .int 0), (17, .int r44), (22, .int x43), (21, .int r41), (20, .int x38), (19, .int r1), (16, .int od), (15, .int mm), (14, .int aa), (13, .int kd), (11, .long bf), (10, .int nx), (9, .int kx), (8, .int 1), (7, .int on), (5, .ref ri), (4, .ref rb), (3, .ref rr), (2, .ref ra), (1, .ref (z 0)), (0, .ref b)]) hx hb dL_law_767 hl (by decide) rfl (fun ls hl => ?_)
                    refine lv_iload hx hb dL_law_769 (lv_at hl 2 rfl) ?_
                    refine lv_iload hx hb dL_law_771 (lv_at hl 15 rfl) ?_
                    refine lv_icmp_ne (tgt := 830) hx hb dL_law_773 (by decide) (fun c57 => ?_) (fun c57 => ?_)
                    · have d57 : r44.toInt ≠ on.toInt := mt (kc_eq (rfl : r44.toInt = r44.toInt) (rfl : on.toInt = on.toInt)).mpr c57
                      exfalso; omega
                    · have d57 : r44.toInt = on.toInt := (kc_eq (rfl : r44.toInt = r44.toInt) (rfl : on.toInt = on.toInt)).mp c57
                      refine lv_iload hx hb dL_law_776 (lv_at hl 5 rfl) ?_
                      refine lv_iload hx hb dL_law_778 (lv_at hl 6 rfl) ?_
                      refine lv_icmp_ge (tgt := 830) hx hb dL_law_780 (by decide) (fun c58 => ?_) (fun c58 => ?_)
                      · have d58 : r1.toInt ≤ x38.toInt := (kc_le (rfl : r1.toInt = r1.toInt) (rfl : x38.toInt = x38.toInt)).mp c58
                        exfalso; omega
                      · have d58 : ¬ (r1.toInt ≤ x38.toInt) := mt (kc_le (rfl : r1.toInt = r1.toInt) (rfl : x38.toInt = x38.toInt)).mpr c58
                        refine lv_aload_n hx hb dL_law_783 rfl (lv_at hl 20 rfl) ?_
                        refine lv_iload hx hb dL_law_784 (lv_at hl 2 rfl) ?_
                        refine kcallhI (kSthW (n := 2) (As := [.ref (z 0), .int r44]) (rest := []) F hE hNc hK hP hD hS hA (kh_amount l g e0 S1 _ (z 0) r44 _ _ hI.ob0 (c_X5_amount_x l hl0 g e0 z S1 _ hI av lv q1 hR h73 r44) (fun E h => h.1)) kw_273 kw_274 kw_61 kw_275 (by decide +kernel) ⟨Nat.le_of_ble_eq_true rfl, Nat.le_of_ble_eq_true rfl⟩ rfl hl.1 rfl (Nat.le_of_ble_eq_true rfl) dL_law_786 ⟨(by show k0 + 1 + 1 + 3 + 1 ≤ 1072639; omega), (by show n0 + 6 + 6 + 27 + 6 ≤ 5883708; omega)⟩) rfl hD hS hA (fun r59 T1 H locs hp hP hq1x hq2x hq3x hf1 hS => ?_)
                        clear hq1x hq2x hq3x
                        have hO := kO_keep hO hdis hf1
                        obtain ⟨hT, nr59⟩ := kp_A (i := q 73 0) hp nr44 (by omega) (by omega) (by omega)
                        subst hT
                        clear hp
                        refine lv_iload hx hb dL_law_789 (lv_at hl 6 rfl) ?_
                        refine lv_iload hx hb dL_law_791 (lv_at hl 5 rfl) ?_
                        refine lv_isub hx hb dL_law_793 ?_
                        refine lv_topi (fun x60 ex60 => ?_)
                        have tx60 : x60.toInt = r1.toInt - x38.toInt := kt_sub ex60 (rfl : r1.toInt = r1.toInt) (rfl : x38.toInt = x38.toInt) (by omega) (by omega)
                        refine lv_icmp_ne (tgt := 830) hx hb dL_law_794 (by decide) (fun c61 => ?_) (fun c61 => ?_)
                        · have d61 : r59.toInt ≠ x60.toInt := mt (kc_eq (rfl : r59.toInt = r59.toInt) (rfl : x60.toInt = x60.toInt)).mpr c61
                          exfalso; omega
                        · have d61 : r59.toInt = x60.toInt := (kc_eq (rfl : r59.toInt = r59.toInt) (rfl : x60.toInt = x60.toInt)).mp c61
                          refine lv_aload_n hx hb dL_law_797 rfl (lv_at hl 20 rfl) ?_
                          refine lv_iload hx hb dL_law_798 (lv_at hl 7 rfl) ?_
                          refine kcallhI (kSthW (n := 2) (As := [.ref (z 0), .int od]) (rest := []) F hE hNc hK hP hD hS hA (kh_amount l g e0 S1 _ (z 0) od _ _ hI.ob0 (c_X5_amount_x l hl0 g e0 z S1 _ hI av lv q1 hR h73 od) (fun E h => h.1)) kw_273 kw_274 kw_61 kw_275 (by decide +kernel) ⟨Nat.le_of_ble_eq_true rfl, Nat.le_of_ble_eq_true rfl⟩ rfl hl.1 rfl (Nat.le_of_ble_eq_true rfl) dL_law_800 ⟨(by show k0 + 1 + 1 + 3 + 1 + 1 ≤ 1072639; omega), (by show n0 + 6 + 6 + 27 + 6 + 6 ≤ 5883708; omega)⟩) rfl hD hS hA (fun r62 T1 H locs hp hP hq1x hq2x hq3x hf1 hS => ?_)
                          clear hq1x hq2x hq3x
                          have hO := kO_keep hO hdis hf1
                          obtain ⟨hT, nr62⟩ := kp_A (i := o9) hp hod (by omega) (by omega) (by omega)
                          subst hT
                          clear hp
                          refine lv_iload hx hb dL_law_803 (lv_at hl 5 rfl) ?_
                          refine lv_icmp_ne (tgt := 830) hx hb dL_law_805 (by decide) (fun c63 => ?_) (fun c63 => ?_)
                          · have d63 : r62.toInt ≠ x38.toInt := mt (kc_eq (rfl : r62.toInt = r62.toInt) (rfl : x38.toInt = x38.toInt)).mpr c63
                            exfalso; omega
                          · have d63 : r62.toInt = x38.toInt := (kc_eq (rfl : r62.toInt = r62.toInt) (rfl : x38.toInt = x38.toInt)).mp c63
                            refine lv_aload_n hx hb dL_law_808 rfl (lv_at hl 20 rfl) ?_
                            refine lv_iload hx hb dL_law_809 (lv_at hl 3 rfl) ?_
                            refine kcallhI (kSthW (n := 2) (As := [.ref (z 0), .int x43]) (rest := []) F hE hNc hK hP hD hS hA (kh_stock l g e0 S1 _ (z 0) x43 _ _ hI.ob0 (c_X5_stock_x l hl0 g e0 z S1 _ hI av lv q1 hR h72 x43) (fun E h => h.1)) kw_188 kw_189 kw_61 kw_190 (by decide +kernel) ⟨Nat.le_of_ble_eq_true rfl, Nat.le_of_ble_eq_true rfl⟩ rfl hl.1 rfl (Nat.le_of_ble_eq_true rfl) dL_law_811 ⟨(by show k0 + 1 + 1 + 3 + 1 + 1 + 1 ≤ 1072639; omega), (by show n0 + 6 + 6 + 27 + 6 + 6 + 6 ≤ 5883708; omega)⟩) rfl hD hS hA (fun r64 T1 H locs hp hP hq1x hq2x hq3x hf1 hS => ?_)
                            clear hq1x hq2x hq3x
                            have hO := kO_keep hO hdis hf1
                            obtain ⟨hT, nr64⟩ := kp_A (i := q 21 o9) hp nx43 (by omega) (by omega) (by omega)
                            subst hT
                            clear hp
                            refine lv_if_ne (tgt := 830) hx hb dL_law_814 (by decide) (fun c65 => ?_) (fun c65 => ?_)
                            · have d65 : r64.toInt ≠ (0) := mt (kc_eq (rfl : r64.toInt = r64.toInt) (by decide : (0 : Int32).toInt = 0)).mpr c65
                              exfalso; omega
                            · have d65 : r64.toInt = (0) := (kc_eq (rfl : r64.toInt = r64.toInt) (by decide : (0 : Int32).toInt = 0)).mp c65
                              refine lv_aload_n hx hb dL_law_817 rfl (lv_at hl 20 rfl) ?_
                              refine lv_iload hx hb dL_law_818 (lv_at hl 3 rfl) ?_
                              refine kcallhI (kSthW (n := 2) (As := [.ref (z 0), .int x43]) (rest := []) F hE hNc hK hP hD hS hA (kh_promised l g e0 S1 _ (z 0) x43 _ _ hI.ob0 (c_X5_promised_x l hl0 g e0 z S1 _ hI av lv q1 hR h72 x43) (fun E h => h.1)) kw_228 kw_229 kw_61 kw_230 (by decide +kernel) ⟨Nat.le_of_ble_eq_true rfl, Nat.le_of_ble_eq_true rfl⟩ rfl hl.1 rfl (Nat.le_of_ble_eq_true rfl) dL_law_820 ⟨(by show k0 + 1 + 1 + 3 + 1 + 1 + 1 + 1 ≤ 1072639; omega), (by show n0 + 6 + 6 + 27 + 6 + 6 + 6 + 6 ≤ 5883708; omega)⟩) rfl hD hS hA (fun r66 T1 H locs hp hP hq1x hq2x hq3x hf1 hS => ?_)
                              clear hq1x hq2x hq3x
                              have hO := kO_keep hO hdis hf1
                              obtain ⟨hT, nr66⟩ := kp_A (i := q 21 o9) hp nx43 (by omega) (by omega) (by omega)
                              subst hT
                              clear hp
                              refine lv_if_ne (tgt := 830) hx hb dL_law_823 (by decide) (fun c67 => ?_) (fun c67 => ?_)
                              · have d67 : r66.toInt ≠ (0) := mt (kc_eq (rfl : r66.toInt = r66.toInt) (by decide : (0 : Int32).toInt = 0)).mpr c67
                                exfalso; omega
                              · have d67 : r66.toInt = (0) := (kc_eq (rfl : r66.toInt = r66.toInt) (by decide : (0 : Int32).toInt = 0)).mp c67
                                refine lv_iconst (v := 1) hx hb dL_law_826 (by decide) ?_
                                refine lv_goto (tgt := 831) hx hb dL_law_827 (by decide) ?_
                                refine lv_istore (lv' := [(8, .int 1), (6, .int x56), (18, .int 0), (17, .int r44), (22, .int x43), (21, .int r41), (20, .int x38), (19, .int r1), (16, .int od), (15, .int mm), (14, .int aa), (13, .int kd), (11, .long bf), (10, .int nx), (9, .int kx), (7, .int on), (5, .ref ri), (4, .ref rb), (3, .ref rr), (2, .ref ra), (1, .ref (z 0)), (0, .ref b)]) hx hb dL_law_831 hl (by decide) rfl (fun ls hl => ?_)
                                obtain ⟨x68, ex68⟩ : ∃ y : Int32, y = on + 1 := ⟨_, rfl⟩
                                refine lv_iinc (v := x68) (lv' := [(7, .int x68), (8, .int 1), (6, .int x56), (18, .int 0), (17, .int r44), (22, .int x43), (21, .int r41), (20, .int x38), (19, .int r1), (16, .int od), (15, .int mm), (14, .int aa), (13, .int kd), (11, .long bf), (10, .int nx), (9, .int kx), (5, .ref ri), (4, .ref rb), (3, .ref rr), (2, .ref ra), (1, .ref (z 0)), (0, .ref b)]) hx hb dL_law_833 hl (k := 15) rfl (by rw [ex68]; rfl) (by decide) rfl (fun ls hl => ?_)
                                have tx68 : x68.toInt = on.toInt + 1 := kt_add ex68 (rfl : on.toInt = on.toInt) (by decide) (by omega) (by omega)
                                refine lv_goto (tgt := 884) hx hb dL_law_836 (by decide) ?_
                                refine lv_goto (tgt := 1227) hx hb dL_law_884 (by decide) ?_
                                exact kk S1 (setX O ri (upd (pX O ri) (q 73 0) x43)) av lv q1 _ _ ls _ _ 0 x68 x56 ⟨⟨F, hK, hE, hNc, hX, hbl⟩, ⟨hP, hO⟩, ⟨hD, hDO⟩, hdis, hS, ⟨hI, hR, hW, hL⟩, hO9⟩ (by omega) (Or.inl rfl) (by omega) (by omega) (by omega) (by omega) (lv_sub hl [3, 13, 14, 15, 1, 0, 2, 16, 17, 18, 19, 20, 21] rfl)
                · have d54 : ¬ ((-1) ≤ r44.toInt) := mt (kc_le (by decide : (-1 : Int32).toInt = -1) (rfl : r44.toInt = r44.toInt)).mpr c54
                  exfalso; omega
            · have hO := hO9x
              obtain ⟨hT, hrx⟩ : S = S1 ∧ r44.toInt ≤ -75 := by rcases hp with ⟨e, -, h⟩ | ⟨e, -, h⟩ | ⟨e, -, h⟩ | ⟨e, -, h⟩ <;> exact ⟨h.symm, by rw [e]; decide⟩
              subst hT
              clear hp
              refine lv_istore (lv' := [(17, .int r44), (22, .int x43), (21, .int r41), (20, .int x38), (19, .int r1), (18, .int 0), (16, .int od), (15, .int mm), (14, .int aa), (13, .int kd), (11, .long bf), (10, .int nx), (9, .int kx), (8, .int 1), (7, .int on), (6, .int un), (5, .ref ri), (4, .ref rb), (3, .ref rr), (2, .ref ra), (1, .ref (z 0)), (0, .ref b)]) hx hb dL_law_735 hl (by decide) rfl (fun ls hl => ?_)
              refine lv_iload hx hb dL_law_737 (lv_at hl 0 rfl) ?_
              refine lv_iconst (v := (-1)) hx hb dL_law_739 (by decide) ?_
              refine lv_icmp_ge (tgt := 747) hx hb dL_law_740 (by decide) (fun c69 => ?_) (fun c69 => ?_)
              · have d69 : (-1) ≤ r44.toInt := (kc_le (by decide : (-1 : Int32).toInt = -1) (rfl : r44.toInt = r44.toInt)).mp c69
                exfalso; omega
              · have d69 : ¬ ((-1) ≤ r44.toInt) := mt (kc_le (by decide : (-1 : Int32).toInt = -1) (rfl : r44.toInt = r44.toInt)).mpr c69
                refine lv_iconst (v := 1) hx hb dL_law_743 (by decide) ?_
                refine lv_goto (tgt := 748) hx hb dL_law_744 (by decide) ?_
                refine lv_istore (lv' := [(18, .int 1), (17, .int r44), (22, .int x43), (21, .int r41), (20, .int x38), (19, .int r1), (16, .int od), (15, .int mm), (14, .int aa), (13, .int kd), (11, .long bf), (10, .int nx), (9, .int kx), (8, .int 1), (7, .int on), (6, .int un), (5, .ref ri), (4, .ref rb), (3, .ref rr), (2, .ref ra), (1, .ref (z 0)), (0, .ref b)]) hx hb dL_law_748 hl (by decide) rfl (fun ls hl => ?_)
                refine lv_iload hx hb dL_law_750 (lv_at hl 1 rfl) ?_
                refine lv_if_lt (tgt := 839) hx hb dL_law_752 (by decide) (fun c70 => ?_) (fun c70 => ?_)
                · have d70 : r44.toInt < (0) := (kc_lt (rfl : r44.toInt = r44.toInt) (by decide : (0 : Int32).toInt = 0)).mp c70
                  refine lv_iload hx hb dL_law_839 (lv_at hl 1 rfl) ?_
                  refine lv_iconst (v := (-1)) hx hb dL_law_841 (by decide) ?_
                  refine lv_icmp_ne (tgt := 884) hx hb dL_law_842 (by decide) (fun c71 => ?_) (fun c71 => ?_)
                  · have d71 : r44.toInt ≠ (-1) := mt (kc_eq (rfl : r44.toInt = r44.toInt) (by decide : (-1 : Int32).toInt = -1)).mpr c71
                    refine lv_goto (tgt := 1227) hx hb dL_law_884 (by decide) ?_
                    exact kk S O av lv q _ _ ls _ _ 1 on un ⟨⟨F, hK, hE, hNc, hX, hbl⟩, ⟨hP, hO⟩, ⟨hD, hDO⟩, hdis, hS, ⟨hI, hR, hW, hL⟩, hO9⟩ (by omega) (Or.inr ⟨rfl, rfl⟩) (by omega) (by omega) (by omega) (by omega) (lv_sub hl [0, 10, 11, 12, 13, 14, 15, 16, 17, 18, 19, 20, 21] rfl)
                  · have d71 : r44.toInt = (-1) := (kc_eq (rfl : r44.toInt = r44.toInt) (by decide : (-1 : Int32).toInt = -1)).mp c71
                    exfalso; omega
                · have d70 : ¬ (r44.toInt < (0)) := mt (kc_lt (rfl : r44.toInt = r44.toInt) (by decide : (0 : Int32).toInt = 0)).mpr c70
                  exfalso; omega
      · have d37 : ¬ ((1) ≤ r1.toInt) := mt (kc_le (by decide : (1 : Int32).toInt = 1) (rfl : r1.toInt = r1.toInt)).mpr c37
        refine lv_iload hx hb dL_law_675 (lv_at hl 0 rfl) ?_
        refine lv_goto (tgt := 685) hx hb dL_law_677 (by decide) ?_
        refine lv_istore (lv' := [(20, .int r1), (19, .int r1), (18, .int 0), (17, .int 0), (16, .int od), (15, .int mm), (14, .int aa), (13, .int kd), (11, .long bf), (10, .int nx), (9, .int kx), (8, .int 1), (7, .int on), (6, .int un), (5, .ref ri), (4, .ref rb), (3, .ref rr), (2, .ref ra), (1, .ref (z 0)), (0, .ref b)]) hx hb dL_law_685 hl (by decide) rfl (fun ls hl => ?_)
        refine lv_iload hx hb dL_law_687 (lv_at hl 4 rfl) ?_
        refine lv_iload hx hb dL_law_689 (lv_at hl 12 rfl) ?_
        refine lv_icmp_ge (tgt := 706) hx hb dL_law_691 (by decide) (fun c72 => ?_) (fun c72 => ?_)
        · have d72 : on.toInt ≤ od.toInt := (kc_le (rfl : on.toInt = on.toInt) (rfl : od.toInt = od.toInt)).mp c72
          exfalso; omega
        · have d72 : ¬ (on.toInt ≤ od.toInt) := mt (kc_le (rfl : on.toInt = on.toInt) (rfl : od.toInt = od.toInt)).mpr c72
          refine lv_aload_n hx hb dL_law_694 rfl (lv_at hl 18 rfl) ?_
          refine lv_aload hx hb dL_law_695 (lv_at hl 14 rfl) ?_
          refine lv_iload hx hb dL_law_697 (lv_at hl 4 rfl) ?_
          refine rd_I F hK hO oi (by rw [li]; exact kt_in hod (by omega) (by decide)) dL_law_699 ?_
          refine lv_topi (fun x73 ex73 => ?_)
          have nx73 : x73.toInt = ((q 21 o9 : Nat) : Int) := kt_nI (by rw [ex73, kt_clamp hod (by omega)]; exact hri o9 (by omega)) (by omega)
          refine kcallhI (kSthW (n := 2) (As := [.ref (z 0), .int x73]) (rest := []) F hE hNc hK hP hD hS hA (kh_stock l g e0 S _ (z 0) x73 _ _ hI.ob0 (c_X5_stock_x l hl0 g e0 z S _ hI av lv q hR h72 x73) (fun E h => h.1)) kw_188 kw_189 kw_61 kw_190 (by decide +kernel) ⟨Nat.le_of_ble_eq_true rfl, Nat.le_of_ble_eq_true rfl⟩ rfl hl.1 rfl (Nat.le_of_ble_eq_true rfl) dL_law_700 ⟨(by show k0 + 1 + 1 ≤ 1072639; omega), (by show n0 + 6 + 6 ≤ 5883708; omega)⟩) rfl hD hS hA (fun r74 T1 H locs hp hP hq1x hq2x hq3x hf1 hS => ?_)
          clear hq1x hq2x hq3x
          have hO := kO_keep hO hdis hf1
          obtain ⟨hT, nr74⟩ := kp_A (i := q 21 o9) hp nx73 (by omega) (by omega) (by omega)
          subst hT
          clear hp
          refine lv_goto (tgt := 707) hx hb dL_law_703 (by decide) ?_
          refine lv_istore (lv' := [(21, .int r74), (20, .int r1), (19, .int r1), (18, .int 0), (17, .int 0), (16, .int od), (15, .int mm), (14, .int aa), (13, .int kd), (11, .long bf), (10, .int nx), (9, .int kx), (8, .int 1), (7, .int on), (6, .int un), (5, .ref ri), (4, .ref rb), (3, .ref rr), (2, .ref ra), (1, .ref (z 0)), (0, .ref b)]) hx hb dL_law_707 hl (by decide) rfl (fun ls hl => ?_)
          refine lv_iload hx hb dL_law_709 (lv_at hl 5 rfl) ?_
          refine lv_iload hx hb dL_law_711 (lv_at hl 13 rfl) ?_
          refine lv_icmp_ge (tgt := 724) hx hb dL_law_713 (by decide) (fun c75 => ?_) (fun c75 => ?_)
          · have d75 : on.toInt ≤ od.toInt := (kc_le (rfl : on.toInt = on.toInt) (rfl : od.toInt = od.toInt)).mp c75
            exfalso; omega
          · have d75 : ¬ (on.toInt ≤ od.toInt) := mt (kc_le (rfl : on.toInt = on.toInt) (rfl : od.toInt = od.toInt)).mpr c75
            refine lv_aload hx hb dL_law_716 (lv_at hl 15 rfl) ?_
            refine lv_iload hx hb dL_law_718 (lv_at hl 5 rfl) ?_
            refine rd_I F hK hO oi (by rw [li]; exact kt_in hod (by omega) (by decide)) dL_law_720 ?_
            refine lv_topi (fun x76 ex76 => ?_)
            have nx76 : x76.toInt = ((q 21 o9 : Nat) : Int) := kt_nI (by rw [ex76, kt_clamp hod (by omega)]; exact hri o9 (by omega)) (by omega)
            refine lv_goto (tgt := 725) hx hb dL_law_721 (by decide) ?_
            refine lv_istore (lv' := [(22, .int x76), (21, .int r74), (20, .int r1), (19, .int r1), (18, .int 0), (17, .int 0), (16, .int od), (15, .int mm), (14, .int aa), (13, .int kd), (11, .long bf), (10, .int nx), (9, .int kx), (8, .int 1), (7, .int on), (6, .int un), (5, .ref ri), (4, .ref rb), (3, .ref rr), (2, .ref ra), (1, .ref (z 0)), (0, .ref b)]) hx hb dL_law_725 hl (by decide) rfl (fun ls hl => ?_)
            refine lv_aload_n hx hb dL_law_727 rfl (lv_at hl 20 rfl) ?_
            refine lv_iload hx hb dL_law_728 (lv_at hl 6 rfl) ?_
            refine lv_iload hx hb dL_law_730 (lv_at hl 2 rfl) ?_
            refine kcallhI (kSthW (n := 3) (As := [.ref (z 0), .int od, .int r1]) (rest := []) F hE hNc hK hP hD hS hA (kh_pick l g e0 S _ (z 0) od r1 _ _ hI.ob0 (c_X5_pick_x l hl0 g e0 z S _ hI av lv q hR hW od r1) (fun E h => h)) kw_396 kw_397 kw_61 kw_398 (by decide +kernel) ⟨Nat.le_of_ble_eq_true rfl, Nat.le_of_ble_eq_true rfl⟩ rfl hl.1 rfl (Nat.le_of_ble_eq_true rfl) dL_law_732 ⟨(by show k0 + 1 + 1 + 3 ≤ 1072639; omega), (by show n0 + 6 + 6 + 27 ≤ 5883708; omega)⟩) rfl hD hS hA (fun r77 S1 H locs hp hP hDs hD1 hq3x hf1 hS => ?_)
            clear hq3x
            have hO9x := kO_keep hO hdis hf1
            have hdis9 := kdis_keep hO hdis hDs
            rcases hp with hp | hp
            · have hO := hO9x
              have hdis := hdis9
              have hD := hD1
              obtain ⟨hI1, i2, f9, hi2, ei2, ef, hf9, hst, hp⟩ := hp
              obtain rfl : o9 = i2 := nI_inj (by omega) (by omega) ((kt_of hod (by omega)).symm.trans ei2)
              have nf : r1.toInt = ((f9 : Nat) : Int) := kt_nI ef (by omega)
              have k14x := k14 hW hi2 hst
              have w3i := hW.2.1 (q 21 o9) h1.1
              have u13 := q_U13 (q := q) (a := q 21 o9) (by omega)
              rcases hp with hp | hp
              · obtain ⟨fe, er, hR1⟩ := hp
                subst er
                obtain ⟨q1, hq1⟩ : ∃ q9 : qS, q9 = q_pickA o9 q := ⟨_, rfl⟩
                rw [← hq1] at hR1
                have hW1 : q_W q1 := by rw [hq1]; exact q_pickA_W hW hi2 hst (by omega)
                have hL1 : q_L q1 := q_L_of hL (fun k hk i => by rw [hq1]; exact q_pickA_o (q_mem (P := fun k => k ∉ [12, 14, 24, 42, 43, 44]) hk (by decide)))
                have hO9 := q_O_of (q' := q1) hO9 (fun k hk i => by rw [hq1]; exact q_pickA_o (q_mem (P := fun k => k ∉ [12, 14, 24, 42, 43, 44]) hk (by decide)))
                have f24 : q1 24 o9 = 107 := by rw [hq1]; exact q_pickA_f.1
                have f12 : q1 12 (q 21 o9) = q 12 (q 21 o9) - q 23 o9 := by rw [hq1]; exact q_pickA_f.2.1
                have f13 : ∀ i, q1 13 i = q 13 i := fun i => by rw [hq1]; exact q_pickA_o (by decide)
                have hU0 := q_U_art (q := q) (q' := q1) (a := q 21 o9) (by omega) (fun k hk i hi => by rcases q_m2 hk with rfl | rfl; rw [hq1]; exact q_pickA_f.2.2 i hi; exact f13 i) (fun r => by rw [hq1]; exact q_pickA_o (by decide))
                rw [f12, f13] at hU0
                have f73 : q1 73 0 = q 73 0 := by rw [hq1]; exact q_pickA_o (by decide)
                have hI := hI1
                have hR := hR1
                have hW := hW1
                have hL := hL1
                clear hro hroom h57 h56
                have h721 : q1 72 0 = 3 := hL.1
                have h72 : q1 72 0 ≤ 12 := by omega
                have h73 : q1 73 0 ≤ 12 := hW.1.1.2.1
                have hro : q1 42 0 ≤ 504 := q_room hW.1.1 hW.1.2.2.2.1 hW.1.2.2.2.2.1
                have hroom : q1 42 0 < 516 := by omega
                have h57 : q1 57 0 ≤ 20 := hW.1.2.2.2.2.1.1
                have h56 : q1 56 0 ≤ 1439 := hL.2.2.2.2.2.1
                have h25 : ∀ i, i < q1 73 0 → q1 25 i < 2 ^ 31 := fun i hi => by have := (hW.1.2.2.1 i hi).2.2.2; omega
                have hU5 : q_U q1 ≤ 5000 := by omega
                obtain ⟨⟨oa, la⟩, ⟨orr, lr⟩, ⟨obb, lb⟩, ⟨oi, li⟩, hne, hra, hrb, hri⟩ := id hO9
                refine lv_istore (lv' := [(17, .int (-1)), (22, .int x76), (21, .int r74), (20, .int r1), (19, .int r1), (18, .int 0), (16, .int od), (15, .int mm), (14, .int aa), (13, .int kd), (11, .long bf), (10, .int nx), (9, .int kx), (8, .int 1), (7, .int on), (6, .int un), (5, .ref ri), (4, .ref rb), (3, .ref rr), (2, .ref ra), (1, .ref (z 0)), (0, .ref b)]) hx hb dL_law_735 hl (by decide) rfl (fun ls hl => ?_)
                refine lv_iload hx hb dL_law_737 (lv_at hl 0 rfl) ?_
                refine lv_iconst (v := (-1)) hx hb dL_law_739 (by decide) ?_
                refine lv_icmp_ge (tgt := 747) hx hb dL_law_740 (by decide) (fun c78 => ?_) (fun c78 => ?_)
                · refine lv_iconst (v := 0) hx hb dL_law_747 (by decide) ?_
                  refine lv_istore (lv' := [(18, .int 0), (17, .int (-1)), (22, .int x76), (21, .int r74), (20, .int r1), (19, .int r1), (16, .int od), (15, .int mm), (14, .int aa), (13, .int kd), (11, .long bf), (10, .int nx), (9, .int kx), (8, .int 1), (7, .int on), (6, .int un), (5, .ref ri), (4, .ref rb), (3, .ref rr), (2, .ref ra), (1, .ref (z 0)), (0, .ref b)]) hx hb dL_law_748 hl (by decide) rfl (fun ls hl => ?_)
                  refine lv_iload hx hb dL_law_750 (lv_at hl 1 rfl) ?_
                  refine lv_if_lt (tgt := 839) hx hb dL_law_752 (by decide) (fun c79 => ?_) (fun c79 => ?_)
                  · refine lv_iload hx hb dL_law_839 (lv_at hl 1 rfl) ?_
                    refine lv_iconst (v := (-1)) hx hb dL_law_841 (by decide) ?_
                    refine lv_icmp_ne (tgt := 884) hx hb dL_law_842 (by decide) (fun c80 => ?_) (fun c80 => ?_)
                    · exact absurd c80 (by decide)
                    · refine lv_iload hx hb dL_law_845 (lv_at hl 15 rfl) ?_
                      refine lv_iload hx hb dL_law_847 (lv_at hl 4 rfl) ?_
                      refine lv_isub hx hb dL_law_849 ?_
                      refine lv_topi (fun x81 ex81 => ?_)
                      have tx81 : x81.toInt = un.toInt - r1.toInt := kt_sub ex81 (rfl : un.toInt = un.toInt) (rfl : r1.toInt = r1.toInt) (by omega) (by omega)
                      refine lv_istore (lv' := [(6, .int x81), (18, .int 0), (17, .int (-1)), (22, .int x76), (21, .int r74), (20, .int r1), (19, .int r1), (16, .int od), (15, .int mm), (14, .int aa), (13, .int kd), (11, .long bf), (10, .int nx), (9, .int kx), (8, .int 1), (7, .int on), (5, .ref ri), (4, .ref rb), (3, .ref rr), (2, .ref ra), (1, .ref (z 0)), (0, .ref b)]) hx hb dL_law_850 hl (by decide) rfl (fun ls hl => ?_)
                      refine lv_aload_n hx hb dL_law_852 rfl (lv_at hl 20 rfl) ?_
                      refine lv_iload hx hb dL_law_853 (lv_at hl 7 rfl) ?_
                      refine kcallhI (kSthW (n := 2) (As := [.ref (z 0), .int od]) (rest := []) F hE hNc hK hP hD hS hA (kh_state l g e0 S1 _ (z 0) od _ _ hI.ob0 (c_X5_state_x l hl0 g e0 z S1 _ hI av lv q1 hR h73 od) (fun E h => h.1)) kw_260 kw_261 kw_61 kw_262 (by decide +kernel) ⟨Nat.le_of_ble_eq_true rfl, Nat.le_of_ble_eq_true rfl⟩ rfl hl.1 rfl (Nat.le_of_ble_eq_true rfl) dL_law_855 ⟨(by show k0 + 1 + 1 + 3 + 1 ≤ 1072639; omega), (by show n0 + 6 + 6 + 27 + 6 ≤ 5883708; omega)⟩) rfl hD hS hA (fun r82 T1 H locs hp hP hq1x hq2x hq3x hf1 hS => ?_)
                      clear hq1x hq2x hq3x
                      have hO := kO_keep hO hdis hf1
                      obtain ⟨hT, nr82⟩ := kp_Ac (i := o9) hp hod (by omega) (by omega) (by omega)
                      subst hT
                      clear hp
                      refine lv_bipush (v := 107) hx hb dL_law_858 (by decide) ?_
                      refine lv_icmp_ne (tgt := 881) hx hb dL_law_860 (by decide) (fun c83 => ?_) (fun c83 => ?_)
                      · have d83 : r82.toInt ≠ (107) := mt (kc_eq (rfl : r82.toInt = r82.toInt) (by decide : (107 : Int32).toInt = 107)).mpr c83
                        exfalso; omega
                      · have d83 : r82.toInt = (107) := (kc_eq (rfl : r82.toInt = r82.toInt) (by decide : (107 : Int32).toInt = 107)).mp c83
                        refine lv_aload_n hx hb dL_law_863 rfl (lv_at hl 20 rfl) ?_
                        refine lv_iload hx hb dL_law_864 (lv_at hl 3 rfl) ?_
                        refine kcallhI (kSthW (n := 2) (As := [.ref (z 0), .int x76]) (rest := []) F hE hNc hK hP hD hS hA (kh_stock l g e0 S1 _ (z 0) x76 _ _ hI.ob0 (c_X5_stock_x l hl0 g e0 z S1 _ hI av lv q1 hR h72 x76) (fun E h => h.1)) kw_188 kw_189 kw_61 kw_190 (by decide +kernel) ⟨Nat.le_of_ble_eq_true rfl, Nat.le_of_ble_eq_true rfl⟩ rfl hl.1 rfl (Nat.le_of_ble_eq_true rfl) dL_law_866 ⟨(by show k0 + 1 + 1 + 3 + 1 + 1 ≤ 1072639; omega), (by show n0 + 6 + 6 + 27 + 6 + 6 ≤ 5883708; omega)⟩) rfl hD hS hA (fun r84 T1 H locs hp hP hq1x hq2x hq3x hf1 hS => ?_)
                        clear hq1x hq2x hq3x
                        have hO := kO_keep hO hdis hf1
                        obtain ⟨hT, nr84⟩ := kp_A (i := q 21 o9) hp nx76 (by omega) (by omega) (by omega)
                        subst hT
                        clear hp
                        refine lv_iload hx hb dL_law_869 (lv_at hl 4 rfl) ?_
                        refine lv_iload hx hb dL_law_871 (lv_at hl 5 rfl) ?_
                        refine lv_isub hx hb dL_law_873 ?_
                        refine lv_topi (fun x85 ex85 => ?_)
                        have tx85 : x85.toInt = r74.toInt - r1.toInt := kt_sub ex85 (rfl : r74.toInt = r74.toInt) (rfl : r1.toInt = r1.toInt) (by omega) (by omega)
                        refine lv_icmp_ne (tgt := 881) hx hb dL_law_874 (by decide) (fun c86 => ?_) (fun c86 => ?_)
                        · have d86 : r84.toInt ≠ x85.toInt := mt (kc_eq (rfl : r84.toInt = r84.toInt) (rfl : x85.toInt = x85.toInt)).mpr c86
                          exfalso; omega
                        · have d86 : r84.toInt = x85.toInt := (kc_eq (rfl : r84.toInt = r84.toInt) (rfl : x85.toInt = x85.toInt)).mp c86
                          refine lv_iconst (v := 1) hx hb dL_law_877 (by decide) ?_
                          refine lv_goto (tgt := 882) hx hb dL_law_878 (by decide) ?_
                          refine lv_istore (lv' := [(8, .int 1), (6, .int x81), (18, .int 0), (17, .int (-1)), (22, .int x76), (21, .int r74), (20, .int r1), (19, .int r1), (16, .int od), (15, .int mm), (14, .int aa), (13, .int kd), (11, .long bf), (10, .int nx), (9, .int kx), (7, .int on), (5, .ref ri), (4, .ref rb), (3, .ref rr), (2, .ref ra), (1, .ref (z 0)), (0, .ref b)]) hx hb dL_law_882 hl (by decide) rfl (fun ls hl => ?_)
                          refine lv_goto (tgt := 1227) hx hb dL_law_884 (by decide) ?_
                          exact kk S1 O av lv q1 _ _ ls _ _ 0 on x81 ⟨⟨F, hK, hE, hNc, hX, hbl⟩, ⟨hP, hO⟩, ⟨hD, hDO⟩, hdis, hS, ⟨hI, hR, hW, hL⟩, hO9⟩ (by omega) (Or.inl rfl) (by omega) (by omega) (by omega) (by omega) (lv_sub hl [2, 12, 13, 14, 0, 15, 1, 16, 17, 18, 19, 20, 21] rfl)
                  · exact absurd (by decide) c79
                · exact absurd (by decide) c78
              · obtain ⟨fl, b4, er, hx9⟩ := hp
                obtain ⟨lv, hR1⟩ : ∃ l9 : Nat → Nat, Rq z av l9 S1 (q_split o9 f9 q) := hx9.elim fun x h => ⟨_, h⟩
                clear hx9
                obtain ⟨q1, hq1⟩ : ∃ q9 : qS, q9 = q_split o9 f9 q := ⟨_, rfl⟩
                rw [← hq1] at hR1
                have hW1 : q_W q1 := by rw [hq1]; exact q_split_W hW hi2 hst fl b4
                have hL1 : q_L q1 := q_L_of hL (fun k hk i => by rw [hq1]; exact q_split_o (q_mem (P := fun k => k ∉ [12, 14, 21, 22, 23, 24, 25, 42, 43, 44, 73]) hk (by decide)))
                have fk : ∀ k, k ∈ [10, 11, 1] → ∀ i, q1 k i = q k i := fun k hk i => by rw [hq1]; exact q_split_o (q_mem (P := fun k => k ∉ [12, 14, 21, 22, 23, 24, 25, 42, 43, 44, 73]) hk (by decide))
                obtain ⟨f73, f21n, f23n, f12, f12o⟩ := q_split_f (q := q) (n := o9) (f := f9)
                rw [← hq1] at f73 f21n f23n f12 f12o
                have f21 : ∀ n, n ≠ q 73 0 → q1 21 n = q 21 n := fun n hn => by rw [hq1, q_split_p (Or.inl rfl) hn]; exact q_k (by decide)
                have f23 : q1 23 o9 = f9 := by rw [hq1, q_split_p (Or.inr (Or.inl rfl)) (by omega)]; exact q_at
                have f13 : ∀ i, q1 13 i = q 13 i := fun i => by rw [hq1]; exact q_split_o (by decide)
                have hU0 := q_U_art (q := q) (q' := q1) (a := q 21 o9) (by omega) (fun k hk i hi => by rcases q_m2 hk with rfl | rfl; exact f12o i hi; exact f13 i) (fun r => by rw [hq1]; exact q_split_o (by decide))
                rw [f12, f13] at hU0
                have nr77 : r77.toInt = ((q 73 0 : Nat) : Int) := kt_nI er (by omega)
                have hI := hI1
                have hR := hR1
                have hW := hW1
                have hL := hL1
                clear hro hroom h57 h56
                have h721 : q1 72 0 = 3 := hL.1
                have h72 : q1 72 0 ≤ 12 := by omega
                have h73 : q1 73 0 ≤ 12 := hW.1.1.2.1
                have hro : q1 42 0 ≤ 504 := q_room hW.1.1 hW.1.2.2.2.1 hW.1.2.2.2.2.1
                have hroom : q1 42 0 < 516 := by omega
                have h57 : q1 57 0 ≤ 20 := hW.1.2.2.2.2.1.1
                have h56 : q1 56 0 ≤ 1439 := hL.2.2.2.2.2.1
                have h25 : ∀ i, i < q1 73 0 → q1 25 i < 2 ^ 31 := fun i hi => by have := (hW.1.2.2.1 i hi).2.2.2; omega
                have hU5 : q_U q1 ≤ 5000 := by omega
                have w3j := hW.2.1 (q 21 o9) (by omega)
                refine lv_istore (lv' := [(17, .int r77), (22, .int x76), (21, .int r74), (20, .int r1), (19, .int r1), (18, .int 0), (16, .int od), (15, .int mm), (14, .int aa), (13, .int kd), (11, .long bf), (10, .int nx), (9, .int kx), (8, .int 1), (7, .int on), (6, .int un), (5, .ref ri), (4, .ref rb), (3, .ref rr), (2, .ref ra), (1, .ref (z 0)), (0, .ref b)]) hx hb dL_law_735 hl (by decide) rfl (fun ls hl => ?_)
                refine lv_iload hx hb dL_law_737 (lv_at hl 0 rfl) ?_
                refine lv_iconst (v := (-1)) hx hb dL_law_739 (by decide) ?_
                refine lv_icmp_ge (tgt := 747) hx hb dL_law_740 (by decide) (fun c87 => ?_) (fun c87 => ?_)
                · have d87 : (-1) ≤ r77.toInt := (kc_le (by decide : (-1 : Int32).toInt = -1) (rfl : r77.toInt = r77.toInt)).mp c87
                  refine lv_iconst (v := 0) hx hb dL_law_747 (by decide) ?_
                  refine lv_istore (lv' := [(18, .int 0), (17, .int r77), (22, .int x76), (21, .int r74), (20, .int r1), (19, .int r1), (16, .int od), (15, .int mm), (14, .int aa), (13, .int kd), (11, .long bf), (10, .int nx), (9, .int kx), (8, .int 1), (7, .int on), (6, .int un), (5, .ref ri), (4, .ref rb), (3, .ref rr), (2, .ref ra), (1, .ref (z 0)), (0, .ref b)]) hx hb dL_law_748 hl (by decide) rfl (fun ls hl => ?_)
                  refine lv_iload hx hb dL_law_750 (lv_at hl 1 rfl) ?_
                  refine lv_if_lt (tgt := 839) hx hb dL_law_752 (by decide) (fun c88 => ?_) (fun c88 => ?_)
                  · have d88 : r77.toInt < (0) := (kc_lt (rfl : r77.toInt = r77.toInt) (by decide : (0 : Int32).toInt = 0)).mp c88
                    exfalso; omega
                  · have d88 : ¬ (r77.toInt < (0)) := mt (kc_lt (rfl : r77.toInt = r77.toInt) (by decide : (0 : Int32).toInt = 0)).mpr c88
                    refine lv_aload hx hb dL_law_755 (lv_at hl 16 rfl) ?_
                    refine lv_iload hx hb dL_law_757 (lv_at hl 1 rfl) ?_
                    refine lv_iload hx hb dL_law_759 (lv_at hl 2 rfl) ?_
                    refine rt2_I F hK hP hO hD hDO hdis hS oi (by rw [li]; exact kt_in nr77 (by omega) (by decide)) dL_law_761 (fun H locs hP hO hDO hS => ?_)
                    rw [kt_clamp nr77 (by omega)] at hO hDO
                    have hdis : kdis S1 (setX O ri (upd (pX O ri) (q 73 0) x76)) := hdis
                    have hO9 := q_O_item hO9 fk rfl f73 f21 f21n (kt_of nx76 (by omega))
                    obtain ⟨⟨oa, la⟩, ⟨orr, lr⟩, ⟨obb, lb⟩, ⟨oi, li⟩, hne, hra, hrb, hri⟩ := id hO9
                    refine lv_iload hx hb dL_law_762 (lv_at hl 15 rfl) ?_
                    refine lv_iload hx hb dL_law_764 (lv_at hl 3 rfl) ?_
                    refine lv_isub hx hb dL_law_766 ?_
                    refine lv_topi (fun x89 ex89 => ?_)
                    have tx89 : x89.toInt = un.toInt - r74.toInt := kt_sub ex89 (rfl : un.toInt = un.toInt) (rfl : r74.toInt = r74.toInt) (by omega) (by omega)
                    refine lv_istore (lv' := [(6, .int x89), (18, .int 0), (17, .int r77), (22, .int x76), (21, .int r74), (20, .int r1), (19, .int r1), (16, .int od), (15, .int mm), (14, .int aa), (13, .int kd), (11, .long bf), (10, .int nx), (9, .int kx), (8, .int 1), (7, .int on), (5, .ref ri), (4, .ref rb), (3, .ref rr), (2, .ref ra), (1, .ref (z 0)), (0, .ref b)]) hx hb dL_law_767 hl (by decide) rfl (fun ls hl => ?_)
                    refine lv_iload hx hb dL_law_769 (lv_at hl 2 rfl) ?_
                    refine lv_iload hx hb dL_law_771 (lv_at hl 15 rfl) ?_
                    refine lv_icmp_ne (tgt := 830) hx hb dL_law_773 (by decide) (fun c90 => ?_) (fun c90 => ?_)
                    · have d90 : r77.toInt ≠ on.toInt := mt (kc_eq (rfl : r77.toInt = r77.toInt) (rfl : on.toInt = on.toInt)).mpr c90
                      exfalso; omega
                    · have d90 : r77.toInt = on.toInt := (kc_eq (rfl : r77.toInt = r77.toInt) (rfl : on.toInt = on.toInt)).mp c90
                      refine lv_iload hx hb dL_law_776 (lv_at hl 5 rfl) ?_
                      refine lv_iload hx hb dL_law_778 (lv_at hl 6 rfl) ?_
                      refine lv_icmp_ge (tgt := 830) hx hb dL_law_780 (by decide) (fun c91 => ?_) (fun c91 => ?_)
                      · have d91 : r1.toInt ≤ r1.toInt := (kc_le (rfl : r1.toInt = r1.toInt) (rfl : r1.toInt = r1.toInt)).mp c91
                        exfalso; omega
                      · have d91 : ¬ (r1.toInt ≤ r1.toInt) := mt (kc_le (rfl : r1.toInt = r1.toInt) (rfl : r1.toInt = r1.toInt)).mpr c91
                        refine lv_aload_n hx hb dL_law_783 rfl (lv_at hl 20 rfl) ?_
                        refine lv_iload hx hb dL_law_784 (lv_at hl 2 rfl) ?_
                        refine kcallhI (kSthW (n := 2) (As := [.ref (z 0), .int r77]) (rest := []) F hE hNc hK hP hD hS hA (kh_amount l g e0 S1 _ (z 0) r77 _ _ hI.ob0 (c_X5_amount_x l hl0 g e0 z S1 _ hI av lv q1 hR h73 r77) (fun E h => h.1)) kw_273 kw_274 kw_61 kw_275 (by decide +kernel) ⟨Nat.le_of_ble_eq_true rfl, Nat.le_of_ble_eq_true rfl⟩ rfl hl.1 rfl (Nat.le_of_ble_eq_true rfl) dL_law_786 ⟨(by show k0 + 1 + 1 + 3 + 1 ≤ 1072639; omega), (by show n0 + 6 + 6 + 27 + 6 ≤ 5883708; omega)⟩) rfl hD hS hA (fun r92 T1 H locs hp hP hq1x hq2x hq3x hf1 hS => ?_)
                        clear hq1x hq2x hq3x
                        have hO := kO_keep hO hdis hf1
                        obtain ⟨hT, nr92⟩ := kp_A (i := q 73 0) hp nr77 (by omega) (by omega) (by omega)
                        subst hT
                        clear hp
                        refine lv_iload hx hb dL_law_789 (lv_at hl 6 rfl) ?_
                        refine lv_iload hx hb dL_law_791 (lv_at hl 5 rfl) ?_
                        refine lv_isub hx hb dL_law_793 ?_
                        refine lv_topi (fun x93 ex93 => ?_)
                        have tx93 : x93.toInt = r1.toInt - r1.toInt := kt_sub ex93 (rfl : r1.toInt = r1.toInt) (rfl : r1.toInt = r1.toInt) (by omega) (by omega)
                        refine lv_icmp_ne (tgt := 830) hx hb dL_law_794 (by decide) (fun c94 => ?_) (fun c94 => ?_)
                        · have d94 : r92.toInt ≠ x93.toInt := mt (kc_eq (rfl : r92.toInt = r92.toInt) (rfl : x93.toInt = x93.toInt)).mpr c94
                          exfalso; omega
                        · have d94 : r92.toInt = x93.toInt := (kc_eq (rfl : r92.toInt = r92.toInt) (rfl : x93.toInt = x93.toInt)).mp c94
                          refine lv_aload_n hx hb dL_law_797 rfl (lv_at hl 20 rfl) ?_
                          refine lv_iload hx hb dL_law_798 (lv_at hl 7 rfl) ?_
                          refine kcallhI (kSthW (n := 2) (As := [.ref (z 0), .int od]) (rest := []) F hE hNc hK hP hD hS hA (kh_amount l g e0 S1 _ (z 0) od _ _ hI.ob0 (c_X5_amount_x l hl0 g e0 z S1 _ hI av lv q1 hR h73 od) (fun E h => h.1)) kw_273 kw_274 kw_61 kw_275 (by decide +kernel) ⟨Nat.le_of_ble_eq_true rfl, Nat.le_of_ble_eq_true rfl⟩ rfl hl.1 rfl (Nat.le_of_ble_eq_true rfl) dL_law_800 ⟨(by show k0 + 1 + 1 + 3 + 1 + 1 ≤ 1072639; omega), (by show n0 + 6 + 6 + 27 + 6 + 6 ≤ 5883708; omega)⟩) rfl hD hS hA (fun r95 T1 H locs hp hP hq1x hq2x hq3x hf1 hS => ?_)
                          clear hq1x hq2x hq3x
                          have hO := kO_keep hO hdis hf1
                          obtain ⟨hT, nr95⟩ := kp_A (i := o9) hp hod (by omega) (by omega) (by omega)
                          subst hT
                          clear hp
                          refine lv_iload hx hb dL_law_803 (lv_at hl 5 rfl) ?_
                          refine lv_icmp_ne (tgt := 830) hx hb dL_law_805 (by decide) (fun c96 => ?_) (fun c96 => ?_)
                          · have d96 : r95.toInt ≠ r1.toInt := mt (kc_eq (rfl : r95.toInt = r95.toInt) (rfl : r1.toInt = r1.toInt)).mpr c96
                            exfalso; omega
                          · have d96 : r95.toInt = r1.toInt := (kc_eq (rfl : r95.toInt = r95.toInt) (rfl : r1.toInt = r1.toInt)).mp c96
                            refine lv_aload_n hx hb dL_law_808 rfl (lv_at hl 20 rfl) ?_
                            refine lv_iload hx hb dL_law_809 (lv_at hl 3 rfl) ?_
                            refine kcallhI (kSthW (n := 2) (As := [.ref (z 0), .int x76]) (rest := []) F hE hNc hK hP hD hS hA (kh_stock l g e0 S1 _ (z 0) x76 _ _ hI.ob0 (c_X5_stock_x l hl0 g e0 z S1 _ hI av lv q1 hR h72 x76) (fun E h => h.1)) kw_188 kw_189 kw_61 kw_190 (by decide +kernel) ⟨Nat.le_of_ble_eq_true rfl, Nat.le_of_ble_eq_true rfl⟩ rfl hl.1 rfl (Nat.le_of_ble_eq_true rfl) dL_law_811 ⟨(by show k0 + 1 + 1 + 3 + 1 + 1 + 1 ≤ 1072639; omega), (by show n0 + 6 + 6 + 27 + 6 + 6 + 6 ≤ 5883708; omega)⟩) rfl hD hS hA (fun r97 T1 H locs hp hP hq1x hq2x hq3x hf1 hS => ?_)
                            clear hq1x hq2x hq3x
                            have hO := kO_keep hO hdis hf1
                            obtain ⟨hT, nr97⟩ := kp_A (i := q 21 o9) hp nx76 (by omega) (by omega) (by omega)
                            subst hT
                            clear hp
                            refine lv_if_ne (tgt := 830) hx hb dL_law_814 (by decide) (fun c98 => ?_) (fun c98 => ?_)
                            · have d98 : r97.toInt ≠ (0) := mt (kc_eq (rfl : r97.toInt = r97.toInt) (by decide : (0 : Int32).toInt = 0)).mpr c98
                              exfalso; omega
                            · have d98 : r97.toInt = (0) := (kc_eq (rfl : r97.toInt = r97.toInt) (by decide : (0 : Int32).toInt = 0)).mp c98
                              refine lv_aload_n hx hb dL_law_817 rfl (lv_at hl 20 rfl) ?_
                              refine lv_iload hx hb dL_law_818 (lv_at hl 3 rfl) ?_
                              refine kcallhI (kSthW (n := 2) (As := [.ref (z 0), .int x76]) (rest := []) F hE hNc hK hP hD hS hA (kh_promised l g e0 S1 _ (z 0) x76 _ _ hI.ob0 (c_X5_promised_x l hl0 g e0 z S1 _ hI av lv q1 hR h72 x76) (fun E h => h.1)) kw_228 kw_229 kw_61 kw_230 (by decide +kernel) ⟨Nat.le_of_ble_eq_true rfl, Nat.le_of_ble_eq_true rfl⟩ rfl hl.1 rfl (Nat.le_of_ble_eq_true rfl) dL_law_820 ⟨(by show k0 + 1 + 1 + 3 + 1 + 1 + 1 + 1 ≤ 1072639; omega), (by show n0 + 6 + 6 + 27 + 6 + 6 + 6 + 6 ≤ 5883708; omega)⟩) rfl hD hS hA (fun r99 T1 H locs hp hP hq1x hq2x hq3x hf1 hS => ?_)
                              clear hq1x hq2x hq3x
                              have hO := kO_keep hO hdis hf1
                              obtain ⟨hT, nr99⟩ := kp_A (i := q 21 o9) hp nx76 (by omega) (by omega) (by omega)
                              subst hT
                              clear hp
                              refine lv_if_ne (tgt := 830) hx hb dL_law_823 (by decide) (fun c100 => ?_) (fun c100 => ?_)
                              · have d100 : r99.toInt ≠ (0) := mt (kc_eq (rfl : r99.toInt = r99.toInt) (by decide : (0 : Int32).toInt = 0)).mpr c100
                                exfalso; omega
                              · have d100 : r99.toInt = (0) := (kc_eq (rfl : r99.toInt = r99.toInt) (by decide : (0 : Int32).toInt = 0)).mp c100
                                refine lv_iconst (v := 1) hx hb dL_law_826 (by decide) ?_
                                refine lv_goto (tgt := 831) hx hb dL_law_827 (by decide) ?_
                                refine lv_istore (lv' := [(8, .int 1), (6, .int x89), (18, .int 0), (17, .int r77), (22, .int x76), (21, .int r74), (20, .int r1), (19, .int r1), (16, .int od), (15, .int mm), (14, .int aa), (13, .int kd), (11, .long bf), (10, .int nx), (9, .int kx), (7, .int on), (5, .ref ri), (4, .ref rb), (3, .ref rr), (2, .ref ra), (1, .ref (z 0)), (0, .ref b)]) hx hb dL_law_831 hl (by decide) rfl (fun ls hl => ?_)
                                obtain ⟨x101, ex101⟩ : ∃ y : Int32, y = on + 1 := ⟨_, rfl⟩
                                refine lv_iinc (v := x101) (lv' := [(7, .int x101), (8, .int 1), (6, .int x89), (18, .int 0), (17, .int r77), (22, .int x76), (21, .int r74), (20, .int r1), (19, .int r1), (16, .int od), (15, .int mm), (14, .int aa), (13, .int kd), (11, .long bf), (10, .int nx), (9, .int kx), (5, .ref ri), (4, .ref rb), (3, .ref rr), (2, .ref ra), (1, .ref (z 0)), (0, .ref b)]) hx hb dL_law_833 hl (k := 15) rfl (by rw [ex101]; rfl) (by decide) rfl (fun ls hl => ?_)
                                have tx101 : x101.toInt = on.toInt + 1 := kt_add ex101 (rfl : on.toInt = on.toInt) (by decide) (by omega) (by omega)
                                refine lv_goto (tgt := 884) hx hb dL_law_836 (by decide) ?_
                                refine lv_goto (tgt := 1227) hx hb dL_law_884 (by decide) ?_
                                exact kk S1 (setX O ri (upd (pX O ri) (q 73 0) x76)) av lv q1 _ _ ls _ _ 0 x101 x89 ⟨⟨F, hK, hE, hNc, hX, hbl⟩, ⟨hP, hO⟩, ⟨hD, hDO⟩, hdis, hS, ⟨hI, hR, hW, hL⟩, hO9⟩ (by omega) (Or.inl rfl) (by omega) (by omega) (by omega) (by omega) (lv_sub hl [3, 13, 14, 15, 1, 0, 2, 16, 17, 18, 19, 20, 21] rfl)
                · have d87 : ¬ ((-1) ≤ r77.toInt) := mt (kc_le (by decide : (-1 : Int32).toInt = -1) (rfl : r77.toInt = r77.toInt)).mpr c87
                  exfalso; omega
            · have hO := hO9x
              obtain ⟨hT, hrx⟩ : S = S1 ∧ r77.toInt ≤ -75 := by rcases hp with ⟨e, -, h⟩ | ⟨e, -, h⟩ | ⟨e, -, h⟩ | ⟨e, -, h⟩ <;> exact ⟨h.symm, by rw [e]; decide⟩
              subst hT
              clear hp
              refine lv_istore (lv' := [(17, .int r77), (22, .int x76), (21, .int r74), (20, .int r1), (19, .int r1), (18, .int 0), (16, .int od), (15, .int mm), (14, .int aa), (13, .int kd), (11, .long bf), (10, .int nx), (9, .int kx), (8, .int 1), (7, .int on), (6, .int un), (5, .ref ri), (4, .ref rb), (3, .ref rr), (2, .ref ra), (1, .ref (z 0)), (0, .ref b)]) hx hb dL_law_735 hl (by decide) rfl (fun ls hl => ?_)
              refine lv_iload hx hb dL_law_737 (lv_at hl 0 rfl) ?_
              refine lv_iconst (v := (-1)) hx hb dL_law_739 (by decide) ?_
              refine lv_icmp_ge (tgt := 747) hx hb dL_law_740 (by decide) (fun c102 => ?_) (fun c102 => ?_)
              · have d102 : (-1) ≤ r77.toInt := (kc_le (by decide : (-1 : Int32).toInt = -1) (rfl : r77.toInt = r77.toInt)).mp c102
                exfalso; omega
              · have d102 : ¬ ((-1) ≤ r77.toInt) := mt (kc_le (by decide : (-1 : Int32).toInt = -1) (rfl : r77.toInt = r77.toInt)).mpr c102
                refine lv_iconst (v := 1) hx hb dL_law_743 (by decide) ?_
                refine lv_goto (tgt := 748) hx hb dL_law_744 (by decide) ?_
                refine lv_istore (lv' := [(18, .int 1), (17, .int r77), (22, .int x76), (21, .int r74), (20, .int r1), (19, .int r1), (16, .int od), (15, .int mm), (14, .int aa), (13, .int kd), (11, .long bf), (10, .int nx), (9, .int kx), (8, .int 1), (7, .int on), (6, .int un), (5, .ref ri), (4, .ref rb), (3, .ref rr), (2, .ref ra), (1, .ref (z 0)), (0, .ref b)]) hx hb dL_law_748 hl (by decide) rfl (fun ls hl => ?_)
                refine lv_iload hx hb dL_law_750 (lv_at hl 1 rfl) ?_
                refine lv_if_lt (tgt := 839) hx hb dL_law_752 (by decide) (fun c103 => ?_) (fun c103 => ?_)
                · have d103 : r77.toInt < (0) := (kc_lt (rfl : r77.toInt = r77.toInt) (by decide : (0 : Int32).toInt = 0)).mp c103
                  refine lv_iload hx hb dL_law_839 (lv_at hl 1 rfl) ?_
                  refine lv_iconst (v := (-1)) hx hb dL_law_841 (by decide) ?_
                  refine lv_icmp_ne (tgt := 884) hx hb dL_law_842 (by decide) (fun c104 => ?_) (fun c104 => ?_)
                  · have d104 : r77.toInt ≠ (-1) := mt (kc_eq (rfl : r77.toInt = r77.toInt) (by decide : (-1 : Int32).toInt = -1)).mpr c104
                    refine lv_goto (tgt := 1227) hx hb dL_law_884 (by decide) ?_
                    exact kk S O av lv q _ _ ls _ _ 1 on un ⟨⟨F, hK, hE, hNc, hX, hbl⟩, ⟨hP, hO⟩, ⟨hD, hDO⟩, hdis, hS, ⟨hI, hR, hW, hL⟩, hO9⟩ (by omega) (Or.inr ⟨rfl, rfl⟩) (by omega) (by omega) (by omega) (by omega) (lv_sub hl [0, 10, 11, 12, 13, 14, 15, 16, 17, 18, 19, 20, 21] rfl)
                  · have d104 : r77.toInt = (-1) := (kc_eq (rfl : r77.toInt = r77.toInt) (by decide : (-1 : Int32).toInt = -1)).mp c104
                    exfalso; omega
                · have d103 : ¬ (r77.toInt < (0)) := mt (kc_lt (rfl : r77.toInt = r77.toInt) (by decide : (0 : Int32).toInt = 0)).mpr c103
                  exfalso; omega
  · refine lv_aload_n hx hb dL_law_654 rfl (lv_at hl 16 rfl) ?_
    refine lv_iload hx hb dL_law_655 (lv_at hl 2 rfl) ?_
    refine kcallhI (kSthW (n := 2) (As := [.ref (z 0), .int od]) (rest := []) F hE hNc hK hP hD hS hA (kh_amount l g e0 S _ (z 0) od _ _ hI.ob0 (c_X5_amount_x l hl0 g e0 z S _ hI av lv q hR h73 od) (fun E h => h.1)) kw_273 kw_274 kw_61 kw_275 (by decide +kernel) ⟨Nat.le_of_ble_eq_true rfl, Nat.le_of_ble_eq_true rfl⟩ rfl hl.1 rfl (Nat.le_of_ble_eq_true rfl) dL_law_657 ⟨(by show k0 + 1 ≤ 1072639; omega), (by show n0 + 6 ≤ 5883708; omega)⟩) rfl hD hS hA (fun r105 T1 H locs hp hP hq1x hq2x hq3x hf1 hS => ?_)
    clear hq1x hq2x hq3x
    have hO := kO_keep hO hdis hf1
    obtain ⟨hT, nr105⟩ := kp_Ao (i := o9) hp hod (by omega) (by omega)
    subst hT
    clear hp
    refine lv_istore (lv' := [(19, .int r105), (18, .int 0), (17, .int 0), (16, .int od), (15, .int mm), (14, .int aa), (13, .int kd), (11, .long bf), (10, .int nx), (9, .int kx), (8, .int 1), (7, .int on), (6, .int un), (5, .ref ri), (4, .ref rb), (3, .ref rr), (2, .ref ra), (1, .ref (z 0)), (0, .ref b)]) hx hb dL_law_660 hl (by decide) rfl (fun ls hl => ?_)
    refine lv_iload hx hb dL_law_662 (lv_at hl 4 rfl) ?_
    refine lv_iconst (v := 3) hx hb dL_law_664 (by decide) ?_
    refine lv_irem hx hb dL_law_665 (by decide) ?_
    refine lv_topi (fun x106 ex106 => ?_)
    have nx106 : x106.toInt = ((m9 % 3 : Nat) : Int) := kt_rem ex106 hmm (by decide : (3 : Int32).toInt = ((3 : Nat) : Int)) (by omega) (by omega) (by omega)
    refine lv_if_gt (tgt := 675) hx hb dL_law_666 (by decide) (fun c107 => ?_) (fun c107 => ?_)
    · have d107 : (0) < x106.toInt := (kc_lt (by decide : (0 : Int32).toInt = 0) (rfl : x106.toInt = x106.toInt)).mp c107
      refine lv_iload hx hb dL_law_675 (lv_at hl 0 rfl) ?_
      refine lv_goto (tgt := 685) hx hb dL_law_677 (by decide) ?_
      refine lv_istore (lv' := [(20, .int r105), (19, .int r105), (18, .int 0), (17, .int 0), (16, .int od), (15, .int mm), (14, .int aa), (13, .int kd), (11, .long bf), (10, .int nx), (9, .int kx), (8, .int 1), (7, .int on), (6, .int un), (5, .ref ri), (4, .ref rb), (3, .ref rr), (2, .ref ra), (1, .ref (z 0)), (0, .ref b)]) hx hb dL_law_685 hl (by decide) rfl (fun ls hl => ?_)
      refine lv_iload hx hb dL_law_687 (lv_at hl 4 rfl) ?_
      refine lv_iload hx hb dL_law_689 (lv_at hl 12 rfl) ?_
      refine lv_icmp_ge (tgt := 706) hx hb dL_law_691 (by decide) (fun c108 => ?_) (fun c108 => ?_)
      · have d108 : on.toInt ≤ od.toInt := (kc_le (rfl : on.toInt = on.toInt) (rfl : od.toInt = od.toInt)).mp c108
        refine lv_iconst (v := 0) hx hb dL_law_706 (by decide) ?_
        refine lv_istore (lv' := [(21, .int 0), (20, .int r105), (19, .int r105), (18, .int 0), (17, .int 0), (16, .int od), (15, .int mm), (14, .int aa), (13, .int kd), (11, .long bf), (10, .int nx), (9, .int kx), (8, .int 1), (7, .int on), (6, .int un), (5, .ref ri), (4, .ref rb), (3, .ref rr), (2, .ref ra), (1, .ref (z 0)), (0, .ref b)]) hx hb dL_law_707 hl (by decide) rfl (fun ls hl => ?_)
        refine lv_iload hx hb dL_law_709 (lv_at hl 5 rfl) ?_
        refine lv_iload hx hb dL_law_711 (lv_at hl 13 rfl) ?_
        refine lv_icmp_ge (tgt := 724) hx hb dL_law_713 (by decide) (fun c109 => ?_) (fun c109 => ?_)
        · have d109 : on.toInt ≤ od.toInt := (kc_le (rfl : on.toInt = on.toInt) (rfl : od.toInt = od.toInt)).mp c109
          refine lv_iconst (v := 0) hx hb dL_law_724 (by decide) ?_
          refine lv_istore (lv' := [(22, .int 0), (21, .int 0), (20, .int r105), (19, .int r105), (18, .int 0), (17, .int 0), (16, .int od), (15, .int mm), (14, .int aa), (13, .int kd), (11, .long bf), (10, .int nx), (9, .int kx), (8, .int 1), (7, .int on), (6, .int un), (5, .ref ri), (4, .ref rb), (3, .ref rr), (2, .ref ra), (1, .ref (z 0)), (0, .ref b)]) hx hb dL_law_725 hl (by decide) rfl (fun ls hl => ?_)
          refine lv_aload_n hx hb dL_law_727 rfl (lv_at hl 20 rfl) ?_
          refine lv_iload hx hb dL_law_728 (lv_at hl 6 rfl) ?_
          refine lv_iload hx hb dL_law_730 (lv_at hl 2 rfl) ?_
          refine kcallhI (kSthW (n := 3) (As := [.ref (z 0), .int od, .int r105]) (rest := []) F hE hNc hK hP hD hS hA (kh_pick l g e0 S _ (z 0) od r105 _ _ hI.ob0 (c_X5_pick_x l hl0 g e0 z S _ hI av lv q hR hW od r105) (fun E h => h)) kw_396 kw_397 kw_61 kw_398 (by decide +kernel) ⟨Nat.le_of_ble_eq_true rfl, Nat.le_of_ble_eq_true rfl⟩ rfl hl.1 rfl (Nat.le_of_ble_eq_true rfl) dL_law_732 ⟨(by show k0 + 1 + 3 ≤ 1072639; omega), (by show n0 + 6 + 27 ≤ 5883708; omega)⟩) rfl hD hS hA (fun r110 S1 H locs hp hP hDs hD1 hq3x hf1 hS => ?_)
          clear hq3x
          have hO9x := kO_keep hO hdis hf1
          have hdis9 := kdis_keep hO hdis hDs
          rcases hp with hp | hp
          · have hO := hO9x
            have hdis := hdis9
            have hD := hD1
            obtain ⟨hI1, i2, f9, hi2, ei2, ef, hf9, hst, hp⟩ := hp
            obtain rfl : o9 = i2 := nI_inj (by omega) (by omega) ((kt_of hod (by omega)).symm.trans ei2)
            exfalso; omega
          · have hO := hO9x
            obtain ⟨hT, hrx⟩ : S = S1 ∧ r110.toInt ≤ -75 := by rcases hp with ⟨e, -, h⟩ | ⟨e, -, h⟩ | ⟨e, -, h⟩ | ⟨e, -, h⟩ <;> exact ⟨h.symm, by rw [e]; decide⟩
            subst hT
            clear hp
            refine lv_istore (lv' := [(17, .int r110), (22, .int 0), (21, .int 0), (20, .int r105), (19, .int r105), (18, .int 0), (16, .int od), (15, .int mm), (14, .int aa), (13, .int kd), (11, .long bf), (10, .int nx), (9, .int kx), (8, .int 1), (7, .int on), (6, .int un), (5, .ref ri), (4, .ref rb), (3, .ref rr), (2, .ref ra), (1, .ref (z 0)), (0, .ref b)]) hx hb dL_law_735 hl (by decide) rfl (fun ls hl => ?_)
            refine lv_iload hx hb dL_law_737 (lv_at hl 0 rfl) ?_
            refine lv_iconst (v := (-1)) hx hb dL_law_739 (by decide) ?_
            refine lv_icmp_ge (tgt := 747) hx hb dL_law_740 (by decide) (fun c111 => ?_) (fun c111 => ?_)
            · have d111 : (-1) ≤ r110.toInt := (kc_le (by decide : (-1 : Int32).toInt = -1) (rfl : r110.toInt = r110.toInt)).mp c111
              exfalso; omega
            · have d111 : ¬ ((-1) ≤ r110.toInt) := mt (kc_le (by decide : (-1 : Int32).toInt = -1) (rfl : r110.toInt = r110.toInt)).mpr c111
              refine lv_iconst (v := 1) hx hb dL_law_743 (by decide) ?_
              refine lv_goto (tgt := 748) hx hb dL_law_744 (by decide) ?_
              refine lv_istore (lv' := [(18, .int 1), (17, .int r110), (22, .int 0), (21, .int 0), (20, .int r105), (19, .int r105), (16, .int od), (15, .int mm), (14, .int aa), (13, .int kd), (11, .long bf), (10, .int nx), (9, .int kx), (8, .int 1), (7, .int on), (6, .int un), (5, .ref ri), (4, .ref rb), (3, .ref rr), (2, .ref ra), (1, .ref (z 0)), (0, .ref b)]) hx hb dL_law_748 hl (by decide) rfl (fun ls hl => ?_)
              refine lv_iload hx hb dL_law_750 (lv_at hl 1 rfl) ?_
              refine lv_if_lt (tgt := 839) hx hb dL_law_752 (by decide) (fun c112 => ?_) (fun c112 => ?_)
              · have d112 : r110.toInt < (0) := (kc_lt (rfl : r110.toInt = r110.toInt) (by decide : (0 : Int32).toInt = 0)).mp c112
                refine lv_iload hx hb dL_law_839 (lv_at hl 1 rfl) ?_
                refine lv_iconst (v := (-1)) hx hb dL_law_841 (by decide) ?_
                refine lv_icmp_ne (tgt := 884) hx hb dL_law_842 (by decide) (fun c113 => ?_) (fun c113 => ?_)
                · have d113 : r110.toInt ≠ (-1) := mt (kc_eq (rfl : r110.toInt = r110.toInt) (by decide : (-1 : Int32).toInt = -1)).mpr c113
                  refine lv_goto (tgt := 1227) hx hb dL_law_884 (by decide) ?_
                  exact kk S O av lv q _ _ ls _ _ 1 on un ⟨⟨F, hK, hE, hNc, hX, hbl⟩, ⟨hP, hO⟩, ⟨hD, hDO⟩, hdis, hS, ⟨hI, hR, hW, hL⟩, hO9⟩ (by omega) (Or.inr ⟨rfl, rfl⟩) (by omega) (by omega) (by omega) (by omega) (lv_sub hl [0, 10, 11, 12, 13, 14, 15, 16, 17, 18, 19, 20, 21] rfl)
                · have d113 : r110.toInt = (-1) := (kc_eq (rfl : r110.toInt = r110.toInt) (by decide : (-1 : Int32).toInt = -1)).mp c113
                  exfalso; omega
              · have d112 : ¬ (r110.toInt < (0)) := mt (kc_lt (rfl : r110.toInt = r110.toInt) (by decide : (0 : Int32).toInt = 0)).mpr c112
                exfalso; omega
        · have d109 : ¬ (on.toInt ≤ od.toInt) := mt (kc_le (rfl : on.toInt = on.toInt) (rfl : od.toInt = od.toInt)).mpr c109
          exfalso; omega
      · have d108 : ¬ (on.toInt ≤ od.toInt) := mt (kc_le (rfl : on.toInt = on.toInt) (rfl : od.toInt = od.toInt)).mpr c108
        exfalso; omega
    · have d107 : ¬ ((0) < x106.toInt) := mt (kc_lt (by decide : (0 : Int32).toInt = 0) (rfl : x106.toInt = x106.toInt)).mpr c107
      refine lv_iload hx hb dL_law_669 (lv_at hl 0 rfl) ?_
      refine lv_iconst (v := 1) hx hb dL_law_671 (by decide) ?_
      refine lv_icmp_ge (tgt := 680) hx hb dL_law_672 (by decide) (fun c114 => ?_) (fun c114 => ?_)
      · have d114 : (1) ≤ r105.toInt := (kc_le (by decide : (1 : Int32).toInt = 1) (rfl : r105.toInt = r105.toInt)).mp c114
        exfalso; omega
      · have d114 : ¬ ((1) ≤ r105.toInt) := mt (kc_le (by decide : (1 : Int32).toInt = 1) (rfl : r105.toInt = r105.toInt)).mpr c114
        refine lv_iload hx hb dL_law_675 (lv_at hl 0 rfl) ?_
        refine lv_goto (tgt := 685) hx hb dL_law_677 (by decide) ?_
        refine lv_istore (lv' := [(20, .int r105), (19, .int r105), (18, .int 0), (17, .int 0), (16, .int od), (15, .int mm), (14, .int aa), (13, .int kd), (11, .long bf), (10, .int nx), (9, .int kx), (8, .int 1), (7, .int on), (6, .int un), (5, .ref ri), (4, .ref rb), (3, .ref rr), (2, .ref ra), (1, .ref (z 0)), (0, .ref b)]) hx hb dL_law_685 hl (by decide) rfl (fun ls hl => ?_)
        refine lv_iload hx hb dL_law_687 (lv_at hl 4 rfl) ?_
        refine lv_iload hx hb dL_law_689 (lv_at hl 12 rfl) ?_
        refine lv_icmp_ge (tgt := 706) hx hb dL_law_691 (by decide) (fun c115 => ?_) (fun c115 => ?_)
        · have d115 : on.toInt ≤ od.toInt := (kc_le (rfl : on.toInt = on.toInt) (rfl : od.toInt = od.toInt)).mp c115
          refine lv_iconst (v := 0) hx hb dL_law_706 (by decide) ?_
          refine lv_istore (lv' := [(21, .int 0), (20, .int r105), (19, .int r105), (18, .int 0), (17, .int 0), (16, .int od), (15, .int mm), (14, .int aa), (13, .int kd), (11, .long bf), (10, .int nx), (9, .int kx), (8, .int 1), (7, .int on), (6, .int un), (5, .ref ri), (4, .ref rb), (3, .ref rr), (2, .ref ra), (1, .ref (z 0)), (0, .ref b)]) hx hb dL_law_707 hl (by decide) rfl (fun ls hl => ?_)
          refine lv_iload hx hb dL_law_709 (lv_at hl 5 rfl) ?_
          refine lv_iload hx hb dL_law_711 (lv_at hl 13 rfl) ?_
          refine lv_icmp_ge (tgt := 724) hx hb dL_law_713 (by decide) (fun c116 => ?_) (fun c116 => ?_)
          · have d116 : on.toInt ≤ od.toInt := (kc_le (rfl : on.toInt = on.toInt) (rfl : od.toInt = od.toInt)).mp c116
            refine lv_iconst (v := 0) hx hb dL_law_724 (by decide) ?_
            refine lv_istore (lv' := [(22, .int 0), (21, .int 0), (20, .int r105), (19, .int r105), (18, .int 0), (17, .int 0), (16, .int od), (15, .int mm), (14, .int aa), (13, .int kd), (11, .long bf), (10, .int nx), (9, .int kx), (8, .int 1), (7, .int on), (6, .int un), (5, .ref ri), (4, .ref rb), (3, .ref rr), (2, .ref ra), (1, .ref (z 0)), (0, .ref b)]) hx hb dL_law_725 hl (by decide) rfl (fun ls hl => ?_)
            refine lv_aload_n hx hb dL_law_727 rfl (lv_at hl 20 rfl) ?_
            refine lv_iload hx hb dL_law_728 (lv_at hl 6 rfl) ?_
            refine lv_iload hx hb dL_law_730 (lv_at hl 2 rfl) ?_
            refine kcallhI (kSthW (n := 3) (As := [.ref (z 0), .int od, .int r105]) (rest := []) F hE hNc hK hP hD hS hA (kh_pick l g e0 S _ (z 0) od r105 _ _ hI.ob0 (c_X5_pick_x l hl0 g e0 z S _ hI av lv q hR hW od r105) (fun E h => h)) kw_396 kw_397 kw_61 kw_398 (by decide +kernel) ⟨Nat.le_of_ble_eq_true rfl, Nat.le_of_ble_eq_true rfl⟩ rfl hl.1 rfl (Nat.le_of_ble_eq_true rfl) dL_law_732 ⟨(by show k0 + 1 + 3 ≤ 1072639; omega), (by show n0 + 6 + 27 ≤ 5883708; omega)⟩) rfl hD hS hA (fun r117 S1 H locs hp hP hDs hD1 hq3x hf1 hS => ?_)
            clear hq3x
            have hO9x := kO_keep hO hdis hf1
            have hdis9 := kdis_keep hO hdis hDs
            rcases hp with hp | hp
            · have hO := hO9x
              have hdis := hdis9
              have hD := hD1
              obtain ⟨hI1, i2, f9, hi2, ei2, ef, hf9, hst, hp⟩ := hp
              obtain rfl : o9 = i2 := nI_inj (by omega) (by omega) ((kt_of hod (by omega)).symm.trans ei2)
              exfalso; omega
            · have hO := hO9x
              obtain ⟨hT, hrx⟩ : S = S1 ∧ r117.toInt ≤ -75 := by rcases hp with ⟨e, -, h⟩ | ⟨e, -, h⟩ | ⟨e, -, h⟩ | ⟨e, -, h⟩ <;> exact ⟨h.symm, by rw [e]; decide⟩
              subst hT
              clear hp
              refine lv_istore (lv' := [(17, .int r117), (22, .int 0), (21, .int 0), (20, .int r105), (19, .int r105), (18, .int 0), (16, .int od), (15, .int mm), (14, .int aa), (13, .int kd), (11, .long bf), (10, .int nx), (9, .int kx), (8, .int 1), (7, .int on), (6, .int un), (5, .ref ri), (4, .ref rb), (3, .ref rr), (2, .ref ra), (1, .ref (z 0)), (0, .ref b)]) hx hb dL_law_735 hl (by decide) rfl (fun ls hl => ?_)
              refine lv_iload hx hb dL_law_737 (lv_at hl 0 rfl) ?_
              refine lv_iconst (v := (-1)) hx hb dL_law_739 (by decide) ?_
              refine lv_icmp_ge (tgt := 747) hx hb dL_law_740 (by decide) (fun c118 => ?_) (fun c118 => ?_)
              · have d118 : (-1) ≤ r117.toInt := (kc_le (by decide : (-1 : Int32).toInt = -1) (rfl : r117.toInt = r117.toInt)).mp c118
                exfalso; omega
              · have d118 : ¬ ((-1) ≤ r117.toInt) := mt (kc_le (by decide : (-1 : Int32).toInt = -1) (rfl : r117.toInt = r117.toInt)).mpr c118
                refine lv_iconst (v := 1) hx hb dL_law_743 (by decide) ?_
                refine lv_goto (tgt := 748) hx hb dL_law_744 (by decide) ?_
                refine lv_istore (lv' := [(18, .int 1), (17, .int r117), (22, .int 0), (21, .int 0), (20, .int r105), (19, .int r105), (16, .int od), (15, .int mm), (14, .int aa), (13, .int kd), (11, .long bf), (10, .int nx), (9, .int kx), (8, .int 1), (7, .int on), (6, .int un), (5, .ref ri), (4, .ref rb), (3, .ref rr), (2, .ref ra), (1, .ref (z 0)), (0, .ref b)]) hx hb dL_law_748 hl (by decide) rfl (fun ls hl => ?_)
                refine lv_iload hx hb dL_law_750 (lv_at hl 1 rfl) ?_
                refine lv_if_lt (tgt := 839) hx hb dL_law_752 (by decide) (fun c119 => ?_) (fun c119 => ?_)
                · have d119 : r117.toInt < (0) := (kc_lt (rfl : r117.toInt = r117.toInt) (by decide : (0 : Int32).toInt = 0)).mp c119
                  refine lv_iload hx hb dL_law_839 (lv_at hl 1 rfl) ?_
                  refine lv_iconst (v := (-1)) hx hb dL_law_841 (by decide) ?_
                  refine lv_icmp_ne (tgt := 884) hx hb dL_law_842 (by decide) (fun c120 => ?_) (fun c120 => ?_)
                  · have d120 : r117.toInt ≠ (-1) := mt (kc_eq (rfl : r117.toInt = r117.toInt) (by decide : (-1 : Int32).toInt = -1)).mpr c120
                    refine lv_goto (tgt := 1227) hx hb dL_law_884 (by decide) ?_
                    exact kk S O av lv q _ _ ls _ _ 1 on un ⟨⟨F, hK, hE, hNc, hX, hbl⟩, ⟨hP, hO⟩, ⟨hD, hDO⟩, hdis, hS, ⟨hI, hR, hW, hL⟩, hO9⟩ (by omega) (Or.inr ⟨rfl, rfl⟩) (by omega) (by omega) (by omega) (by omega) (lv_sub hl [0, 10, 11, 12, 13, 14, 15, 16, 17, 18, 19, 20, 21] rfl)
                  · have d120 : r117.toInt = (-1) := (kc_eq (rfl : r117.toInt = r117.toInt) (by decide : (-1 : Int32).toInt = -1)).mp c120
                    exfalso; omega
                · have d119 : ¬ (r117.toInt < (0)) := mt (kc_lt (rfl : r117.toInt = r117.toInt) (by decide : (0 : Int32).toInt = 0)).mpr c119
                  exfalso; omega
          · have d116 : ¬ (on.toInt ≤ od.toInt) := mt (kc_le (rfl : on.toInt = on.toInt) (rfl : od.toInt = od.toInt)).mpr c116
            exfalso; omega
        · have d115 : ¬ (on.toInt ≤ od.toInt) := mt (kc_le (rfl : on.toInt = on.toInt) (rfl : od.toInt = od.toInt)).mpr c115
          exfalso; omega
