set_option maxHeartbeats 8000000 in
set_option maxRecDepth 100000 in
theorem kcs_pick {p : Program} {l : Launch} {e : Env} {s : State} {m : MethodId} {below : List Frame} {meth : Method} {c : Code} {b L : Nat} {xs : Nat → Int32} {g : kG} {e0 : Nat} {z av lv : Nat → Nat} {S O : wPS} {q : qS} {ra rr rb ri : Nat} {H : Heap} {locs : List Loc} {k0 n0 : Nat} {Q : State → Prop} {ls : Array Slot} (hl0 : l.stackTraces = false) (hL9 : L ≤ 260) (C : kLw p s m c b L xs g e0 z av lv S O q ra rr rb ri H locs) (hU : q_U q ≤ 4000) (hk0 : k0 + 3000 ≤ 1072639) (hn0 : n0 + 20000 ≤ 5883708) {kd nx kx mm aa od on un : Int32} {bf : Int64} {a m9 o9 : Nat} (ha : a ≤ 3) (haa : aa.toInt = ((a : Nat) : Int)) (hm9 : m9 < 1000) (hmm : mm.toInt = ((m9 : Nat) : Int)) (ho9 : o9 ≤ q 73 0) (hod : od.toInt = ((o9 : Nat) : Int)) (hon : on.toInt = ((q 73 0 : Nat) : Int)) (hun : un.toInt = ((q_U q : Nat) : Int)) (hl : lv_has ls 23 [(18, .int 0), (17, .int 0), (16, .int od), (15, .int mm), (14, .int aa), (13, .int kd), (11, .long bf), (10, .int nx), (9, .int kx), (8, .int 1), (7, .int on), (6, .int un), (5, .ref ri), (4, .ref rb), (3, .ref rr), (2, .ref ra), (1, .ref (z 0)), (0, .ref b)])
    (kk : ∀ (S1 O1 : wPS) (av1 lv1 : Nat → Nat) (q1 : qS) (H1 : Heap) (locs1 : List Loc) (ls1 : Array Slot) (k1 n1 : Nat) (th on1 un1 : Int32), kLw p s m c b L xs g e0 z av1 lv1 S1 O1 q1 ra rr rb ri H1 locs1 → q_U q1 ≤ q_U q + 14 → (th = 0 ∨ (th = 1 ∧ q_sm q1 = q_sm q)) → on1.toInt = ((q1 73 0 : Nat) : Int) → un1.toInt = ((q_U q1 : Nat) : Int) → k1 ≤ k0 + 3000 → n1 ≤ n0 + 20000 → lv_has ls1 23 [(18, .int th), (11, .long bf), (10, .int nx), (9, .int kx), (8, .int 1), (7, .int on1), (6, .int un1), (5, .ref ri), (4, .ref rb), (3, .ref rr), (2, .ref ra), (1, .ref (z 0)), (0, .ref b)] → W p l e room_1 s m #[Value.ref b] below meth c H1 locs1 k1 n1 Q (F0 m 1227 ls1 [])) :
    W p l e room_1 s m #[Value.ref b] below meth c H locs k0 n0 Q (F0 m 654 ls []) := by
  obtain ⟨⟨F, hK, hE, hNc, hX, hbl⟩, ⟨hP, hO⟩, ⟨hD, hDO⟩, hdis, hS, ⟨hI, hR, hW, hL⟩, hO9⟩ := C
  have hx := F.1
  have hb := F.2.1
  have hbA : ¬ kAs s b := Nat.not_le.mpr hbl
  have hA : ∀ q : Nat, s.heap.size ≤ q → kAs s q := fun _ h => h
  have hU5 : q_U q ≤ 5000 := by omega
  have h721 : q 72 0 = 3 := hL.1
  have h72 : q 72 0 ≤ 12 := by omega
  have h73 : q 73 0 ≤ 12 := hW.1.1.2.1
  have hro : q 42 0 ≤ 504 := q_room hW.1.1 hW.1.2.2.2.1 hW.1.2.2.2.2.1
  have hroom : q 42 0 < 516 := by omega
  have h57 : q 57 0 ≤ 20 := hW.1.2.2.2.2.1.1
  have h56 : q 56 0 ≤ 1439 := hL.2.2.2.2.2.1
  have h25 : ∀ i, i < q 73 0 → q 25 i < 2 ^ 31 := fun i hi => by have := (hW.1.2.2.1 i hi).2.2.2; omega
  obtain ⟨⟨oa, la⟩, ⟨orr, lr⟩, ⟨obb, lb⟩, ⟨oi, li⟩, hne, hra, hrb, hri⟩ := id hO9
  rcases (Nat.lt_or_ge o9 (q 73 0)) with hin | hin
  · have hin : o9 < q 73 0 := by omega
    have h4a := hW.1.2.2.1 o9 hin
    have h4b := hW.2.2 o9 hin
    have h1 := hW.1.1.2.2.1 o9 hin
    have h10 := hW.1.1.2.2.2 (q 21 o9) h1.1
    have hb1 := hL.2.2.1 _ h10
    refine lv_aload_n hx hb dL_law_654 rfl (lv_at hl 16 rfl) ?_
    refine lv_iload hx hb dL_law_655 (lv_at hl 2 rfl) ?_
    refine kcallhI (kSthW (n := 2) (As := [.ref (z 0), .int od]) (rest := []) F hE hNc hK hP hD hS hA (kh_amount l g e0 S _ (z 0) od _ _ hI.ob0 (c_X5_amount_x l hl0 g e0 z S _ hI av lv q hR h73 od) (fun E h => h.1)) kw_273 kw_274 kw_61 kw_275 (by decide +kernel) ⟨Nat.le_of_ble_eq_true rfl, Nat.le_of_ble_eq_true rfl⟩ rfl hl.1 rfl (Nat.le_of_ble_eq_true rfl) dL_law_657 ⟨(by show k0 + 1 ≤ 1072639; omega), (by show n0 + 6 ≤ 5883708; omega)⟩) rfl hD hS hA (fun r1 T1 H locs hp hP hq1x hq2x hq3x hf1 hS => ?_)
    clear hq1x hq2x hq3x
    have hO := kO_keep hO hdis hf1
    obtain ⟨hT, nr1⟩ := kp_A (i := o9) hp hod (by omega) (by omega) (by omega)
    subst hT
    clear hp
    refine lv_istore (lv' := [(19, .int r1), (18, .int 0), (17, .int 0), (16, .int od), (15, .int mm), (14, .int aa), (13, .int kd), (11, .long bf), (10, .int nx), (9, .int kx), (8, .int 1), (7, .int on), (6, .int un), (5, .ref ri), (4, .ref rb), (3, .ref rr), (2, .ref ra), (1, .ref (z 0)), (0, .ref b)]) hx hb dL_law_660 hl (by decide) rfl (fun ls hl => ?_)
    refine lv_iload hx hb dL_law_662 (lv_at hl 4 rfl) ?_
    refine lv_iconst (v := 3) hx hb dL_law_664 (by decide) ?_
    refine lv_irem hx hb dL_law_665 (by decide) ?_
    refine lv_topi (fun x2 ex2 => ?_)
    have nx2 : x2.toInt = ((m9 % 3 : Nat) : Int) := kt_rem ex2 hmm (by decide : (3 : Int32).toInt = ((3 : Nat) : Int)) (by omega) (by omega) (by omega)
    refine lv_if_gt (tgt := 675) hx hb dL_law_666 (by decide) (fun c3 => ?_) (fun c3 => ?_)
    · have d3 : (0) < x2.toInt := (kc_lt (by decide : (0 : Int32).toInt = 0) (rfl : x2.toInt = x2.toInt)).mp c3
      refine lv_iload hx hb dL_law_675 (lv_at hl 0 rfl) ?_
      refine lv_goto (tgt := 685) hx hb dL_law_677 (by decide) ?_
      refine lv_istore (lv' := [(20, .int r1), (19, .int r1), (18, .int 0), (17, .int 0), (16, .int od), (15, .int mm), (14, .int aa), (13, .int kd), (11, .long bf), (10, .int nx), (9, .int kx), (8, .int 1), (7, .int on), (6, .int un), (5, .ref ri), (4, .ref rb), (3, .ref rr), (2, .ref ra), (1, .ref (z 0)), (0, .ref b)]) hx hb dL_law_685 hl (by decide) rfl (fun ls hl => ?_)
      refine lv_iload hx hb dL_law_687 (lv_at hl 4 rfl) ?_
      refine lv_iload hx hb dL_law_689 (lv_at hl 12 rfl) ?_
      refine lv_icmp_ge (tgt := 706) hx hb dL_law_691 (by decide) (fun c4 => ?_) (fun c4 => ?_)
      · have d4 : on.toInt ≤ od.toInt := (kc_le (rfl : on.toInt = on.toInt) (rfl : od.toInt = od.toInt)).mp c4
        exfalso; omega
      · have d4 : ¬ (on.toInt ≤ od.toInt) := mt (kc_le (rfl : on.toInt = on.toInt) (rfl : od.toInt = od.toInt)).mpr c4
        refine lv_aload_n hx hb dL_law_694 rfl (lv_at hl 18 rfl) ?_
        refine lv_aload hx hb dL_law_695 (lv_at hl 14 rfl) ?_
        refine lv_iload hx hb dL_law_697 (lv_at hl 4 rfl) ?_
        refine rd_I F hK hO oi (by rw [li]; exact kt_in hod (by omega) (by decide)) dL_law_699 ?_
        refine lv_topi (fun x5 ex5 => ?_)
        have nx5 : x5.toInt = ((q 21 o9 : Nat) : Int) := kt_nI (by rw [ex5, kt_clamp hod (by omega)]; exact hri o9 (by omega)) (by omega)
        refine kcallhI (kSthW (n := 2) (As := [.ref (z 0), .int x5]) (rest := []) F hE hNc hK hP hD hS hA (kh_stock l g e0 S _ (z 0) x5 _ _ hI.ob0 (c_X5_stock_x l hl0 g e0 z S _ hI av lv q hR h72 x5) (fun E h => h.1)) kw_188 kw_189 kw_61 kw_190 (by decide +kernel) ⟨Nat.le_of_ble_eq_true rfl, Nat.le_of_ble_eq_true rfl⟩ rfl hl.1 rfl (Nat.le_of_ble_eq_true rfl) dL_law_700 ⟨(by show k0 + 1 + 1 ≤ 1072639; omega), (by show n0 + 6 + 6 ≤ 5883708; omega)⟩) rfl hD hS hA (fun r6 T1 H locs hp hP hq1x hq2x hq3x hf1 hS => ?_)
        clear hq1x hq2x hq3x
        have hO := kO_keep hO hdis hf1
        obtain ⟨hT, nr6⟩ := kp_A (i := q 21 o9) hp nx5 (by omega) (by omega) (by omega)
        subst hT
        clear hp
        refine lv_goto (tgt := 707) hx hb dL_law_703 (by decide) ?_
        refine lv_istore (lv' := [(21, .int r6), (20, .int r1), (19, .int r1), (18, .int 0), (17, .int 0), (16, .int od), (15, .int mm), (14, .int aa), (13, .int kd), (11, .long bf), (10, .int nx), (9, .int kx), (8, .int 1), (7, .int on), (6, .int un), (5, .ref ri), (4, .ref rb), (3, .ref rr), (2, .ref ra), (1, .ref (z 0)), (0, .ref b)]) hx hb dL_law_707 hl (by decide) rfl (fun ls hl => ?_)
        refine lv_iload hx hb dL_law_709 (lv_at hl 5 rfl) ?_
        refine lv_iload hx hb dL_law_711 (lv_at hl 13 rfl) ?_
        refine lv_icmp_ge (tgt := 724) hx hb dL_law_713 (by decide) (fun c7 => ?_) (fun c7 => ?_)
        · have d7 : on.toInt ≤ od.toInt := (kc_le (rfl : on.toInt = on.toInt) (rfl : od.toInt = od.toInt)).mp c7
          exfalso; omega
        · have d7 : ¬ (on.toInt ≤ od.toInt) := mt (kc_le (rfl : on.toInt = on.toInt) (rfl : od.toInt = od.toInt)).mpr c7
          refine lv_aload hx hb dL_law_716 (lv_at hl 15 rfl) ?_
          refine lv_iload hx hb dL_law_718 (lv_at hl 5 rfl) ?_
          refine rd_I F hK hO oi (by rw [li]; exact kt_in hod (by omega) (by decide)) dL_law_720 ?_
          refine lv_topi (fun x8 ex8 => ?_)
          have nx8 : x8.toInt = ((q 21 o9 : Nat) : Int) := kt_nI (by rw [ex8, kt_clamp hod (by omega)]; exact hri o9 (by omega)) (by omega)
          refine lv_goto (tgt := 725) hx hb dL_law_721 (by decide) ?_
          refine lv_istore (lv' := [(22, .int x8), (21, .int r6), (20, .int r1), (19, .int r1), (18, .int 0), (17, .int 0), (16, .int od), (15, .int mm), (14, .int aa), (13, .int kd), (11, .long bf), (10, .int nx), (9, .int kx), (8, .int 1), (7, .int on), (6, .int un), (5, .ref ri), (4, .ref rb), (3, .ref rr), (2, .ref ra), (1, .ref (z 0)), (0, .ref b)]) hx hb dL_law_725 hl (by decide) rfl (fun ls hl => ?_)
          refine lv_aload_n hx hb dL_law_727 rfl (lv_at hl 20 rfl) ?_
          refine lv_iload hx hb dL_law_728 (lv_at hl 6 rfl) ?_
          refine lv_iload hx hb dL_law_730 (lv_at hl 2 rfl) ?_
          refine kcallhI (kSthW (n := 3) (As := [.ref (z 0), .int od, .int r1]) (rest := []) F hE hNc hK hP hD hS hA (kh_pick l g e0 S _ (z 0) od r1 _ _ hI.ob0 (c_X5_pick_x l hl0 g e0 z S _ hI av lv q hR hW od r1) (fun E h => h)) kw_396 kw_397 kw_61 kw_398 (by decide +kernel) ⟨Nat.le_of_ble_eq_true rfl, Nat.le_of_ble_eq_true rfl⟩ rfl hl.1 rfl (Nat.le_of_ble_eq_true rfl) dL_law_732 ⟨(by show k0 + 1 + 1 + 3 ≤ 1072639; omega), (by show n0 + 6 + 6 + 27 ≤ 5883708; omega)⟩) rfl hD hS hA (fun r9 S1 H locs hp hP hDs hD1 hq3x hf1 hS => ?_)
          clear hq3x
          have hO9x := kO_keep hO hdis hf1
          have hdis9 := kdis_keep hO hdis hDs
          rcases hp with hp | hp
          · have hO := hO9x
            have hdis := hdis9
            have hD := hD1
            obtain ⟨hI1, i2, f9, hi2, ei2, ef, hf9, hst, hp⟩ := hp
            obtain rfl : o9 = i2 := nI_inj (by omega) (by omega) ((kt_of hod (by omega)).symm.trans ei2)
            have nf : r1.toInt = ((f9 : Nat) : Int) := kt_nI ef (by omega)
            have k14x := k14 hW hi2 hst
            have w3i := hW.2.1 (q 21 o9) h1.1
            have u13 := q_U13 (q := q) (a := q 21 o9) (by omega)
            rcases hp with hp | hp
            · obtain ⟨fe, er, hR1⟩ := hp
              subst er
              obtain ⟨q1, hq1⟩ : ∃ q9 : qS, q9 = q_pickA o9 q := ⟨_, rfl⟩
              rw [← hq1] at hR1
              have hW1 : q_W q1 := by rw [hq1]; exact q_pickA_W hW hi2 hst (by omega)
              have hL1 : q_L q1 := q_L_of hL (fun k hk i => by rw [hq1]; exact q_pickA_o (q_mem (P := fun k => k ∉ [12, 14, 24, 42, 43, 44]) hk (by decide)))
              have hO9 := q_O_of (q' := q1) hO9 (fun k hk i => by rw [hq1]; exact q_pickA_o (q_mem (P := fun k => k ∉ [12, 14, 24, 42, 43, 44]) hk (by decide)))
              have f24 : q1 24 o9 = 107 := by rw [hq1]; exact q_pickA_f.1
              have f12 : q1 12 (q 21 o9) = q 12 (q 21 o9) - q 23 o9 := by rw [hq1]; exact q_pickA_f.2.1
              have f13 : ∀ i, q1 13 i = q 13 i := fun i => by rw [hq1]; exact q_pickA_o (by decide)
              have hU0 := q_U_art (q := q) (q' := q1) (a := q 21 o9) (by omega) (fun k hk i hi => by rcases q_m2 hk with rfl | rfl; rw [hq1]; exact q_pickA_f.2.2 i hi; exact f13 i) (fun r => by rw [hq1]; exact q_pickA_o (by decide))
              rw [f12, f13] at hU0
              have f73 : q1 73 0 = q 73 0 := by rw [hq1]; exact q_pickA_o (by decide)
              have hI := hI1
              have hR := hR1
              have hW := hW1
              have hL := hL1
              clear hro hroom h57 h56
              have h721 : q1 72 0 = 3 := hL.1
              have h72 : q1 72 0 ≤ 12 := by omega
              have h73 : q1 73 0 ≤ 12 := hW.1.1.2.1
              have hro : q1 42 0 ≤ 504 := q_room hW.1.1 hW.1.2.2.2.1 hW.1.2.2.2.2.1
              have hroom : q1 42 0 < 516 := by omega
              have h57 : q1 57 0 ≤ 20 := hW.1.2.2.2.2.1.1
              have h56 : q1 56 0 ≤ 1439 := hL.2.2.2.2.2.1
              have h25 : ∀ i, i < q1 73 0 → q1 25 i < 2 ^ 31 := fun i hi => by have := (hW.1.2.2.1 i hi).2.2.2; omega
              have hU5 : q_U q1 ≤ 5000 := by omega
              obtain ⟨⟨oa, la⟩, ⟨orr, lr⟩, ⟨obb, lb⟩, ⟨oi, li⟩, hne, hra, hrb, hri⟩ := id hO9
              refine lv_istore (lv' := [(17, .int (-1)), (22, .int x8), (21, .int r6), (20, .int r1), (19, .int r1), (18, .int 0), (16, .int od), (15, .int mm), (14, .int aa), (13, .int kd), (11, .long bf), (10, .int nx), (9, .int kx), (8, .int 1), (7, .int on), (6, .int un), (5, .ref ri), (4, .ref rb), (3, .ref rr), (2, .ref ra), (1, .ref (z 0)), (0, .ref b)]) hx hb dL_law_735 hl (by decide) rfl (fun ls hl => ?_)
              refine lv_iload hx hb dL_law_737 (lv_at hl 0 rfl) ?_
              refine lv_iconst (v := (-1)) hx hb dL_law_739 (by decide) ?_
              refine lv_icmp_ge (tgt := 747) hx hb dL_law_740 (by decide) (fun c10 => ?_) (fun c10 => ?_)
              · refine lv_iconst (v := 0) hx hb dL_law_747 (by decide) ?_
                refine lv_istore (lv' := [(18, .int 0), (17, .int (-1)), (22, .int x8), (21, .int r6), (20, .int r1), (19, .int r1), (16, .int od), (15, .int mm), (14, .int aa), (13, .int kd), (11, .long bf), (10, .int nx), (9, .int kx), (8, .int 1), (7, .int on), (6, .int un), (5, .ref ri), (4, .ref rb), (3, .ref rr), (2, .ref ra), (1, .ref (z 0)), (0, .ref b)]) hx hb dL_law_748 hl (by decide) rfl (fun ls hl => ?_)
                refine lv_iload hx hb dL_law_750 (lv_at hl 1 rfl) ?_
                refine lv_if_lt (tgt := 839) hx hb dL_law_752 (by decide) (fun c11 => ?_) (fun c11 => ?_)
                · refine lv_iload hx hb dL_law_839 (lv_at hl 1 rfl) ?_
                  refine lv_iconst (v := (-1)) hx hb dL_law_841 (by decide) ?_
                  refine lv_icmp_ne (tgt := 884) hx hb dL_law_842 (by decide) (fun c12 => ?_) (fun c12 => ?_)
                  · exact absurd c12 (by decide)
                  · refine lv_iload hx hb dL_law_845 (lv_at hl 15 rfl) ?_
                    refine lv_iload hx hb dL_law_847 (lv_at hl 4 rfl) ?_
                    refine lv_isub hx hb dL_law_849 ?_
                    refine lv_topi (fun x13 ex13 => ?_)
                    have tx13 : x13.toInt = un.toInt - r1.toInt := kt_sub ex13 (rfl : un.toInt = un.toInt) (rfl : r1.toInt = r1.toInt) (by omega) (by omega)
                    refine lv_istore (lv' := [(6, .int x13), (18, .int 0), (17, .int (-1)), (22, .int x8), (21, .int r6), (20, .int r1), (19, .int r1), (16, .int od), (15, .int mm), (14, .int aa), (13, .int kd), (11, .long bf), (10, .int nx), (9, .int kx), (8, .int 1), (7, .int on), (5, .ref ri), (4, .ref rb), (3, .ref rr), (2, .ref ra), (1, .ref (z 0)), (0, .ref b)]) hx hb dL_law_850 hl (by decide) rfl (fun ls hl => ?_)
                    refine lv_aload_n hx hb dL_law_852 rfl (lv_at hl 20 rfl) ?_
                    refine lv_iload hx hb dL_law_853 (lv_at hl 7 rfl) ?_
                    refine kcallhI (kSthW (n := 2) (As := [.ref (z 0), .int od]) (rest := []) F hE hNc hK hP hD hS hA (kh_state l g e0 S1 _ (z 0) od _ _ hI.ob0 (c_X5_state_x l hl0 g e0 z S1 _ hI av lv q1 hR h73 od) (fun E h => h.1)) kw_260 kw_261 kw_61 kw_262 (by decide +kernel) ⟨Nat.le_of_ble_eq_true rfl, Nat.le_of_ble_eq_true rfl⟩ rfl hl.1 rfl (Nat.le_of_ble_eq_true rfl) dL_law_855 ⟨(by show k0 + 1 + 1 + 3 + 1 ≤ 1072639; omega), (by show n0 + 6 + 6 + 27 + 6 ≤ 5883708; omega)⟩) rfl hD hS hA (fun r14 T1 H locs hp hP hq1x hq2x hq3x hf1 hS => ?_)
                    clear hq1x hq2x hq3x
                    have hO := kO_keep hO hdis hf1
                    obtain ⟨hT, nr14⟩ := kp_Ac (i := o9) hp hod (by omega) (by omega) (by omega)
                    subst hT
                    clear hp
                    refine lv_bipush (v := 107) hx hb dL_law_858 (by decide) ?_
                    refine lv_icmp_ne (tgt := 881) hx hb dL_law_860 (by decide) (fun c15 => ?_) (fun c15 => ?_)
                    · have d15 : r14.toInt ≠ (107) := mt (kc_eq (rfl : r14.toInt = r14.toInt) (by decide : (107 : Int32).toInt = 107)).mpr c15
                      exfalso; omega
                    · have d15 : r14.toInt = (107) := (kc_eq (rfl : r14.toInt = r14.toInt) (by decide : (107 : Int32).toInt = 107)).mp c15
                      refine lv_aload_n hx hb dL_law_863 rfl (lv_at hl 20 rfl) ?_
                      refine lv_iload hx hb dL_law_864 (lv_at hl 3 rfl) ?_
                      refine kcallhI (kSthW (n := 2) (As := [.ref (z 0), .int x8]) (rest := []) F hE hNc hK hP hD hS hA (kh_stock l g e0 S1 _ (z 0) x8 _ _ hI.ob0 (c_X5_stock_x l hl0 g e0 z S1 _ hI av lv q1 hR h72 x8) (fun E h => h.1)) kw_188 kw_189 kw_61 kw_190 (by decide +kernel) ⟨Nat.le_of_ble_eq_true rfl, Nat.le_of_ble_eq_true rfl⟩ rfl hl.1 rfl (Nat.le_of_ble_eq_true rfl) dL_law_866 ⟨(by show k0 + 1 + 1 + 3 + 1 + 1 ≤ 1072639; omega), (by show n0 + 6 + 6 + 27 + 6 + 6 ≤ 5883708; omega)⟩) rfl hD hS hA (fun r16 T1 H locs hp hP hq1x hq2x hq3x hf1 hS => ?_)
                      clear hq1x hq2x hq3x
                      have hO := kO_keep hO hdis hf1
                      obtain ⟨hT, nr16⟩ := kp_A (i := q 21 o9) hp nx8 (by omega) (by omega) (by omega)
                      subst hT
                      clear hp
                      refine lv_iload hx hb dL_law_869 (lv_at hl 4 rfl) ?_
                      refine lv_iload hx hb dL_law_871 (lv_at hl 5 rfl) ?_
                      refine lv_isub hx hb dL_law_873 ?_
                      refine lv_topi (fun x17 ex17 => ?_)
                      have tx17 : x17.toInt = r6.toInt - r1.toInt := kt_sub ex17 (rfl : r6.toInt = r6.toInt) (rfl : r1.toInt = r1.toInt) (by omega) (by omega)
                      refine lv_icmp_ne (tgt := 881) hx hb dL_law_874 (by decide) (fun c18 => ?_) (fun c18 => ?_)
                      · have d18 : r16.toInt ≠ x17.toInt := mt (kc_eq (rfl : r16.toInt = r16.toInt) (rfl : x17.toInt = x17.toInt)).mpr c18
                        exfalso; omega
                      · have d18 : r16.toInt = x17.toInt := (kc_eq (rfl : r16.toInt = r16.toInt) (rfl : x17.toInt = x17.toInt)).mp c18
                        refine lv_iconst (v := 1) hx hb dL_law_877 (by decide) ?_
                        refine lv_goto (tgt := 882) hx hb dL_law_878 (by decide) ?_
                        refine lv_istore (lv' := [(8, .int 1), (6, .int x13), (18, .int 0), (17, .int (-1)), (22, .int x8), (21, .int r6), (20, .int r1), (19, .int r1), (16, .int od), (15, .int mm), (14, .int aa), (13, .int kd), (11, .long bf), (10, .int nx), (9, .int kx), (7, .int on), (5, .ref ri), (4, .ref rb), (3, .ref rr), (2, .ref ra), (1, .ref (z 0)), (0, .ref b)]) hx hb dL_law_882 hl (by decide) rfl (fun ls hl => ?_)
                        refine lv_goto (tgt := 1227) hx hb dL_law_884 (by decide) ?_
                        exact kk S1 O av lv q1 _ _ ls _ _ 0 on x13 ⟨⟨F, hK, hE, hNc, hX, hbl⟩, ⟨hP, hO⟩, ⟨hD, hDO⟩, hdis, hS, ⟨hI, hR, hW, hL⟩, hO9⟩ (by omega) (Or.inl rfl) (by omega) (by omega) (by omega) (by omega) (lv_sub hl [2, 12, 13, 14, 0, 15, 1, 16, 17, 18, 19, 20, 21] rfl)
                · exact absurd (by decide) c11
              · exact absurd (by decide) c10
            · obtain ⟨fl, b4, er, hx9⟩ := hp
              obtain ⟨lv, hR1⟩ : ∃ l9 : Nat → Nat, Rq z av l9 S1 (q_split o9 f9 q) := hx9.elim fun x h => ⟨_, h⟩
              clear hx9
              obtain ⟨q1, hq1⟩ : ∃ q9 : qS, q9 = q_split o9 f9 q := ⟨_, rfl⟩
              rw [← hq1] at hR1
              have hW1 : q_W q1 := by rw [hq1]; exact q_split_W hW hi2 hst fl b4
              have hL1 : q_L q1 := q_L_of hL (fun k hk i => by rw [hq1]; exact q_split_o (q_mem (P := fun k => k ∉ [12, 14, 21, 22, 23, 24, 25, 42, 43, 44, 73]) hk (by decide)))
              have fk : ∀ k, k ∈ [10, 11, 1] → ∀ i, q1 k i = q k i := fun k hk i => by rw [hq1]; exact q_split_o (q_mem (P := fun k => k ∉ [12, 14, 21, 22, 23, 24, 25, 42, 43, 44, 73]) hk (by decide))
              obtain ⟨f73, f21n, f23n, f12, f12o⟩ := q_split_f (q := q) (n := o9) (f := f9)
              rw [← hq1] at f73 f21n f23n f12 f12o
              have f21 : ∀ n, n ≠ q 73 0 → q1 21 n = q 21 n := fun n hn => by rw [hq1, q_split_p (Or.inl rfl) hn]; exact q_k (by decide)
              have f23 : q1 23 o9 = f9 := by rw [hq1, q_split_p (Or.inr (Or.inl rfl)) (by omega)]; exact q_at
              have f13 : ∀ i, q1 13 i = q 13 i := fun i => by rw [hq1]; exact q_split_o (by decide)
              have hU0 := q_U_art (q := q) (q' := q1) (a := q 21 o9) (by omega) (fun k hk i hi => by rcases q_m2 hk with rfl | rfl; exact f12o i hi; exact f13 i) (fun r => by rw [hq1]; exact q_split_o (by decide))
              rw [f12, f13] at hU0
              have nr9 : r9.toInt = ((q 73 0 : Nat) : Int) := kt_nI er (by omega)
              have hI := hI1
              have hR := hR1
              have hW := hW1
              have hL := hL1
              clear hro hroom h57 h56
              have h721 : q1 72 0 = 3 := hL.1
              have h72 : q1 72 0 ≤ 12 := by omega
              have h73 : q1 73 0 ≤ 12 := hW.1.1.2.1
              have hro : q1 42 0 ≤ 504 := q_room hW.1.1 hW.1.2.2.2.1 hW.1.2.2.2.2.1
              have hroom : q1 42 0 < 516 := by omega
              have h57 : q1 57 0 ≤ 20 := hW.1.2.2.2.2.1.1
              have h56 : q1 56 0 ≤ 1439 := hL.2.2.2.2.2.1
              have h25 : ∀ i, i < q1 73 0 → q1 25 i < 2 ^ 31 := fun i hi => by have := (hW.1.2.2.1 i hi).2.2.2; omega
              have hU5 : q_U q1 ≤ 5000 := by omega
              have w3j := hW.2.1 (q 21 o9) (by omega)
              refine lv_istore (lv' := [(17, .int r9), (22, .int x8), (21, .int r6), (20, .int r1), (19, .int r1), (18, .int 0), (16, .int od), (15, .int mm), (14, .int aa), (13, .int kd), (11, .long bf), (10, .int nx), (9, .int kx), (8, .int 1), (7, .int on), (6, .int un), (5, .ref ri), (4, .ref rb), (3, .ref rr), (2, .ref ra), (1, .ref (z 0)), (0, .ref b)]) hx hb dL_law_735 hl (by decide) rfl (fun ls hl => ?_)
              refine lv_iload hx hb dL_law_737 (lv_at hl 0 rfl) ?_
              refine lv_iconst (v := (-1)) hx hb dL_law_739 (by decide) ?_
              refine lv_icmp_ge (tgt := 747) hx hb dL_law_740 (by decide) (fun c19 => ?_) (fun c19 => ?_)
              · have d19 : (-1) ≤ r9.toInt := (kc_le (by decide : (-1 : Int32).toInt = -1) (rfl : r9.toInt = r9.toInt)).mp c19
                refine lv_iconst (v := 0) hx hb dL_law_747 (by decide) ?_
                refine lv_istore (lv' := [(18, .int 0), (17, .int r9), (22, .int x8), (21, .int r6), (20, .int r1), (19, .int r1), (16, .int od), (15, .int mm), (14, .int aa), (13, .int kd), (11, .long bf), (10, .int nx), (9, .int kx), (8, .int 1), (7, .int on), (6, .int un), (5, .ref ri), (4, .ref rb), (3, .ref rr), (2, .ref ra), (1, .ref (z 0)), (0, .ref b)]) hx hb dL_law_748 hl (by decide) rfl (fun ls hl => ?_)
                refine lv_iload hx hb dL_law_750 (lv_at hl 1 rfl) ?_
                refine lv_if_lt (tgt := 839) hx hb dL_law_752 (by decide) (fun c20 => ?_) (fun c20 => ?_)
                · have d20 : r9.toInt < (0) := (kc_lt (rfl : r9.toInt = r9.toInt) (by decide : (0 : Int32).toInt = 0)).mp c20
                  exfalso; omega
                · have d20 : ¬ (r9.toInt < (0)) := mt (kc_lt (rfl : r9.toInt = r9.toInt) (by decide : (0 : Int32).toInt = 0)).mpr c20
                  refine lv_aload hx hb dL_law_755 (lv_at hl 16 rfl) ?_
                  refine lv_iload hx hb dL_law_757 (lv_at hl 1 rfl) ?_
                  refine lv_iload hx hb dL_law_759 (lv_at hl 2 rfl) ?_
                  refine rt2_I F hK hP hO hD hDO hdis hS oi (by rw [li]; exact kt_in nr9 (by omega) (by decide)) dL_law_761 (fun H locs hP hO hDO hS => ?_)
                  rw [kt_clamp nr9 (by omega)] at hO hDO
                  have hdis : kdis S1 (setX O ri (upd (pX O ri) (q 73 0) x8)) := hdis
                  have hO9 := q_O_item hO9 fk rfl f73 f21 f21n (kt_of nx8 (by omega))
                  obtain ⟨⟨oa, la⟩, ⟨orr, lr⟩, ⟨obb, lb⟩, ⟨oi, li⟩, hne, hra, hrb, hri⟩ := id hO9
                  refine lv_iload hx hb dL_law_762 (lv_at hl 15 rfl) ?_
                  refine lv_iload hx hb dL_law_764 (lv_at hl 3 rfl) ?_
                  refine lv_isub hx hb dL_law_766 ?_
                  refine lv_topi (fun x21 ex21 => ?_)
                  have tx21 : x21.toInt = un.toInt - r6.toInt := kt_sub ex21 (rfl : un.toInt = un.toInt) (rfl : r6.toInt = r6.toInt) (by omega) (by omega)
                  refine lv_istore (lv' := [(6, .int x21), (18, .int 0), (17, .int r9), (22, .int x8), (21, .int r6), (20, .int r1), (19, .int r1), (16, .int od), (15, .int mm), (14, .int aa), (13, .int kd), (11, .long bf), (10, .int nx), (9, .int kx), (8, .int 1), (7, .int on), (5, .ref ri), (4, .ref rb), (3, .ref rr), (2, .ref ra), (1, .ref (z 0)), (0, .ref b)]) hx hb dL_law_767 hl (by decide) rfl (fun ls hl => ?_)
                  refine lv_iload hx hb dL_law_769 (lv_at hl 2 rfl) ?_
                  refine lv_iload hx hb dL_law_771 (lv_at hl 15 rfl) ?_
                  refine lv_icmp_ne (tgt := 830) hx hb dL_law_773 (by decide) (fun c22 => ?_) (fun c22 => ?_)
                  · have d22 : r9.toInt ≠ on.toInt := mt (kc_eq (rfl : r9.toInt = r9.toInt) (rfl : on.toInt = on.toInt)).mpr c22
                    exfalso; omega
                  · have d22 : r9.toInt = on.toInt := (kc_eq (rfl : r9.toInt = r9.toInt) (rfl : on.toInt = on.toInt)).mp c22
                    refine lv_iload hx hb dL_law_776 (lv_at hl 5 rfl) ?_
                    refine lv_iload hx hb dL_law_778 (lv_at hl 6 rfl) ?_
                    refine lv_icmp_ge (tgt := 830) hx hb dL_law_780 (by decide) (fun c23 => ?_) (fun c23 => ?_)
                    · have d23 : r1.toInt ≤ r1.toInt := (kc_le (rfl : r1.toInt = r1.toInt) (rfl : r1.toInt = r1.toInt)).mp c23
                      exfalso; omega
                    · have d23 : ¬ (r1.toInt ≤ r1.toInt) := mt (kc_le (rfl : r1.toInt = r1.toInt) (rfl : r1.toInt = r1.toInt)).mpr c23
                      refine lv_aload_n hx hb dL_law_783 rfl (lv_at hl 20 rfl) ?_
                      refine lv_iload hx hb dL_law_784 (lv_at hl 2 rfl) ?_
                      refine kcallhI (kSthW (n := 2) (As := [.ref (z 0), .int r9]) (rest := []) F hE hNc hK hP hD hS hA (kh_amount l g e0 S1 _ (z 0) r9 _ _ hI.ob0 (c_X5_amount_x l hl0 g e0 z S1 _ hI av lv q1 hR h73 r9) (fun E h => h.1)) kw_273 kw_274 kw_61 kw_275 (by decide +kernel) ⟨Nat.le_of_ble_eq_true rfl, Nat.le_of_ble_eq_true rfl⟩ rfl hl.1 rfl (Nat.le_of_ble_eq_true rfl) dL_law_786 ⟨(by show k0 + 1 + 1 + 3 + 1 ≤ 1072639; omega), (by show n0 + 6 + 6 + 27 + 6 ≤ 5883708; omega)⟩) rfl hD hS hA (fun r24 T1 H locs hp hP hq1x hq2x hq3x hf1 hS => ?_)
                      clear hq1x hq2x hq3x
                      have hO := kO_keep hO hdis hf1
                      obtain ⟨hT, nr24⟩ := kp_A (i := q 73 0) hp nr9 (by omega) (by omega) (by omega)
                      subst hT
                      clear hp
                      refine lv_iload hx hb dL_law_789 (lv_at hl 6 rfl) ?_
                      refine lv_iload hx hb dL_law_791 (lv_at hl 5 rfl) ?_
                      refine lv_isub hx hb dL_law_793 ?_
                      refine lv_topi (fun x25 ex25 => ?_)
                      have tx25 : x25.toInt = r1.toInt - r1.toInt := kt_sub ex25 (rfl : r1.toInt = r1.toInt) (rfl : r1.toInt = r1.toInt) (by omega) (by omega)
                      refine lv_icmp_ne (tgt := 830) hx hb dL_law_794 (by decide) (fun c26 => ?_) (fun c26 => ?_)
                      · have d26 : r24.toInt ≠ x25.toInt := mt (kc_eq (rfl : r24.toInt = r24.toInt) (rfl : x25.toInt = x25.toInt)).mpr c26
                        exfalso; omega
                      · have d26 : r24.toInt = x25.toInt := (kc_eq (rfl : r24.toInt = r24.toInt) (rfl : x25.toInt = x25.toInt)).mp c26
                        refine lv_aload_n hx hb dL_law_797 rfl (lv_at hl 20 rfl) ?_
                        refine lv_iload hx hb dL_law_798 (lv_at hl 7 rfl) ?_
                        refine kcallhI (kSthW (n := 2) (As := [.ref (z 0), .int od]) (rest := []) F hE hNc hK hP hD hS hA (kh_amount l g e0 S1 _ (z 0) od _ _ hI.ob0 (c_X5_amount_x l hl0 g e0 z S1 _ hI av lv q1 hR h73 od) (fun E h => h.1)) kw_273 kw_274 kw_61 kw_275 (by decide +kernel) ⟨Nat.le_of_ble_eq_true rfl, Nat.le_of_ble_eq_true rfl⟩ rfl hl.1 rfl (Nat.le_of_ble_eq_true rfl) dL_law_800 ⟨(by show k0 + 1 + 1 + 3 + 1 + 1 ≤ 1072639; omega), (by show n0 + 6 + 6 + 27 + 6 + 6 ≤ 5883708; omega)⟩) rfl hD hS hA (fun r27 T1 H locs hp hP hq1x hq2x hq3x hf1 hS => ?_)
                        clear hq1x hq2x hq3x
                        have hO := kO_keep hO hdis hf1
                        obtain ⟨hT, nr27⟩ := kp_A (i := o9) hp hod (by omega) (by omega) (by omega)
                        subst hT
                        clear hp
                        refine lv_iload hx hb dL_law_803 (lv_at hl 5 rfl) ?_
                        refine lv_icmp_ne (tgt := 830) hx hb dL_law_805 (by decide) (fun c28 => ?_) (fun c28 => ?_)
                        · have d28 : r27.toInt ≠ r1.toInt := mt (kc_eq (rfl : r27.toInt = r27.toInt) (rfl : r1.toInt = r1.toInt)).mpr c28
                          exfalso; omega
                        · have d28 : r27.toInt = r1.toInt := (kc_eq (rfl : r27.toInt = r27.toInt) (rfl : r1.toInt = r1.toInt)).mp c28
                          refine lv_aload_n hx hb dL_law_808 rfl (lv_at hl 20 rfl) ?_
                          refine lv_iload hx hb dL_law_809 (lv_at hl 3 rfl) ?_
                          refine kcallhI (kSthW (n := 2) (As := [.ref (z 0), .int x8]) (rest := []) F hE hNc hK hP hD hS hA (kh_stock l g e0 S1 _ (z 0) x8 _ _ hI.ob0 (c_X5_stock_x l hl0 g e0 z S1 _ hI av lv q1 hR h72 x8) (fun E h => h.1)) kw_188 kw_189 kw_61 kw_190 (by decide +kernel) ⟨Nat.le_of_ble_eq_true rfl, Nat.le_of_ble_eq_true rfl⟩ rfl hl.1 rfl (Nat.le_of_ble_eq_true rfl) dL_law_811 ⟨(by show k0 + 1 + 1 + 3 + 1 + 1 + 1 ≤ 1072639; omega), (by show n0 + 6 + 6 + 27 + 6 + 6 + 6 ≤ 5883708; omega)⟩) rfl hD hS hA (fun r29 T1 H locs hp hP hq1x hq2x hq3x hf1 hS => ?_)
                          clear hq1x hq2x hq3x
                          have hO := kO_keep hO hdis hf1
                          obtain ⟨hT, nr29⟩ := kp_A (i := q 21 o9) hp nx8 (by omega) (by omega) (by omega)
                          subst hT
                          clear hp
                          refine lv_if_ne (tgt := 830) hx hb dL_law_814 (by decide) (fun c30 => ?_) (fun c30 => ?_)
                          · have d30 : r29.toInt ≠ (0) := mt (kc_eq (rfl : r29.toInt = r29.toInt) (by decide : (0 : Int32).toInt = 0)).mpr c30
                            exfalso; omega
                          · have d30 : r29.toInt = (0) := (kc_eq (rfl : r29.toInt = r29.toInt) (by decide : (0 : Int32).toInt = 0)).mp c30
                            refine lv_aload_n hx hb dL_law_817 rfl (lv_at hl 20 rfl) ?_
                            refine lv_iload hx hb dL_law_818 (lv_at hl 3 rfl) ?_
                            refine kcallhI (kSthW (n := 2) (As := [.ref (z 0), .int x8]) (rest := []) F hE hNc hK hP hD hS hA (kh_promised l g e0 S1 _ (z 0) x8 _ _ hI.ob0 (c_X5_promised_x l hl0 g e0 z S1 _ hI av lv q1 hR h72 x8) (fun E h => h.1)) kw_228 kw_229 kw_61 kw_230 (by decide +kernel) ⟨Nat.le_of_ble_eq_true rfl, Nat.le_of_ble_eq_true rfl⟩ rfl hl.1 rfl (Nat.le_of_ble_eq_true rfl) dL_law_820 ⟨(by show k0 + 1 + 1 + 3 + 1 + 1 + 1 + 1 ≤ 1072639; omega), (by show n0 + 6 + 6 + 27 + 6 + 6 + 6 + 6 ≤ 5883708; omega)⟩) rfl hD hS hA (fun r31 T1 H locs hp hP hq1x hq2x hq3x hf1 hS => ?_)
                            clear hq1x hq2x hq3x
                            have hO := kO_keep hO hdis hf1
                            obtain ⟨hT, nr31⟩ := kp_A (i := q 21 o9) hp nx8 (by omega) (by omega) (by omega)
                            subst hT
                            clear hp
                            refine lv_if_ne (tgt := 830) hx hb dL_law_823 (by decide) (fun c32 => ?_) (fun c32 => ?_)
                            · have d32 : r31.toInt ≠ (0) := mt (kc_eq (rfl : r31.toInt = r31.toInt) (by decide : (0 : Int32).toInt = 0)).mpr c32
                              exfalso; omega
                            · have d32 : r31.toInt = (0) := (kc_eq (rfl : r31.toInt = r31.toInt) (by decide : (0 : Int32).toInt = 0)).mp c32
                              refine lv_iconst (v := 1) hx hb dL_law_826 (by decide) ?_
                              refine lv_goto (tgt := 831) hx hb dL_law_827 (by decide) ?_
                              refine lv_istore (lv' := [(8, .int 1), (6, .int x21), (18, .int 0), (17, .int r9), (22, .int x8), (21, .int r6), (20, .int r1), (19, .int r1), (16, .int od), (15, .int mm), (14, .int aa), (13, .int kd), (11, .long bf), (10, .int nx), (9, .int kx), (7, .int on), (5, .ref ri), (4, .ref rb), (3, .ref rr), (2, .ref ra), (1, .ref (z 0)), (0, .ref b)]) hx hb dL_law_831 hl (by decide) rfl (fun ls hl => ?_)
                              obtain ⟨x33, ex33⟩ : ∃ y : Int32, y = on + 1 := ⟨_, rfl⟩
                              refine lv_iinc (v := x33) (lv' := [(7, .int x33), (8, .int 1), (6, .int x21), (18, .int 0), (17, .int r9), (22, .int x8), (21, .int r6), (20, .int r1), (19, .int r1), (16, .int od), (15, .int mm), (14, .int aa), (13, .int kd), (11, .long bf), (10, .int nx), (9, .int kx), (5, .ref ri), (4, .ref rb), (3, .ref rr), (2, .ref ra), (1, .ref (z 0)), (0, .ref b)]) hx hb dL_law_833 hl (k := 15) rfl (by rw [ex33]; rfl) (by decide) rfl (fun ls hl => ?_)
                              have tx33 : x33.toInt = on.toInt + 1 := kt_add ex33 (rfl : on.toInt = on.toInt) (by decide) (by omega) (by omega)
                              refine lv_goto (tgt := 884) hx hb dL_law_836 (by decide) ?_
                              refine lv_goto (tgt := 1227) hx hb dL_law_884 (by decide) ?_
                              exact kk S1 (setX O ri (upd (pX O ri) (q 73 0) x8)) av lv q1 _ _ ls _ _ 0 x33 x21 ⟨⟨F, hK, hE, hNc, hX, hbl⟩, ⟨hP, hO⟩, ⟨hD, hDO⟩, hdis, hS, ⟨hI, hR, hW, hL⟩, hO9⟩ (by omega) (Or.inl rfl) (by omega) (by omega) (by omega) (by omega) (lv_sub hl [3, 13, 14, 15, 1, 0, 2, 16, 17, 18, 19, 20, 21] rfl)
              · have d19 : ¬ ((-1) ≤ r9.toInt) := mt (kc_le (by decide : (-1 : Int32).toInt = -1) (rfl : r9.toInt = r9.toInt)).mpr c19
                exfalso; omega
            refine lv_iconst (v := 1) hx hb dL_law_743 (by decide) ?_
            refine lv_goto (tgt := 748) hx hb dL_law_744 (by decide) ?_
            refine lv_istore (lv' := [(18, .int 1), (17, .int r9), (22, .int x8), (21, .int r6), (20, .int r1), (19, .int r1), (16, .int od), (15, .int mm), (14, .int aa), (13, .int kd), (11, .long bf), (10, .int nx), (9, .int kx), (8, .int 1), (7, .int on), (6, .int un), (5, .ref ri), (4, .ref rb), (3, .ref rr), (2, .ref ra), (1, .ref (z 0)), (0, .ref b)]) hx hb dL_law_748 hl (by decide) rfl (fun ls hl => ?_)
            refine lv_iload hx hb dL_law_750 (lv_at hl 1 rfl) ?_
            refine lv_if_lt (tgt := 839) hx hb dL_law_752 (by decide) (fun c34 => ?_) (fun c34 => ?_)
            · have d34 : r9.toInt < (0) := (kc_lt (rfl : r9.toInt = r9.toInt) (by decide : (0 : Int32).toInt = 0)).mp c34
              exfalso; omega
            · have d34 : ¬ (r9.toInt < (0)) := mt (kc_lt (rfl : r9.toInt = r9.toInt) (by decide : (0 : Int32).toInt = 0)).mpr c34
              refine lv_aload hx hb dL_law_755 (lv_at hl 16 rfl) ?_
              refine lv_iload hx hb dL_law_757 (lv_at hl 1 rfl) ?_
              refine lv_iload hx hb dL_law_759 (lv_at hl 2 rfl) ?_
              refine rt2_I F hK hP hO hD hDO hdis hS oi (by rw [li]; exact kt_in nr9 (by omega) (by decide)) dL_law_761 (fun H locs hP hO hDO hS => ?_)
              rw [kt_clamp nr9 (by omega)] at hO hDO
              have hdis : kdis S1 (setX O ri (upd (pX O ri) (q 73 0) x8)) := hdis
              have hO9 := q_O_item hO9 fk rfl f73 f21 f21n (kt_of nx8 (by omega))
              obtain ⟨⟨oa, la⟩, ⟨orr, lr⟩, ⟨obb, lb⟩, ⟨oi, li⟩, hne, hra, hrb, hri⟩ := id hO9
              refine lv_iload hx hb dL_law_762 (lv_at hl 15 rfl) ?_
              refine lv_iload hx hb dL_law_764 (lv_at hl 3 rfl) ?_
              refine lv_isub hx hb dL_law_766 ?_
              refine lv_topi (fun x35 ex35 => ?_)
              have tx35 : x35.toInt = un.toInt - r6.toInt := kt_sub ex35 (rfl : un.toInt = un.toInt) (rfl : r6.toInt = r6.toInt) (by omega) (by omega)
              refine lv_istore (lv' := [(6, .int x35), (18, .int 1), (17, .int r9), (22, .int x8), (21, .int r6), (20, .int r1), (19, .int r1), (16, .int od), (15, .int mm), (14, .int aa), (13, .int kd), (11, .long bf), (10, .int nx), (9, .int kx), (8, .int 1), (7, .int on), (5, .ref ri), (4, .ref rb), (3, .ref rr), (2, .ref ra), (1, .ref (z 0)), (0, .ref b)]) hx hb dL_law_767 hl (by decide) rfl (fun ls hl => ?_)
              refine lv_iload hx hb dL_law_769 (lv_at hl 2 rfl) ?_
              refine lv_iload hx hb dL_law_771 (lv_at hl 15 rfl) ?_
              refine lv_icmp_ne (tgt := 830) hx hb dL_law_773 (by decide) (fun c36 => ?_) (fun c36 => ?_)
              · have d36 : r9.toInt ≠ on.toInt := mt (kc_eq (rfl : r9.toInt = r9.toInt) (rfl : on.toInt = on.toInt)).mpr c36
                exfalso; omega
              · have d36 : r9.toInt = on.toInt := (kc_eq (rfl : r9.toInt = r9.toInt) (rfl : on.toInt = on.toInt)).mp c36
                refine lv_iload hx hb dL_law_776 (lv_at hl 5 rfl) ?_
                refine lv_iload hx hb dL_law_778 (lv_at hl 6 rfl) ?_
                refine lv_icmp_ge (tgt := 830) hx hb dL_law_780 (by decide) (fun c37 => ?_) (fun c37 => ?_)
                · have d37 : r1.toInt ≤ r1.toInt := (kc_le (rfl : r1.toInt = r1.toInt) (rfl : r1.toInt = r1.toInt)).mp c37
                  exfalso; omega
                · have d37 : ¬ (r1.toInt ≤ r1.toInt) := mt (kc_le (rfl : r1.toInt = r1.toInt) (rfl : r1.toInt = r1.toInt)).mpr c37
                  refine lv_aload_n hx hb dL_law_783 rfl (lv_at hl 20 rfl) ?_
                  refine lv_iload hx hb dL_law_784 (lv_at hl 2 rfl) ?_
                  refine kcallhI (kSthW (n := 2) (As := [.ref (z 0), .int r9]) (rest := []) F hE hNc hK hP hD hS hA (kh_amount l g e0 S1 _ (z 0) r9 _ _ hI.ob0 (c_X5_amount_x l hl0 g e0 z S1 _ hI av lv q1 hR h73 r9) (fun E h => h.1)) kw_273 kw_274 kw_61 kw_275 (by decide +kernel) ⟨Nat.le_of_ble_eq_true rfl, Nat.le_of_ble_eq_true rfl⟩ rfl hl.1 rfl (Nat.le_of_ble_eq_true rfl) dL_law_786 ⟨(by show k0 + 1 + 1 + 3 + 1 ≤ 1072639; omega), (by show n0 + 6 + 6 + 27 + 6 ≤ 5883708; omega)⟩) rfl hD hS hA (fun r38 T1 H locs hp hP hq1x hq2x hq3x hf1 hS => ?_)
                  clear hq1x hq2x hq3x
                  have hO := kO_keep hO hdis hf1
                  obtain ⟨hT, nr38⟩ := kp_A (i := q 73 0) hp nr9 (by omega) (by omega) (by omega)
                  subst hT
                  clear hp
                  refine lv_iload hx hb dL_law_789 (lv_at hl 6 rfl) ?_
                  refine lv_iload hx hb dL_law_791 (lv_at hl 5 rfl) ?_
                  refine lv_isub hx hb dL_law_793 ?_
                  refine lv_topi (fun x39 ex39 => ?_)
                  have tx39 : x39.toInt = r1.toInt - r1.toInt := kt_sub ex39 (rfl : r1.toInt = r1.toInt) (rfl : r1.toInt = r1.toInt) (by omega) (by omega)
                  refine lv_icmp_ne (tgt := 830) hx hb dL_law_794 (by decide) (fun c40 => ?_) (fun c40 => ?_)
                  · have d40 : r38.toInt ≠ x39.toInt := mt (kc_eq (rfl : r38.toInt = r38.toInt) (rfl : x39.toInt = x39.toInt)).mpr c40
                    exfalso; omega
                  · have d40 : r38.toInt = x39.toInt := (kc_eq (rfl : r38.toInt = r38.toInt) (rfl : x39.toInt = x39.toInt)).mp c40
                    refine lv_aload_n hx hb dL_law_797 rfl (lv_at hl 20 rfl) ?_
                    refine lv_iload hx hb dL_law_798 (lv_at hl 7 rfl) ?_
                    refine kcallhI (kSthW (n := 2) (As := [.ref (z 0), .int od]) (rest := []) F hE hNc hK hP hD hS hA (kh_amount l g e0 S1 _ (z 0) od _ _ hI.ob0 (c_X5_amount_x l hl0 g e0 z S1 _ hI av lv q1 hR h73 od) (fun E h => h.1)) kw_273 kw_274 kw_61 kw_275 (by decide +kernel) ⟨Nat.le_of_ble_eq_true rfl, Nat.le_of_ble_eq_true rfl⟩ rfl hl.1 rfl (Nat.le_of_ble_eq_true rfl) dL_law_800 ⟨(by show k0 + 1 + 1 + 3 + 1 + 1 ≤ 1072639; omega), (by show n0 + 6 + 6 + 27 + 6 + 6 ≤ 5883708; omega)⟩) rfl hD hS hA (fun r41 T1 H locs hp hP hq1x hq2x hq3x hf1 hS => ?_)
                    clear hq1x hq2x hq3x
                    have hO := kO_keep hO hdis hf1
                    obtain ⟨hT, nr41⟩ := kp_A (i := o9) hp hod (by omega) (by omega) (by omega)
                    subst hT
                    clear hp
                    refine lv_iload hx hb dL_law_803 (lv_at hl 5 rfl) ?_
                    refine lv_icmp_ne (tgt := 830) hx hb dL_law_805 (by decide) (fun c42 => ?_) (fun c42 => ?_)
                    · have d42 : r41.toInt ≠ r1.toInt := mt (kc_eq (rfl : r41.toInt = r41.toInt) (rfl : r1.toInt = r1.toInt)).mpr c42
                      exfalso; omega
                    · have d42 : r41.toInt = r1.toInt := (kc_eq (rfl : r41.toInt = r41.toInt) (rfl : r1.toInt = r1.toInt)).mp c42
                      refine lv_aload_n hx hb dL_law_808 rfl (lv_at hl 20 rfl) ?_
                      refine lv_iload hx hb dL_law_809 (lv_at hl 3 rfl) ?_
                      refine kcallhI (kSthW (n := 2) (As := [.ref (z 0), .int x8]) (rest := []) F hE hNc hK hP hD hS hA (kh_stock l g e0 S1 _ (z 0) x8 _ _ hI.ob0 (c_X5_stock_x l hl0 g e0 z S1 _ hI av lv q1 hR h72 x8) (fun E h => h.1)) kw_188 kw_189 kw_61 kw_190 (by decide +kernel) ⟨Nat.le_of_ble_eq_true rfl, Nat.le_of_ble_eq_true rfl⟩ rfl hl.1 rfl (Nat.le_of_ble_eq_true rfl) dL_law_811 ⟨(by show k0 + 1 + 1 + 3 + 1 + 1 + 1 ≤ 1072639; omega), (by show n0 + 6 + 6 + 27 + 6 + 6 + 6 ≤ 5883708; omega)⟩) rfl hD hS hA (fun r43 T1 H locs hp hP hq1x hq2x hq3x hf1 hS => ?_)
                      clear hq1x hq2x hq3x
                      have hO := kO_keep hO hdis hf1
                      obtain ⟨hT, nr43⟩ := kp_A (i := q 21 o9) hp nx8 (by omega) (by omega) (by omega)
                      subst hT
                      clear hp
                      refine lv_if_ne (tgt := 830) hx hb dL_law_814 (by decide) (fun c44 => ?_) (fun c44 => ?_)
                      · have d44 : r43.toInt ≠ (0) := mt (kc_eq (rfl : r43.toInt = r43.toInt) (by decide : (0 : Int32).toInt = 0)).mpr c44
                        exfalso; omega
                      · have d44 : r43.toInt = (0) := (kc_eq (rfl : r43.toInt = r43.toInt) (by decide : (0 : Int32).toInt = 0)).mp c44
                        refine lv_aload_n hx hb dL_law_817 rfl (lv_at hl 20 rfl) ?_
                        refine lv_iload hx hb dL_law_818 (lv_at hl 3 rfl) ?_
                        refine kcallhI (kSthW (n := 2) (As := [.ref (z 0), .int x8]) (rest := []) F hE hNc hK hP hD hS hA (kh_promised l g e0 S1 _ (z 0) x8 _ _ hI.ob0 (c_X5_promised_x l hl0 g e0 z S1 _ hI av lv q1 hR h72 x8) (fun E h => h.1)) kw_228 kw_229 kw_61 kw_230 (by decide +kernel) ⟨Nat.le_of_ble_eq_true rfl, Nat.le_of_ble_eq_true rfl⟩ rfl hl.1 rfl (Nat.le_of_ble_eq_true rfl) dL_law_820 ⟨(by show k0 + 1 + 1 + 3 + 1 + 1 + 1 + 1 ≤ 1072639; omega), (by show n0 + 6 + 6 + 27 + 6 + 6 + 6 + 6 ≤ 5883708; omega)⟩) rfl hD hS hA (fun r45 T1 H locs hp hP hq1x hq2x hq3x hf1 hS => ?_)
                        clear hq1x hq2x hq3x
                        have hO := kO_keep hO hdis hf1
                        obtain ⟨hT, nr45⟩ := kp_A (i := q 21 o9) hp nx8 (by omega) (by omega) (by omega)
                        subst hT
                        clear hp
                        refine lv_if_ne (tgt := 830) hx hb dL_law_823 (by decide) (fun c46 => ?_) (fun c46 => ?_)
                        · have d46 : r45.toInt ≠ (0) := mt (kc_eq (rfl : r45.toInt = r45.toInt) (by decide : (0 : Int32).toInt = 0)).mpr c46
                          exfalso; omega
                        · have d46 : r45.toInt = (0) := (kc_eq (rfl : r45.toInt = r45.toInt) (by decide : (0 : Int32).toInt = 0)).mp c46
                          refine lv_iconst (v := 1) hx hb dL_law_826 (by decide) ?_
                          refine lv_goto (tgt := 831) hx hb dL_law_827 (by decide) ?_
                          refine lv_istore (lv' := [(8, .int 1), (6, .int x35), (18, .int 1), (17, .int r9), (22, .int x8), (21, .int r6), (20, .int r1), (19, .int r1), (16, .int od), (15, .int mm), (14, .int aa), (13, .int kd), (11, .long bf), (10, .int nx), (9, .int kx), (7, .int on), (5, .ref ri), (4, .ref rb), (3, .ref rr), (2, .ref ra), (1, .ref (z 0)), (0, .ref b)]) hx hb dL_law_831 hl (by decide) rfl (fun ls hl => ?_)
                          obtain ⟨x47, ex47⟩ : ∃ y : Int32, y = on + 1 := ⟨_, rfl⟩
                          refine lv_iinc (v := x47) (lv' := [(7, .int x47), (8, .int 1), (6, .int x35), (18, .int 1), (17, .int r9), (22, .int x8), (21, .int r6), (20, .int r1), (19, .int r1), (16, .int od), (15, .int mm), (14, .int aa), (13, .int kd), (11, .long bf), (10, .int nx), (9, .int kx), (5, .ref ri), (4, .ref rb), (3, .ref rr), (2, .ref ra), (1, .ref (z 0)), (0, .ref b)]) hx hb dL_law_833 hl (k := 15) rfl (by rw [ex47]; rfl) (by decide) rfl (fun ls hl => ?_)
                          have tx47 : x47.toInt = on.toInt + 1 := kt_add ex47 (rfl : on.toInt = on.toInt) (by decide) (by omega) (by omega)
                          refine lv_goto (tgt := 884) hx hb dL_law_836 (by decide) ?_
                          refine lv_goto (tgt := 1227) hx hb dL_law_884 (by decide) ?_
                          exact kk S1 (setX O ri (upd (pX O ri) (q 73 0) x8)) av lv q1 _ _ ls _ _ 1 x47 x35 ⟨⟨F, hK, hE, hNc, hX, hbl⟩, ⟨hP, hO⟩, ⟨hD, hDO⟩, hdis, hS, ⟨hI, hR, hW, hL⟩, hO9⟩ (by omega) (Or.inr ⟨rfl, rfl⟩) (by omega) (by omega) (by omega) (by omega) (lv_sub hl [3, 13, 14, 15, 1, 0, 2, 16, 17, 18, 19, 20, 21] rfl)
          · have hO := hO9x
            obtain ⟨hT, hrx⟩ : S = S1 ∧ r9.toInt ≤ -75 := by rcases hp with ⟨e, -, h⟩ | ⟨e, -, h⟩ | ⟨e, -, h⟩ | ⟨e, -, h⟩ <;> exact ⟨h.symm, by rw [e]; decide⟩
            subst hT
            clear hp
            refine lv_istore (lv' := [(17, .int r9), (22, .int x8), (21, .int r6), (20, .int r1), (19, .int r1), (18, .int 0), (16, .int od), (15, .int mm), (14, .int aa), (13, .int kd), (11, .long bf), (10, .int nx), (9, .int kx), (8, .int 1), (7, .int on), (6, .int un), (5, .ref ri), (4, .ref rb), (3, .ref rr), (2, .ref ra), (1, .ref (z 0)), (0, .ref b)]) hx hb dL_law_735 hl (by decide) rfl (fun ls hl => ?_)
            refine lv_iload hx hb dL_law_737 (lv_at hl 0 rfl) ?_
            refine lv_iconst (v := (-1)) hx hb dL_law_739 (by decide) ?_
            refine lv_icmp_ge (tgt := 747) hx hb dL_law_740 (by decide) (fun c48 => ?_) (fun c48 => ?_)
            · have d48 : (-1) ≤ r9.toInt := (kc_le (by decide : (-1 : Int32).toInt = -1) (rfl : r9.toInt = r9.toInt)).mp c48
              exfalso; omega
            · have d48 : ¬ ((-1) ≤ r9.toInt) := mt (kc_le (by decide : (-1 : Int32).toInt = -1) (rfl : r9.toInt = r9.toInt)).mpr c48
              refine lv_iconst (v := 1) hx hb dL_law_743 (by decide) ?_
              refine lv_goto (tgt := 748) hx hb dL_law_744 (by decide) ?_
              refine lv_istore (lv' := [(18, .int 1), (17, .int r9), (22, .int x8), (21, .int r6), (20, .int r1), (19, .int r1), (16, .int od), (15, .int mm), (14, .int aa), (13, .int kd), (11, .long bf), (10, .int nx), (9, .int kx), (8, .int 1), (7, .int on), (6, .int un), (5, .ref ri), (4, .ref rb), (3, .ref rr), (2, .ref ra), (1, .ref (z 0)), (0, .ref b)]) hx hb dL_law_748 hl (by decide) rfl (fun ls hl => ?_)
              refine lv_iload hx hb dL_law_750 (lv_at hl 1 rfl) ?_
              refine lv_if_lt (tgt := 839) hx hb dL_law_752 (by decide) (fun c49 => ?_) (fun c49 => ?_)
              · have d49 : r9.toInt < (0) := (kc_lt (rfl : r9.toInt = r9.toInt) (by decide : (0 : Int32).toInt = 0)).mp c49
                refine lv_iload hx hb dL_law_839 (lv_at hl 1 rfl) ?_
                refine lv_iconst (v := (-1)) hx hb dL_law_841 (by decide) ?_
                refine lv_icmp_ne (tgt := 884) hx hb dL_law_842 (by decide) (fun c50 => ?_) (fun c50 => ?_)
                · have d50 : r9.toInt ≠ (-1) := mt (kc_eq (rfl : r9.toInt = r9.toInt) (by decide : (-1 : Int32).toInt = -1)).mpr c50
                  refine lv_goto (tgt := 1227) hx hb dL_law_884 (by decide) ?_
                  exact kk S O av lv q _ _ ls _ _ 1 on un ⟨⟨F, hK, hE, hNc, hX, hbl⟩, ⟨hP, hO⟩, ⟨hD, hDO⟩, hdis, hS, ⟨hI, hR, hW, hL⟩, hO9⟩ (by omega) (Or.inr ⟨rfl, rfl⟩) (by omega) (by omega) (by omega) (by omega) (lv_sub hl [0, 10, 11, 12, 13, 14, 15, 16, 17, 18, 19, 20, 21] rfl)
                · have d50 : r9.toInt = (-1) := (kc_eq (rfl : r9.toInt = r9.toInt) (by decide : (-1 : Int32).toInt = -1)).mp c50
                  exfalso; omega
              · have d49 : ¬ (r9.toInt < (0)) := mt (kc_lt (rfl : r9.toInt = r9.toInt) (by decide : (0 : Int32).toInt = 0)).mpr c49
                exfalso; omega
    · have d3 : ¬ ((0) < x2.toInt) := mt (kc_lt (by decide : (0 : Int32).toInt = 0) (rfl : x2.toInt = x2.toInt)).mpr c3
      refine lv_iload hx hb dL_law_669 (lv_at hl 0 rfl) ?_
      refine lv_iconst (v := 1) hx hb dL_law_671 (by decide) ?_
      refine lv_icmp_ge (tgt := 680) hx hb dL_law_672 (by decide) (fun c51 => ?_) (fun c51 => ?_)
      · have d51 : (1) ≤ r1.toInt := (kc_le (by decide : (1 : Int32).toInt = 1) (rfl : r1.toInt = r1.toInt)).mp c51
        refine lv_iload hx hb dL_law_680 (lv_at hl 4 rfl) ?_
        refine lv_iload hx hb dL_law_682 (lv_at hl 0 rfl) ?_
        refine lv_irem hx hb dL_law_684 (fun h9 => by have h8 := (kc_eq (rfl : r1.toInt = r1.toInt) (by decide : (0 : Int32).toInt = 0)).mp h9; omega) ?_
        refine lv_topi (fun x52 ex52 => ?_)
        have nx52 : x52.toInt = ((m9 % (q 23 o9) : Nat) : Int) := kt_rem ex52 hmm nr1 (by omega) (by omega) (by omega)
        have mx52 : m9 % (q 23 o9) < q 23 o9 := Nat.mod_lt _ (by omega)
        generalize m9 % (q 23 o9) = jx52 at nx52 mx52
        refine lv_istore (lv' := [(20, .int x52), (19, .int r1), (18, .int 0), (17, .int 0), (16, .int od), (15, .int mm), (14, .int aa), (13, .int kd), (11, .long bf), (10, .int nx), (9, .int kx), (8, .int 1), (7, .int on), (6, .int un), (5, .ref ri), (4, .ref rb), (3, .ref rr), (2, .ref ra), (1, .ref (z 0)), (0, .ref b)]) hx hb dL_law_685 hl (by decide) rfl (fun ls hl => ?_)
        refine lv_iload hx hb dL_law_687 (lv_at hl 4 rfl) ?_
        refine lv_iload hx hb dL_law_689 (lv_at hl 12 rfl) ?_
        refine lv_icmp_ge (tgt := 706) hx hb dL_law_691 (by decide) (fun c53 => ?_) (fun c53 => ?_)
        · have d53 : on.toInt ≤ od.toInt := (kc_le (rfl : on.toInt = on.toInt) (rfl : od.toInt = od.toInt)).mp c53
          exfalso; omega
        · have d53 : ¬ (on.toInt ≤ od.toInt) := mt (kc_le (rfl : on.toInt = on.toInt) (rfl : od.toInt = od.toInt)).mpr c53
          refine lv_aload_n hx hb dL_law_694 rfl (lv_at hl 18 rfl) ?_
          refine lv_aload hx hb dL_law_695 (lv_at hl 14 rfl) ?_
          refine lv_iload hx hb dL_law_697 (lv_at hl 4 rfl) ?_
          refine rd_I F hK hO oi (by rw [li]; exact kt_in hod (by omega) (by decide)) dL_law_699 ?_
          refine lv_topi (fun x54 ex54 => ?_)
          have nx54 : x54.toInt = ((q 21 o9 : Nat) : Int) := kt_nI (by rw [ex54, kt_clamp hod (by omega)]; exact hri o9 (by omega)) (by omega)
          refine kcallhI (kSthW (n := 2) (As := [.ref (z 0), .int x54]) (rest := []) F hE hNc hK hP hD hS hA (kh_stock l g e0 S _ (z 0) x54 _ _ hI.ob0 (c_X5_stock_x l hl0 g e0 z S _ hI av lv q hR h72 x54) (fun E h => h.1)) kw_188 kw_189 kw_61 kw_190 (by decide +kernel) ⟨Nat.le_of_ble_eq_true rfl, Nat.le_of_ble_eq_true rfl⟩ rfl hl.1 rfl (Nat.le_of_ble_eq_true rfl) dL_law_700 ⟨(by show k0 + 1 + 1 ≤ 1072639; omega), (by show n0 + 6 + 6 ≤ 5883708; omega)⟩) rfl hD hS hA (fun r55 T1 H locs hp hP hq1x hq2x hq3x hf1 hS => ?_)
          clear hq1x hq2x hq3x
          have hO := kO_keep hO hdis hf1
          obtain ⟨hT, nr55⟩ := kp_A (i := q 21 o9) hp nx54 (by omega) (by omega) (by omega)
          subst hT
          clear hp
          refine lv_goto (tgt := 707) hx hb dL_law_703 (by decide) ?_
          refine lv_istore (lv' := [(21, .int r55), (20, .int x52), (19, .int r1), (18, .int 0), (17, .int 0), (16, .int od), (15, .int mm), (14, .int aa), (13, .int kd), (11, .long bf), (10, .int nx), (9, .int kx), (8, .int 1), (7, .int on), (6, .int un), (5, .ref ri), (4, .ref rb), (3, .ref rr), (2, .ref ra), (1, .ref (z 0)), (0, .ref b)]) hx hb dL_law_707 hl (by decide) rfl (fun ls hl => ?_)
          refine lv_iload hx hb dL_law_709 (lv_at hl 5 rfl) ?_
          refine lv_iload hx hb dL_law_711 (lv_at hl 13 rfl) ?_
          refine lv_icmp_ge (tgt := 724) hx hb dL_law_713 (by decide) (fun c56 => ?_) (fun c56 => ?_)
          · have d56 : on.toInt ≤ od.toInt := (kc_le (rfl : on.toInt = on.toInt) (rfl : od.toInt = od.toInt)).mp c56
            exfalso; omega
          · have d56 : ¬ (on.toInt ≤ od.toInt) := mt (kc_le (rfl : on.toInt = on.toInt) (rfl : od.toInt = od.toInt)).mpr c56
            refine lv_aload hx hb dL_law_716 (lv_at hl 15 rfl) ?_
            refine lv_iload hx hb dL_law_718 (lv_at hl 5 rfl) ?_
            refine rd_I F hK hO oi (by rw [li]; exact kt_in hod (by omega) (by decide)) dL_law_720 ?_
            refine lv_topi (fun x57 ex57 => ?_)
            have nx57 : x57.toInt = ((q 21 o9 : Nat) : Int) := kt_nI (by rw [ex57, kt_clamp hod (by omega)]; exact hri o9 (by omega)) (by omega)
            refine lv_goto (tgt := 725) hx hb dL_law_721 (by decide) ?_
            refine lv_istore (lv' := [(22, .int x57), (21, .int r55), (20, .int x52), (19, .int r1), (18, .int 0), (17, .int 0), (16, .int od), (15, .int mm), (14, .int aa), (13, .int kd), (11, .long bf), (10, .int nx), (9, .int kx), (8, .int 1), (7, .int on), (6, .int un), (5, .ref ri), (4, .ref rb), (3, .ref rr), (2, .ref ra), (1, .ref (z 0)), (0, .ref b)]) hx hb dL_law_725 hl (by decide) rfl (fun ls hl => ?_)
            refine lv_aload_n hx hb dL_law_727 rfl (lv_at hl 20 rfl) ?_
            refine lv_iload hx hb dL_law_728 (lv_at hl 6 rfl) ?_
            refine lv_iload hx hb dL_law_730 (lv_at hl 2 rfl) ?_
            refine kcallhI (kSthW (n := 3) (As := [.ref (z 0), .int od, .int x52]) (rest := []) F hE hNc hK hP hD hS hA (kh_pick l g e0 S _ (z 0) od x52 _ _ hI.ob0 (c_X5_pick_x l hl0 g e0 z S _ hI av lv q hR hW od x52) (fun E h => h)) kw_396 kw_397 kw_61 kw_398 (by decide +kernel) ⟨Nat.le_of_ble_eq_true rfl, Nat.le_of_ble_eq_true rfl⟩ rfl hl.1 rfl (Nat.le_of_ble_eq_true rfl) dL_law_732 ⟨(by show k0 + 1 + 1 + 3 ≤ 1072639; omega), (by show n0 + 6 + 6 + 27 ≤ 5883708; omega)⟩) rfl hD hS hA (fun r58 S1 H locs hp hP hDs hD1 hq3x hf1 hS => ?_)
            clear hq3x
            have hO9x := kO_keep hO hdis hf1
            have hdis9 := kdis_keep hO hdis hDs
            rcases hp with hp | hp
            · have hO := hO9x
              have hdis := hdis9
              have hD := hD1
              obtain ⟨hI1, i2, f9, hi2, ei2, ef, hf9, hst, hp⟩ := hp
              obtain rfl : o9 = i2 := nI_inj (by omega) (by omega) ((kt_of hod (by omega)).symm.trans ei2)
              have nf : x52.toInt = ((f9 : Nat) : Int) := kt_nI ef (by omega)
              have k14x := k14 hW hi2 hst
              have w3i := hW.2.1 (q 21 o9) h1.1
              have u13 := q_U13 (q := q) (a := q 21 o9) (by omega)
              rcases hp with hp | hp
              · obtain ⟨fe, er, hR1⟩ := hp
                subst er
                obtain ⟨q1, hq1⟩ : ∃ q9 : qS, q9 = q_pickA o9 q := ⟨_, rfl⟩
                rw [← hq1] at hR1
                have hW1 : q_W q1 := by rw [hq1]; exact q_pickA_W hW hi2 hst (by omega)
                have hL1 : q_L q1 := q_L_of hL (fun k hk i => by rw [hq1]; exact q_pickA_o (q_mem (P := fun k => k ∉ [12, 14, 24, 42, 43, 44]) hk (by decide)))
                have hO9 := q_O_of (q' := q1) hO9 (fun k hk i => by rw [hq1]; exact q_pickA_o (q_mem (P := fun k => k ∉ [12, 14, 24, 42, 43, 44]) hk (by decide)))
                have f24 : q1 24 o9 = 107 := by rw [hq1]; exact q_pickA_f.1
                have f12 : q1 12 (q 21 o9) = q 12 (q 21 o9) - q 23 o9 := by rw [hq1]; exact q_pickA_f.2.1
                have f13 : ∀ i, q1 13 i = q 13 i := fun i => by rw [hq1]; exact q_pickA_o (by decide)
                have hU0 := q_U_art (q := q) (q' := q1) (a := q 21 o9) (by omega) (fun k hk i hi => by rcases q_m2 hk with rfl | rfl; rw [hq1]; exact q_pickA_f.2.2 i hi; exact f13 i) (fun r => by rw [hq1]; exact q_pickA_o (by decide))
                rw [f12, f13] at hU0
                have f73 : q1 73 0 = q 73 0 := by rw [hq1]; exact q_pickA_o (by decide)
                have hI := hI1
                have hR := hR1
                have hW := hW1
                have hL := hL1
                clear hro hroom h57 h56
                have h721 : q1 72 0 = 3 := hL.1
                have h72 : q1 72 0 ≤ 12 := by omega
                have h73 : q1 73 0 ≤ 12 := hW.1.1.2.1
                have hro : q1 42 0 ≤ 504 := q_room hW.1.1 hW.1.2.2.2.1 hW.1.2.2.2.2.1
                have hroom : q1 42 0 < 516 := by omega
                have h57 : q1 57 0 ≤ 20 := hW.1.2.2.2.2.1.1
                have h56 : q1 56 0 ≤ 1439 := hL.2.2.2.2.2.1
                have h25 : ∀ i, i < q1 73 0 → q1 25 i < 2 ^ 31 := fun i hi => by have := (hW.1.2.2.1 i hi).2.2.2; omega
                have hU5 : q_U q1 ≤ 5000 := by omega
                obtain ⟨⟨oa, la⟩, ⟨orr, lr⟩, ⟨obb, lb⟩, ⟨oi, li⟩, hne, hra, hrb, hri⟩ := id hO9
                refine lv_istore (lv' := [(17, .int (-1)), (22, .int x57), (21, .int r55), (20, .int x52), (19, .int r1), (18, .int 0), (16, .int od), (15, .int mm), (14, .int aa), (13, .int kd), (11, .long bf), (10, .int nx), (9, .int kx), (8, .int 1), (7, .int on), (6, .int un), (5, .ref ri), (4, .ref rb), (3, .ref rr), (2, .ref ra), (1, .ref (z 0)), (0, .ref b)]) hx hb dL_law_735 hl (by decide) rfl (fun ls hl => ?_)
                refine lv_iload hx hb dL_law_737 (lv_at hl 0 rfl) ?_
                refine lv_iconst (v := (-1)) hx hb dL_law_739 (by decide) ?_
                refine lv_icmp_ge (tgt := 747) hx hb dL_law_740 (by decide) (fun c59 => ?_) (fun c59 => ?_)
                · refine lv_iconst (v := 0) hx hb dL_law_747 (by decide) ?_
                  refine lv_istore (lv' := [(18, .int 0), (17, .int (-1)), (22, .int x57), (21, .int r55), (20, .int x52), (19, .int r1), (16, .int od), (15, .int mm), (14, .int aa), (13, .int kd), (11, .long bf), (10, .int nx), (9, .int kx), (8, .int 1), (7, .int on), (6, .int un), (5, .ref ri), (4, .ref rb), (3, .ref rr), (2, .ref ra), (1, .ref (z 0)), (0, .ref b)]) hx hb dL_law_748 hl (by decide) rfl (fun ls hl => ?_)
                  refine lv_iload hx hb dL_law_750 (lv_at hl 1 rfl) ?_
                  refine lv_if_lt (tgt := 839) hx hb dL_law_752 (by decide) (fun c60 => ?_) (fun c60 => ?_)
                  · refine lv_iload hx hb dL_law_839 (lv_at hl 1 rfl) ?_
                    refine lv_iconst (v := (-1)) hx hb dL_law_841 (by decide) ?_
                    refine lv_icmp_ne (tgt := 884) hx hb dL_law_842 (by decide) (fun c61 => ?_) (fun c61 => ?_)
                    · exact absurd c61 (by decide)
                    · refine lv_iload hx hb dL_law_845 (lv_at hl 15 rfl) ?_
                      refine lv_iload hx hb dL_law_847 (lv_at hl 4 rfl) ?_
                      refine lv_isub hx hb dL_law_849 ?_
                      refine lv_topi (fun x62 ex62 => ?_)
                      have tx62 : x62.toInt = un.toInt - x52.toInt := kt_sub ex62 (rfl : un.toInt = un.toInt) (rfl : x52.toInt = x52.toInt) (by omega) (by omega)
                      refine lv_istore (lv' := [(6, .int x62), (18, .int 0), (17, .int (-1)), (22, .int x57), (21, .int r55), (20, .int x52), (19, .int r1), (16, .int od), (15, .int mm), (14, .int aa), (13, .int kd), (11, .long bf), (10, .int nx), (9, .int kx), (8, .int 1), (7, .int on), (5, .ref ri), (4, .ref rb), (3, .ref rr), (2, .ref ra), (1, .ref (z 0)), (0, .ref b)]) hx hb dL_law_850 hl (by decide) rfl (fun ls hl => ?_)
                      refine lv_aload_n hx hb dL_law_852 rfl (lv_at hl 20 rfl) ?_
                      refine lv_iload hx hb dL_law_853 (lv_at hl 7 rfl) ?_
                      refine kcallhI (kSthW (n := 2) (As := [.ref (z 0), .int od]) (rest := []) F hE hNc hK hP hD hS hA (kh_state l g e0 S1 _ (z 0) od _ _ hI.ob0 (c_X5_state_x l hl0 g e0 z S1 _ hI av lv q1 hR h73 od) (fun E h => h.1)) kw_260 kw_261 kw_61 kw_262 (by decide +kernel) ⟨Nat.le_of_ble_eq_true rfl, Nat.le_of_ble_eq_true rfl⟩ rfl hl.1 rfl (Nat.le_of_ble_eq_true rfl) dL_law_855 ⟨(by show k0 + 1 + 1 + 3 + 1 ≤ 1072639; omega), (by show n0 + 6 + 6 + 27 + 6 ≤ 5883708; omega)⟩) rfl hD hS hA (fun r63 T1 H locs hp hP hq1x hq2x hq3x hf1 hS => ?_)
                      clear hq1x hq2x hq3x
                      have hO := kO_keep hO hdis hf1
                      obtain ⟨hT, nr63⟩ := kp_Ac (i := o9) hp hod (by omega) (by omega) (by omega)
                      subst hT
                      clear hp
                      refine lv_bipush (v := 107) hx hb dL_law_858 (by decide) ?_
                      refine lv_icmp_ne (tgt := 881) hx hb dL_law_860 (by decide) (fun c64 => ?_) (fun c64 => ?_)
                      · have d64 : r63.toInt ≠ (107) := mt (kc_eq (rfl : r63.toInt = r63.toInt) (by decide : (107 : Int32).toInt = 107)).mpr c64
                        exfalso; omega
                      · have d64 : r63.toInt = (107) := (kc_eq (rfl : r63.toInt = r63.toInt) (by decide : (107 : Int32).toInt = 107)).mp c64
                        refine lv_aload_n hx hb dL_law_863 rfl (lv_at hl 20 rfl) ?_
                        refine lv_iload hx hb dL_law_864 (lv_at hl 3 rfl) ?_
                        refine kcallhI (kSthW (n := 2) (As := [.ref (z 0), .int x57]) (rest := []) F hE hNc hK hP hD hS hA (kh_stock l g e0 S1 _ (z 0) x57 _ _ hI.ob0 (c_X5_stock_x l hl0 g e0 z S1 _ hI av lv q1 hR h72 x57) (fun E h => h.1)) kw_188 kw_189 kw_61 kw_190 (by decide +kernel) ⟨Nat.le_of_ble_eq_true rfl, Nat.le_of_ble_eq_true rfl⟩ rfl hl.1 rfl (Nat.le_of_ble_eq_true rfl) dL_law_866 ⟨(by show k0 + 1 + 1 + 3 + 1 + 1 ≤ 1072639; omega), (by show n0 + 6 + 6 + 27 + 6 + 6 ≤ 5883708; omega)⟩) rfl hD hS hA (fun r65 T1 H locs hp hP hq1x hq2x hq3x hf1 hS => ?_)
                        clear hq1x hq2x hq3x
                        have hO := kO_keep hO hdis hf1
                        obtain ⟨hT, nr65⟩ := kp_A (i := q 21 o9) hp nx57 (by omega) (by omega) (by omega)
                        subst hT
                        clear hp
                        refine lv_iload hx hb dL_law_869 (lv_at hl 4 rfl) ?_
                        refine lv_iload hx hb dL_law_871 (lv_at hl 5 rfl) ?_
                        refine lv_isub hx hb dL_law_873 ?_
                        refine lv_topi (fun x66 ex66 => ?_)
                        have tx66 : x66.toInt = r55.toInt - x52.toInt := kt_sub ex66 (rfl : r55.toInt = r55.toInt) (rfl : x52.toInt = x52.toInt) (by omega) (by omega)
                        refine lv_icmp_ne (tgt := 881) hx hb dL_law_874 (by decide) (fun c67 => ?_) (fun c67 => ?_)
                        · have d67 : r65.toInt ≠ x66.toInt := mt (kc_eq (rfl : r65.toInt = r65.toInt) (rfl : x66.toInt = x66.toInt)).mpr c67
                          exfalso; omega
                        · have d67 : r65.toInt = x66.toInt := (kc_eq (rfl : r65.toInt = r65.toInt) (rfl : x66.toInt = x66.toInt)).mp c67
                          refine lv_iconst (v := 1) hx hb dL_law_877 (by decide) ?_
                          refine lv_goto (tgt := 882) hx hb dL_law_878 (by decide) ?_
                          refine lv_istore (lv' := [(8, .int 1), (6, .int x62), (18, .int 0), (17, .int (-1)), (22, .int x57), (21, .int r55), (20, .int x52), (19, .int r1), (16, .int od), (15, .int mm), (14, .int aa), (13, .int kd), (11, .long bf), (10, .int nx), (9, .int kx), (7, .int on), (5, .ref ri), (4, .ref rb), (3, .ref rr), (2, .ref ra), (1, .ref (z 0)), (0, .ref b)]) hx hb dL_law_882 hl (by decide) rfl (fun ls hl => ?_)
                          refine lv_goto (tgt := 1227) hx hb dL_law_884 (by decide) ?_
                          exact kk S1 O av lv q1 _ _ ls _ _ 0 on x62 ⟨⟨F, hK, hE, hNc, hX, hbl⟩, ⟨hP, hO⟩, ⟨hD, hDO⟩, hdis, hS, ⟨hI, hR, hW, hL⟩, hO9⟩ (by omega) (Or.inl rfl) (by omega) (by omega) (by omega) (by omega) (lv_sub hl [2, 12, 13, 14, 0, 15, 1, 16, 17, 18, 19, 20, 21] rfl)
                  · exact absurd (by decide) c60
                · exact absurd (by decide) c59
              · obtain ⟨fl, b4, er, hx9⟩ := hp
                obtain ⟨lv, hR1⟩ : ∃ l9 : Nat → Nat, Rq z av l9 S1 (q_split o9 f9 q) := hx9.elim fun x h => ⟨_, h⟩
                clear hx9
                obtain ⟨q1, hq1⟩ : ∃ q9 : qS, q9 = q_split o9 f9 q := ⟨_, rfl⟩
                rw [← hq1] at hR1
                have hW1 : q_W q1 := by rw [hq1]; exact q_split_W hW hi2 hst fl b4
                have hL1 : q_L q1 := q_L_of hL (fun k hk i => by rw [hq1]; exact q_split_o (q_mem (P := fun k => k ∉ [12, 14, 21, 22, 23, 24, 25, 42, 43, 44, 73]) hk (by decide)))
                have fk : ∀ k, k ∈ [10, 11, 1] → ∀ i, q1 k i = q k i := fun k hk i => by rw [hq1]; exact q_split_o (q_mem (P := fun k => k ∉ [12, 14, 21, 22, 23, 24, 25, 42, 43, 44, 73]) hk (by decide))
                obtain ⟨f73, f21n, f23n, f12, f12o⟩ := q_split_f (q := q) (n := o9) (f := f9)
                rw [← hq1] at f73 f21n f23n f12 f12o
                have f21 : ∀ n, n ≠ q 73 0 → q1 21 n = q 21 n := fun n hn => by rw [hq1, q_split_p (Or.inl rfl) hn]; exact q_k (by decide)
                have f23 : q1 23 o9 = f9 := by rw [hq1, q_split_p (Or.inr (Or.inl rfl)) (by omega)]; exact q_at
                have f13 : ∀ i, q1 13 i = q 13 i := fun i => by rw [hq1]; exact q_split_o (by decide)
                have hU0 := q_U_art (q := q) (q' := q1) (a := q 21 o9) (by omega) (fun k hk i hi => by rcases q_m2 hk with rfl | rfl; exact f12o i hi; exact f13 i) (fun r => by rw [hq1]; exact q_split_o (by decide))
                rw [f12, f13] at hU0
                have nr58 : r58.toInt = ((q 73 0 : Nat) : Int) := kt_nI er (by omega)
                have hI := hI1
                have hR := hR1
                have hW := hW1
                have hL := hL1
                clear hro hroom h57 h56
                have h721 : q1 72 0 = 3 := hL.1
                have h72 : q1 72 0 ≤ 12 := by omega
                have h73 : q1 73 0 ≤ 12 := hW.1.1.2.1
                have hro : q1 42 0 ≤ 504 := q_room hW.1.1 hW.1.2.2.2.1 hW.1.2.2.2.2.1
                have hroom : q1 42 0 < 516 := by omega
                have h57 : q1 57 0 ≤ 20 := hW.1.2.2.2.2.1.1
                have h56 : q1 56 0 ≤ 1439 := hL.2.2.2.2.2.1
                have h25 : ∀ i, i < q1 73 0 → q1 25 i < 2 ^ 31 := fun i hi => by have := (hW.1.2.2.1 i hi).2.2.2; omega
                have hU5 : q_U q1 ≤ 5000 := by omega
                have w3j := hW.2.1 (q 21 o9) (by omega)
                refine lv_istore (lv' := [(17, .int r58), (22, .int x57), (21, .int r55), (20, .int x52), (19, .int r1), (18, .int 0), (16, .int od), (15, .int mm), (14, .int aa), (13, .int kd), (11, .long bf), (10, .int nx), (9, .int kx), (8, .int 1), (7, .int on), (6, .int un), (5, .ref ri), (4, .ref rb), (3, .ref rr), (2, .ref ra), (1, .ref (z 0)), (0, .ref b)]) hx hb dL_law_735 hl (by decide) rfl (fun ls hl => ?_)
                refine lv_iload hx hb dL_law_737 (lv_at hl 0 rfl) ?_
                refine lv_iconst (v := (-1)) hx hb dL_law_739 (by decide) ?_
                refine lv_icmp_ge (tgt := 747) hx hb dL_law_740 (by decide) (fun c68 => ?_) (fun c68 => ?_)
                · have d68 : (-1) ≤ r58.toInt := (kc_le (by decide : (-1 : Int32).toInt = -1) (rfl : r58.toInt = r58.toInt)).mp c68
                  refine lv_iconst (v := 0) hx hb dL_law_747 (by decide) ?_
                  refine lv_istore (lv' := [(18, .int 0), (17, .int r58), (22, .int x57), (21, .int r55), (20, .int x52), (19, .int r1), (16, .int od), (15, .int mm), (14, .int aa), (13, .int kd), (11, .long bf), (10, .int nx), (9, .int kx), (8, .int 1), (7, .int on), (6, .int un), (5, .ref ri), (4, .ref rb), (3, .ref rr), (2, .ref ra), (1, .ref (z 0)), (0, .ref b)]) hx hb dL_law_748 hl (by decide) rfl (fun ls hl => ?_)
                  refine lv_iload hx hb dL_law_750 (lv_at hl 1 rfl) ?_
                  refine lv_if_lt (tgt := 839) hx hb dL_law_752 (by decide) (fun c69 => ?_) (fun c69 => ?_)
                  · have d69 : r58.toInt < (0) := (kc_lt (rfl : r58.toInt = r58.toInt) (by decide : (0 : Int32).toInt = 0)).mp c69
                    exfalso; omega
                  · have d69 : ¬ (r58.toInt < (0)) := mt (kc_lt (rfl : r58.toInt = r58.toInt) (by decide : (0 : Int32).toInt = 0)).mpr c69
                    refine lv_aload hx hb dL_law_755 (lv_at hl 16 rfl) ?_
                    refine lv_iload hx hb dL_law_757 (lv_at hl 1 rfl) ?_
                    refine lv_iload hx hb dL_law_759 (lv_at hl 2 rfl) ?_
                    refine rt2_I F hK hP hO hD hDO hdis hS oi (by rw [li]; exact kt_in nr58 (by omega) (by decide)) dL_law_761 (fun H locs hP hO hDO hS => ?_)
                    rw [kt_clamp nr58 (by omega)] at hO hDO
                    have hdis : kdis S1 (setX O ri (upd (pX O ri) (q 73 0) x57)) := hdis
                    have hO9 := q_O_item hO9 fk rfl f73 f21 f21n (kt_of nx57 (by omega))
                    obtain ⟨⟨oa, la⟩, ⟨orr, lr⟩, ⟨obb, lb⟩, ⟨oi, li⟩, hne, hra, hrb, hri⟩ := id hO9
                    refine lv_iload hx hb dL_law_762 (lv_at hl 15 rfl) ?_
                    refine lv_iload hx hb dL_law_764 (lv_at hl 3 rfl) ?_
                    refine lv_isub hx hb dL_law_766 ?_
                    refine lv_topi (fun x70 ex70 => ?_)
                    have tx70 : x70.toInt = un.toInt - r55.toInt := kt_sub ex70 (rfl : un.toInt = un.toInt) (rfl : r55.toInt = r55.toInt) (by omega) (by omega)
                    refine lv_istore (lv' := [(6, .int x70), (18, .int 0), (17, .int r58), (22, .int x57), (21, .int r55), (20, .int x52), (19, .int r1), (16, .int od), (15, .int mm), (14, .int aa), (13, .int kd), (11, .long bf), (10, .int nx), (9, .int kx), (8, .int 1), (7, .int on), (5, .ref ri), (4, .ref rb), (3, .ref rr), (2, .ref ra), (1, .ref (z 0)), (0, .ref b)]) hx hb dL_law_767 hl (by decide) rfl (fun ls hl => ?_)
                    refine lv_iload hx hb dL_law_769 (lv_at hl 2 rfl) ?_
                    refine lv_iload hx hb dL_law_771 (lv_at hl 15 rfl) ?_
                    refine lv_icmp_ne (tgt := 830) hx hb dL_law_773 (by decide) (fun c71 => ?_) (fun c71 => ?_)
                    · have d71 : r58.toInt ≠ on.toInt := mt (kc_eq (rfl : r58.toInt = r58.toInt) (rfl : on.toInt = on.toInt)).mpr c71
                      exfalso; omega
                    · have d71 : r58.toInt = on.toInt := (kc_eq (rfl : r58.toInt = r58.toInt) (rfl : on.toInt = on.toInt)).mp c71
                      refine lv_iload hx hb dL_law_776 (lv_at hl 5 rfl) ?_
                      refine lv_iload hx hb dL_law_778 (lv_at hl 6 rfl) ?_
                      refine lv_icmp_ge (tgt := 830) hx hb dL_law_780 (by decide) (fun c72 => ?_) (fun c72 => ?_)
                      · have d72 : r1.toInt ≤ x52.toInt := (kc_le (rfl : r1.toInt = r1.toInt) (rfl : x52.toInt = x52.toInt)).mp c72
                        exfalso; omega
                      · have d72 : ¬ (r1.toInt ≤ x52.toInt) := mt (kc_le (rfl : r1.toInt = r1.toInt) (rfl : x52.toInt = x52.toInt)).mpr c72
                        refine lv_aload_n hx hb dL_law_783 rfl (lv_at hl 20 rfl) ?_
                        refine lv_iload hx hb dL_law_784 (lv_at hl 2 rfl) ?_
                        refine kcallhI (kSthW (n := 2) (As := [.ref (z 0), .int r58]) (rest := []) F hE hNc hK hP hD hS hA (kh_amount l g e0 S1 _ (z 0) r58 _ _ hI.ob0 (c_X5_amount_x l hl0 g e0 z S1 _ hI av lv q1 hR h73 r58) (fun E h => h.1)) kw_273 kw_274 kw_61 kw_275 (by decide +kernel) ⟨Nat.le_of_ble_eq_true rfl, Nat.le_of_ble_eq_true rfl⟩ rfl hl.1 rfl (Nat.le_of_ble_eq_true rfl) dL_law_786 ⟨(by show k0 + 1 + 1 + 3 + 1 ≤ 1072639; omega), (by show n0 + 6 + 6 + 27 + 6 ≤ 5883708; omega)⟩) rfl hD hS hA (fun r73 T1 H locs hp hP hq1x hq2x hq3x hf1 hS => ?_)
                        clear hq1x hq2x hq3x
                        have hO := kO_keep hO hdis hf1
                        obtain ⟨hT, nr73⟩ := kp_A (i := q 73 0) hp nr58 (by omega) (by omega) (by omega)
                        subst hT
                        clear hp
                        refine lv_iload hx hb dL_law_789 (lv_at hl 6 rfl) ?_
                        refine lv_iload hx hb dL_law_791 (lv_at hl 5 rfl) ?_
                        refine lv_isub hx hb dL_law_793 ?_
                        refine lv_topi (fun x74 ex74 => ?_)
                        have tx74 : x74.toInt = r1.toInt - x52.toInt := kt_sub ex74 (rfl : r1.toInt = r1.toInt) (rfl : x52.toInt = x52.toInt) (by omega) (by omega)
                        refine lv_icmp_ne (tgt := 830) hx hb dL_law_794 (by decide) (fun c75 => ?_) (fun c75 => ?_)
                        · have d75 : r73.toInt ≠ x74.toInt := mt (kc_eq (rfl : r73.toInt = r73.toInt) (rfl : x74.toInt = x74.toInt)).mpr c75
                          exfalso; omega
                        · have d75 : r73.toInt = x74.toInt := (kc_eq (rfl : r73.toInt = r73.toInt) (rfl : x74.toInt = x74.toInt)).mp c75
                          refine lv_aload_n hx hb dL_law_797 rfl (lv_at hl 20 rfl) ?_
                          refine lv_iload hx hb dL_law_798 (lv_at hl 7 rfl) ?_
                          refine kcallhI (kSthW (n := 2) (As := [.ref (z 0), .int od]) (rest := []) F hE hNc hK hP hD hS hA (kh_amount l g e0 S1 _ (z 0) od _ _ hI.ob0 (c_X5_amount_x l hl0 g e0 z S1 _ hI av lv q1 hR h73 od) (fun E h => h.1)) kw_273 kw_274 kw_61 kw_275 (by decide +kernel) ⟨Nat.le_of_ble_eq_true rfl, Nat.le_of_ble_eq_true rfl⟩ rfl hl.1 rfl (Nat.le_of_ble_eq_true rfl) dL_law_800 ⟨(by show k0 + 1 + 1 + 3 + 1 + 1 ≤ 1072639; omega), (by show n0 + 6 + 6 + 27 + 6 + 6 ≤ 5883708; omega)⟩) rfl hD hS hA (fun r76 T1 H locs hp hP hq1x hq2x hq3x hf1 hS => ?_)
                          clear hq1x hq2x hq3x
                          have hO := kO_keep hO hdis hf1
                          obtain ⟨hT, nr76⟩ := kp_A (i := o9) hp hod (by omega) (by omega) (by omega)
                          subst hT
                          clear hp
                          refine lv_iload hx hb dL_law_803 (lv_at hl 5 rfl) ?_
                          refine lv_icmp_ne (tgt := 830) hx hb dL_law_805 (by decide) (fun c77 => ?_) (fun c77 => ?_)
                          · have d77 : r76.toInt ≠ x52.toInt := mt (kc_eq (rfl : r76.toInt = r76.toInt) (rfl : x52.toInt = x52.toInt)).mpr c77
                            exfalso; omega
                          · have d77 : r76.toInt = x52.toInt := (kc_eq (rfl : r76.toInt = r76.toInt) (rfl : x52.toInt = x52.toInt)).mp c77
                            refine lv_aload_n hx hb dL_law_808 rfl (lv_at hl 20 rfl) ?_
                            refine lv_iload hx hb dL_law_809 (lv_at hl 3 rfl) ?_
                            refine kcallhI (kSthW (n := 2) (As := [.ref (z 0), .int x57]) (rest := []) F hE hNc hK hP hD hS hA (kh_stock l g e0 S1 _ (z 0) x57 _ _ hI.ob0 (c_X5_stock_x l hl0 g e0 z S1 _ hI av lv q1 hR h72 x57) (fun E h => h.1)) kw_188 kw_189 kw_61 kw_190 (by decide +kernel) ⟨Nat.le_of_ble_eq_true rfl, Nat.le_of_ble_eq_true rfl⟩ rfl hl.1 rfl (Nat.le_of_ble_eq_true rfl) dL_law_811 ⟨(by show k0 + 1 + 1 + 3 + 1 + 1 + 1 ≤ 1072639; omega), (by show n0 + 6 + 6 + 27 + 6 + 6 + 6 ≤ 5883708; omega)⟩) rfl hD hS hA (fun r78 T1 H locs hp hP hq1x hq2x hq3x hf1 hS => ?_)
                            clear hq1x hq2x hq3x
                            have hO := kO_keep hO hdis hf1
                            obtain ⟨hT, nr78⟩ := kp_A (i := q 21 o9) hp nx57 (by omega) (by omega) (by omega)
                            subst hT
                            clear hp
                            refine lv_if_ne (tgt := 830) hx hb dL_law_814 (by decide) (fun c79 => ?_) (fun c79 => ?_)
                            · have d79 : r78.toInt ≠ (0) := mt (kc_eq (rfl : r78.toInt = r78.toInt) (by decide : (0 : Int32).toInt = 0)).mpr c79
                              exfalso; omega
                            · have d79 : r78.toInt = (0) := (kc_eq (rfl : r78.toInt = r78.toInt) (by decide : (0 : Int32).toInt = 0)).mp c79
                              refine lv_aload_n hx hb dL_law_817 rfl (lv_at hl 20 rfl) ?_
                              refine lv_iload hx hb dL_law_818 (lv_at hl 3 rfl) ?_
                              refine kcallhI (kSthW (n := 2) (As := [.ref (z 0), .int x57]) (rest := []) F hE hNc hK hP hD hS hA (kh_promised l g e0 S1 _ (z 0) x57 _ _ hI.ob0 (c_X5_promised_x l hl0 g e0 z S1 _ hI av lv q1 hR h72 x57) (fun E h => h.1)) kw_228 kw_229 kw_61 kw_230 (by decide +kernel) ⟨Nat.le_of_ble_eq_true rfl, Nat.le_of_ble_eq_true rfl⟩ rfl hl.1 rfl (Nat.le_of_ble_eq_true rfl) dL_law_820 ⟨(by show k0 + 1 + 1 + 3 + 1 + 1 + 1 + 1 ≤ 1072639; omega), (by show n0 + 6 + 6 + 27 + 6 + 6 + 6 + 6 ≤ 5883708; omega)⟩) rfl hD hS hA (fun r80 T1 H locs hp hP hq1x hq2x hq3x hf1 hS => ?_)
                              clear hq1x hq2x hq3x
                              have hO := kO_keep hO hdis hf1
                              obtain ⟨hT, nr80⟩ := kp_A (i := q 21 o9) hp nx57 (by omega) (by omega) (by omega)
                              subst hT
                              clear hp
                              refine lv_if_ne (tgt := 830) hx hb dL_law_823 (by decide) (fun c81 => ?_) (fun c81 => ?_)
                              · have d81 : r80.toInt ≠ (0) := mt (kc_eq (rfl : r80.toInt = r80.toInt) (by decide : (0 : Int32).toInt = 0)).mpr c81
                                exfalso; omega
                              · have d81 : r80.toInt = (0) := (kc_eq (rfl : r80.toInt = r80.toInt) (by decide : (0 : Int32).toInt = 0)).mp c81
                                refine lv_iconst (v := 1) hx hb dL_law_826 (by decide) ?_
                                refine lv_goto (tgt := 831) hx hb dL_law_827 (by decide) ?_
                                refine lv_istore (lv' := [(8, .int 1), (6, .int x70), (18, .int 0), (17, .int r58), (22, .int x57), (21, .int r55), (20, .int x52), (19, .int r1), (16, .int od), (15, .int mm), (14, .int aa), (13, .int kd), (11, .long bf), (10, .int nx), (9, .int kx), (7, .int on), (5, .ref ri), (4, .ref rb), (3, .ref rr), (2, .ref ra), (1, .ref (z 0)), (0, .ref b)]) hx hb dL_law_831 hl (by decide) rfl (fun ls hl => ?_)
                                obtain ⟨x82, ex82⟩ : ∃ y : Int32, y = on + 1 := ⟨_, rfl⟩
                                refine lv_iinc (v := x82) (lv' := [(7, .int x82), (8, .int 1), (6, .int x70), (18, .int 0), (17, .int r58), (22, .int x57), (21, .int r55), (20, .int x52), (19, .int r1), (16, .int od), (15, .int mm), (14, .int aa), (13, .int kd), (11, .long bf), (10, .int nx), (9, .int kx), (5, .ref ri), (4, .ref rb), (3, .ref rr), (2, .ref ra), (1, .ref (z 0)), (0, .ref b)]) hx hb dL_law_833 hl (k := 15) rfl (by rw [ex82]; rfl) (by decide) rfl (fun ls hl => ?_)
                                have tx82 : x82.toInt = on.toInt + 1 := kt_add ex82 (rfl : on.toInt = on.toInt) (by decide) (by omega) (by omega)
                                refine lv_goto (tgt := 884) hx hb dL_law_836 (by decide) ?_
                                refine lv_goto (tgt := 1227) hx hb dL_law_884 (by decide) ?_
                                exact kk S1 (setX O ri (upd (pX O ri) (q 73 0) x57)) av lv q1 _ _ ls _ _ 0 x82 x70 ⟨⟨F, hK, hE, hNc, hX, hbl⟩, ⟨hP, hO⟩, ⟨hD, hDO⟩, hdis, hS, ⟨hI, hR, hW, hL⟩, hO9⟩ (by omega) (Or.inl rfl) (by omega) (by omega) (by omega) (by omega) (lv_sub hl [3, 13, 14, 15, 1, 0, 2, 16, 17, 18, 19, 20, 21] rfl)
                · have d68 : ¬ ((-1) ≤ r58.toInt) := mt (kc_le (by decide : (-1 : Int32).toInt = -1) (rfl : r58.toInt = r58.toInt)).mpr c68
                  exfalso; omega
              refine lv_iconst (v := 1) hx hb dL_law_743 (by decide) ?_
              refine lv_goto (tgt := 748) hx hb dL_law_744 (by decide) ?_
              refine lv_istore (lv' := [(18, .int 1), (17, .int r58), (22, .int x57), (21, .int r55), (20, .int x52), (19, .int r1), (16, .int od), (15, .int mm), (14, .int aa), (13, .int kd), (11, .long bf), (10, .int nx), (9, .int kx), (8, .int 1), (7, .int on), (6, .int un), (5, .ref ri), (4, .ref rb), (3, .ref rr), (2, .ref ra), (1, .ref (z 0)), (0, .ref b)]) hx hb dL_law_748 hl (by decide) rfl (fun ls hl => ?_)
              refine lv_iload hx hb dL_law_750 (lv_at hl 1 rfl) ?_
              refine lv_if_lt (tgt := 839) hx hb dL_law_752 (by decide) (fun c83 => ?_) (fun c83 => ?_)
              · have d83 : r58.toInt < (0) := (kc_lt (rfl : r58.toInt = r58.toInt) (by decide : (0 : Int32).toInt = 0)).mp c83
                exfalso; omega
              · have d83 : ¬ (r58.toInt < (0)) := mt (kc_lt (rfl : r58.toInt = r58.toInt) (by decide : (0 : Int32).toInt = 0)).mpr c83
                refine lv_aload hx hb dL_law_755 (lv_at hl 16 rfl) ?_
                refine lv_iload hx hb dL_law_757 (lv_at hl 1 rfl) ?_
                refine lv_iload hx hb dL_law_759 (lv_at hl 2 rfl) ?_
                refine rt2_I F hK hP hO hD hDO hdis hS oi (by rw [li]; exact kt_in nr58 (by omega) (by decide)) dL_law_761 (fun H locs hP hO hDO hS => ?_)
                rw [kt_clamp nr58 (by omega)] at hO hDO
                have hdis : kdis S1 (setX O ri (upd (pX O ri) (q 73 0) x57)) := hdis
                have hO9 := q_O_item hO9 fk rfl f73 f21 f21n (kt_of nx57 (by omega))
                obtain ⟨⟨oa, la⟩, ⟨orr, lr⟩, ⟨obb, lb⟩, ⟨oi, li⟩, hne, hra, hrb, hri⟩ := id hO9
                refine lv_iload hx hb dL_law_762 (lv_at hl 15 rfl) ?_
                refine lv_iload hx hb dL_law_764 (lv_at hl 3 rfl) ?_
                refine lv_isub hx hb dL_law_766 ?_
                refine lv_topi (fun x84 ex84 => ?_)
                have tx84 : x84.toInt = un.toInt - r55.toInt := kt_sub ex84 (rfl : un.toInt = un.toInt) (rfl : r55.toInt = r55.toInt) (by omega) (by omega)
                refine lv_istore (lv' := [(6, .int x84), (18, .int 1), (17, .int r58), (22, .int x57), (21, .int r55), (20, .int x52), (19, .int r1), (16, .int od), (15, .int mm), (14, .int aa), (13, .int kd), (11, .long bf), (10, .int nx), (9, .int kx), (8, .int 1), (7, .int on), (5, .ref ri), (4, .ref rb), (3, .ref rr), (2, .ref ra), (1, .ref (z 0)), (0, .ref b)]) hx hb dL_law_767 hl (by decide) rfl (fun ls hl => ?_)
                refine lv_iload hx hb dL_law_769 (lv_at hl 2 rfl) ?_
                refine lv_iload hx hb dL_law_771 (lv_at hl 15 rfl) ?_
                refine lv_icmp_ne (tgt := 830) hx hb dL_law_773 (by decide) (fun c85 => ?_) (fun c85 => ?_)
                · have d85 : r58.toInt ≠ on.toInt := mt (kc_eq (rfl : r58.toInt = r58.toInt) (rfl : on.toInt = on.toInt)).mpr c85
                  exfalso; omega
                · have d85 : r58.toInt = on.toInt := (kc_eq (rfl : r58.toInt = r58.toInt) (rfl : on.toInt = on.toInt)).mp c85
                  refine lv_iload hx hb dL_law_776 (lv_at hl 5 rfl) ?_
                  refine lv_iload hx hb dL_law_778 (lv_at hl 6 rfl) ?_
                  refine lv_icmp_ge (tgt := 830) hx hb dL_law_780 (by decide) (fun c86 => ?_) (fun c86 => ?_)
                  · have d86 : r1.toInt ≤ x52.toInt := (kc_le (rfl : r1.toInt = r1.toInt) (rfl : x52.toInt = x52.toInt)).mp c86
                    exfalso; omega
                  · have d86 : ¬ (r1.toInt ≤ x52.toInt) := mt (kc_le (rfl : r1.toInt = r1.toInt) (rfl : x52.toInt = x52.toInt)).mpr c86
                    refine lv_aload_n hx hb dL_law_783 rfl (lv_at hl 20 rfl) ?_
                    refine lv_iload hx hb dL_law_784 (lv_at hl 2 rfl) ?_
                    refine kcallhI (kSthW (n := 2) (As := [.ref (z 0), .int r58]) (rest := []) F hE hNc hK hP hD hS hA (kh_amount l g e0 S1 _ (z 0) r58 _ _ hI.ob0 (c_X5_amount_x l hl0 g e0 z S1 _ hI av lv q1 hR h73 r58) (fun E h => h.1)) kw_273 kw_274 kw_61 kw_275 (by decide +kernel) ⟨Nat.le_of_ble_eq_true rfl, Nat.le_of_ble_eq_true rfl⟩ rfl hl.1 rfl (Nat.le_of_ble_eq_true rfl) dL_law_786 ⟨(by show k0 + 1 + 1 + 3 + 1 ≤ 1072639; omega), (by show n0 + 6 + 6 + 27 + 6 ≤ 5883708; omega)⟩) rfl hD hS hA (fun r87 T1 H locs hp hP hq1x hq2x hq3x hf1 hS => ?_)
                    clear hq1x hq2x hq3x
                    have hO := kO_keep hO hdis hf1
                    obtain ⟨hT, nr87⟩ := kp_A (i := q 73 0) hp nr58 (by omega) (by omega) (by omega)
                    subst hT
                    clear hp
                    refine lv_iload hx hb dL_law_789 (lv_at hl 6 rfl) ?_
                    refine lv_iload hx hb dL_law_791 (lv_at hl 5 rfl) ?_
                    refine lv_isub hx hb dL_law_793 ?_
                    refine lv_topi (fun x88 ex88 => ?_)
                    have tx88 : x88.toInt = r1.toInt - x52.toInt := kt_sub ex88 (rfl : r1.toInt = r1.toInt) (rfl : x52.toInt = x52.toInt) (by omega) (by omega)
                    refine lv_icmp_ne (tgt := 830) hx hb dL_law_794 (by decide) (fun c89 => ?_) (fun c89 => ?_)
                    · have d89 : r87.toInt ≠ x88.toInt := mt (kc_eq (rfl : r87.toInt = r87.toInt) (rfl : x88.toInt = x88.toInt)).mpr c89
                      exfalso; omega
                    · have d89 : r87.toInt = x88.toInt := (kc_eq (rfl : r87.toInt = r87.toInt) (rfl : x88.toInt = x88.toInt)).mp c89
                      refine lv_aload_n hx hb dL_law_797 rfl (lv_at hl 20 rfl) ?_
                      refine lv_iload hx hb dL_law_798 (lv_at hl 7 rfl) ?_
                      refine kcallhI (kSthW (n := 2) (As := [.ref (z 0), .int od]) (rest := []) F hE hNc hK hP hD hS hA (kh_amount l g e0 S1 _ (z 0) od _ _ hI.ob0 (c_X5_amount_x l hl0 g e0 z S1 _ hI av lv q1 hR h73 od) (fun E h => h.1)) kw_273 kw_274 kw_61 kw_275 (by decide +kernel) ⟨Nat.le_of_ble_eq_true rfl, Nat.le_of_ble_eq_true rfl⟩ rfl hl.1 rfl (Nat.le_of_ble_eq_true rfl) dL_law_800 ⟨(by show k0 + 1 + 1 + 3 + 1 + 1 ≤ 1072639; omega), (by show n0 + 6 + 6 + 27 + 6 + 6 ≤ 5883708; omega)⟩) rfl hD hS hA (fun r90 T1 H locs hp hP hq1x hq2x hq3x hf1 hS => ?_)
                      clear hq1x hq2x hq3x
                      have hO := kO_keep hO hdis hf1
                      obtain ⟨hT, nr90⟩ := kp_A (i := o9) hp hod (by omega) (by omega) (by omega)
                      subst hT
                      clear hp
                      refine lv_iload hx hb dL_law_803 (lv_at hl 5 rfl) ?_
                      refine lv_icmp_ne (tgt := 830) hx hb dL_law_805 (by decide) (fun c91 => ?_) (fun c91 => ?_)
                      · have d91 : r90.toInt ≠ x52.toInt := mt (kc_eq (rfl : r90.toInt = r90.toInt) (rfl : x52.toInt = x52.toInt)).mpr c91
                        exfalso; omega
                      · have d91 : r90.toInt = x52.toInt := (kc_eq (rfl : r90.toInt = r90.toInt) (rfl : x52.toInt = x52.toInt)).mp c91
                        refine lv_aload_n hx hb dL_law_808 rfl (lv_at hl 20 rfl) ?_
                        refine lv_iload hx hb dL_law_809 (lv_at hl 3 rfl) ?_
                        refine kcallhI (kSthW (n := 2) (As := [.ref (z 0), .int x57]) (rest := []) F hE hNc hK hP hD hS hA (kh_stock l g e0 S1 _ (z 0) x57 _ _ hI.ob0 (c_X5_stock_x l hl0 g e0 z S1 _ hI av lv q1 hR h72 x57) (fun E h => h.1)) kw_188 kw_189 kw_61 kw_190 (by decide +kernel) ⟨Nat.le_of_ble_eq_true rfl, Nat.le_of_ble_eq_true rfl⟩ rfl hl.1 rfl (Nat.le_of_ble_eq_true rfl) dL_law_811 ⟨(by show k0 + 1 + 1 + 3 + 1 + 1 + 1 ≤ 1072639; omega), (by show n0 + 6 + 6 + 27 + 6 + 6 + 6 ≤ 5883708; omega)⟩) rfl hD hS hA (fun r92 T1 H locs hp hP hq1x hq2x hq3x hf1 hS => ?_)
                        clear hq1x hq2x hq3x
                        have hO := kO_keep hO hdis hf1
                        obtain ⟨hT, nr92⟩ := kp_A (i := q 21 o9) hp nx57 (by omega) (by omega) (by omega)
                        subst hT
                        clear hp
                        refine lv_if_ne (tgt := 830) hx hb dL_law_814 (by decide) (fun c93 => ?_) (fun c93 => ?_)
                        · have d93 : r92.toInt ≠ (0) := mt (kc_eq (rfl : r92.toInt = r92.toInt) (by decide : (0 : Int32).toInt = 0)).mpr c93
                          exfalso; omega
                        · have d93 : r92.toInt = (0) := (kc_eq (rfl : r92.toInt = r92.toInt) (by decide : (0 : Int32).toInt = 0)).mp c93
                          refine lv_aload_n hx hb dL_law_817 rfl (lv_at hl 20 rfl) ?_
                          refine lv_iload hx hb dL_law_818 (lv_at hl 3 rfl) ?_
                          refine kcallhI (kSthW (n := 2) (As := [.ref (z 0), .int x57]) (rest := []) F hE hNc hK hP hD hS hA (kh_promised l g e0 S1 _ (z 0) x57 _ _ hI.ob0 (c_X5_promised_x l hl0 g e0 z S1 _ hI av lv q1 hR h72 x57) (fun E h => h.1)) kw_228 kw_229 kw_61 kw_230 (by decide +kernel) ⟨Nat.le_of_ble_eq_true rfl, Nat.le_of_ble_eq_true rfl⟩ rfl hl.1 rfl (Nat.le_of_ble_eq_true rfl) dL_law_820 ⟨(by show k0 + 1 + 1 + 3 + 1 + 1 + 1 + 1 ≤ 1072639; omega), (by show n0 + 6 + 6 + 27 + 6 + 6 + 6 + 6 ≤ 5883708; omega)⟩) rfl hD hS hA (fun r94 T1 H locs hp hP hq1x hq2x hq3x hf1 hS => ?_)
                          clear hq1x hq2x hq3x
                          have hO := kO_keep hO hdis hf1
                          obtain ⟨hT, nr94⟩ := kp_A (i := q 21 o9) hp nx57 (by omega) (by omega) (by omega)
                          subst hT
                          clear hp
                          refine lv_if_ne (tgt := 830) hx hb dL_law_823 (by decide) (fun c95 => ?_) (fun c95 => ?_)
                          · have d95 : r94.toInt ≠ (0) := mt (kc_eq (rfl : r94.toInt = r94.toInt) (by decide : (0 : Int32).toInt = 0)).mpr c95
                            exfalso; omega
                          · have d95 : r94.toInt = (0) := (kc_eq (rfl : r94.toInt = r94.toInt) (by decide : (0 : Int32).toInt = 0)).mp c95
                            refine lv_iconst (v := 1) hx hb dL_law_826 (by decide) ?_
                            refine lv_goto (tgt := 831) hx hb dL_law_827 (by decide) ?_
                            refine lv_istore (lv' := [(8, .int 1), (6, .int x84), (18, .int 1), (17, .int r58), (22, .int x57), (21, .int r55), (20, .int x52), (19, .int r1), (16, .int od), (15, .int mm), (14, .int aa), (13, .int kd), (11, .long bf), (10, .int nx), (9, .int kx), (7, .int on), (5, .ref ri), (4, .ref rb), (3, .ref rr), (2, .ref ra), (1, .ref (z 0)), (0, .ref b)]) hx hb dL_law_831 hl (by decide) rfl (fun ls hl => ?_)
                            obtain ⟨x96, ex96⟩ : ∃ y : Int32, y = on + 1 := ⟨_, rfl⟩
                            refine lv_iinc (v := x96) (lv' := [(7, .int x96), (8, .int 1), (6, .int x84), (18, .int 1), (17, .int r58), (22, .int x57), (21, .int r55), (20, .int x52), (19, .int r1), (16, .int od), (15, .int mm), (14, .int aa), (13, .int kd), (11, .long bf), (10, .int nx), (9, .int kx), (5, .ref ri), (4, .ref rb), (3, .ref rr), (2, .ref ra), (1, .ref (z 0)), (0, .ref b)]) hx hb dL_law_833 hl (k := 15) rfl (by rw [ex96]; rfl) (by decide) rfl (fun ls hl => ?_)
                            have tx96 : x96.toInt = on.toInt + 1 := kt_add ex96 (rfl : on.toInt = on.toInt) (by decide) (by omega) (by omega)
                            refine lv_goto (tgt := 884) hx hb dL_law_836 (by decide) ?_
                            refine lv_goto (tgt := 1227) hx hb dL_law_884 (by decide) ?_
                            exact kk S1 (setX O ri (upd (pX O ri) (q 73 0) x57)) av lv q1 _ _ ls _ _ 1 x96 x84 ⟨⟨F, hK, hE, hNc, hX, hbl⟩, ⟨hP, hO⟩, ⟨hD, hDO⟩, hdis, hS, ⟨hI, hR, hW, hL⟩, hO9⟩ (by omega) (Or.inr ⟨rfl, rfl⟩) (by omega) (by omega) (by omega) (by omega) (lv_sub hl [3, 13, 14, 15, 1, 0, 2, 16, 17, 18, 19, 20, 21] rfl)
            · have hO := hO9x
              obtain ⟨hT, hrx⟩ : S = S1 ∧ r58.toInt ≤ -75 := by rcases hp with ⟨e, -, h⟩ | ⟨e, -, h⟩ | ⟨e, -, h⟩ | ⟨e, -, h⟩ <;> exact ⟨h.symm, by rw [e]; decide⟩
              subst hT
              clear hp
              refine lv_istore (lv' := [(17, .int r58), (22, .int x57), (21, .int r55), (20, .int x52), (19, .int r1), (18, .int 0), (16, .int od), (15, .int mm), (14, .int aa), (13, .int kd), (11, .long bf), (10, .int nx), (9, .int kx), (8, .int 1), (7, .int on), (6, .int un), (5, .ref ri), (4, .ref rb), (3, .ref rr), (2, .ref ra), (1, .ref (z 0)), (0, .ref b)]) hx hb dL_law_735 hl (by decide) rfl (fun ls hl => ?_)
              refine lv_iload hx hb dL_law_737 (lv_at hl 0 rfl) ?_
              refine lv_iconst (v := (-1)) hx hb dL_law_739 (by decide) ?_
              refine lv_icmp_ge (tgt := 747) hx hb dL_law_740 (by decide) (fun c97 => ?_) (fun c97 => ?_)
              · have d97 : (-1) ≤ r58.toInt := (kc_le (by decide : (-1 : Int32).toInt = -1) (rfl : r58.toInt = r58.toInt)).mp c97
                exfalso; omega
              · have d97 : ¬ ((-1) ≤ r58.toInt) := mt (kc_le (by decide : (-1 : Int32).toInt = -1) (rfl : r58.toInt = r58.toInt)).mpr c97
                refine lv_iconst (v := 1) hx hb dL_law_743 (by decide) ?_
                refine lv_goto (tgt := 748) hx hb dL_law_744 (by decide) ?_
                refine lv_istore (lv' := [(18, .int 1), (17, .int r58), (22, .int x57), (21, .int r55), (20, .int x52), (19, .int r1), (16, .int od), (15, .int mm), (14, .int aa), (13, .int kd), (11, .long bf), (10, .int nx), (9, .int kx), (8, .int 1), (7, .int on), (6, .int un), (5, .ref ri), (4, .ref rb), (3, .ref rr), (2, .ref ra), (1, .ref (z 0)), (0, .ref b)]) hx hb dL_law_748 hl (by decide) rfl (fun ls hl => ?_)
                refine lv_iload hx hb dL_law_750 (lv_at hl 1 rfl) ?_
                refine lv_if_lt (tgt := 839) hx hb dL_law_752 (by decide) (fun c98 => ?_) (fun c98 => ?_)
                · have d98 : r58.toInt < (0) := (kc_lt (rfl : r58.toInt = r58.toInt) (by decide : (0 : Int32).toInt = 0)).mp c98
                  refine lv_iload hx hb dL_law_839 (lv_at hl 1 rfl) ?_
                  refine lv_iconst (v := (-1)) hx hb dL_law_841 (by decide) ?_
                  refine lv_icmp_ne (tgt := 884) hx hb dL_law_842 (by decide) (fun c99 => ?_) (fun c99 => ?_)
                  · have d99 : r58.toInt ≠ (-1) := mt (kc_eq (rfl : r58.toInt = r58.toInt) (by decide : (-1 : Int32).toInt = -1)).mpr c99
                    refine lv_goto (tgt := 1227) hx hb dL_law_884 (by decide) ?_
                    exact kk S O av lv q _ _ ls _ _ 1 on un ⟨⟨F, hK, hE, hNc, hX, hbl⟩, ⟨hP, hO⟩, ⟨hD, hDO⟩, hdis, hS, ⟨hI, hR, hW, hL⟩, hO9⟩ (by omega) (Or.inr ⟨rfl, rfl⟩) (by omega) (by omega) (by omega) (by omega) (lv_sub hl [0, 10, 11, 12, 13, 14, 15, 16, 17, 18, 19, 20, 21] rfl)
                  · have d99 : r58.toInt = (-1) := (kc_eq (rfl : r58.toInt = r58.toInt) (by decide : (-1 : Int32).toInt = -1)).mp c99
                    exfalso; omega
                · have d98 : ¬ (r58.toInt < (0)) := mt (kc_lt (rfl : r58.toInt = r58.toInt) (by decide : (0 : Int32).toInt = 0)).mpr c98
                  exfalso; omega
      · have d51 : ¬ ((1) ≤ r1.toInt) := mt (kc_le (by decide : (1 : Int32).toInt = 1) (rfl : r1.toInt = r1.toInt)).mpr c51
        refine lv_iload hx hb dL_law_675 (lv_at hl 0 rfl) ?_
        refine lv_goto (tgt := 685) hx hb dL_law_677 (by decide) ?_
        refine lv_istore (lv' := [(20, .int r1), (19, .int r1), (18, .int 0), (17, .int 0), (16, .int od), (15, .int mm), (14, .int aa), (13, .int kd), (11, .long bf), (10, .int nx), (9, .int kx), (8, .int 1), (7, .int on), (6, .int un), (5, .ref ri), (4, .ref rb), (3, .ref rr), (2, .ref ra), (1, .ref (z 0)), (0, .ref b)]) hx hb dL_law_685 hl (by decide) rfl (fun ls hl => ?_)
        refine lv_iload hx hb dL_law_687 (lv_at hl 4 rfl) ?_
        refine lv_iload hx hb dL_law_689 (lv_at hl 12 rfl) ?_
        refine lv_icmp_ge (tgt := 706) hx hb dL_law_691 (by decide) (fun c100 => ?_) (fun c100 => ?_)
        · have d100 : on.toInt ≤ od.toInt := (kc_le (rfl : on.toInt = on.toInt) (rfl : od.toInt = od.toInt)).mp c100
          exfalso; omega
        · have d100 : ¬ (on.toInt ≤ od.toInt) := mt (kc_le (rfl : on.toInt = on.toInt) (rfl : od.toInt = od.toInt)).mpr c100
          refine lv_aload_n hx hb dL_law_694 rfl (lv_at hl 18 rfl) ?_
          refine lv_aload hx hb dL_law_695 (lv_at hl 14 rfl) ?_
          refine lv_iload hx hb dL_law_697 (lv_at hl 4 rfl) ?_
          refine rd_I F hK hO oi (by rw [li]; exact kt_in hod (by omega) (by decide)) dL_law_699 ?_
          refine lv_topi (fun x101 ex101 => ?_)
          have nx101 : x101.toInt = ((q 21 o9 : Nat) : Int) := kt_nI (by rw [ex101, kt_clamp hod (by omega)]; exact hri o9 (by omega)) (by omega)
          refine kcallhI (kSthW (n := 2) (As := [.ref (z 0), .int x101]) (rest := []) F hE hNc hK hP hD hS hA (kh_stock l g e0 S _ (z 0) x101 _ _ hI.ob0 (c_X5_stock_x l hl0 g e0 z S _ hI av lv q hR h72 x101) (fun E h => h.1)) kw_188 kw_189 kw_61 kw_190 (by decide +kernel) ⟨Nat.le_of_ble_eq_true rfl, Nat.le_of_ble_eq_true rfl⟩ rfl hl.1 rfl (Nat.le_of_ble_eq_true rfl) dL_law_700 ⟨(by show k0 + 1 + 1 ≤ 1072639; omega), (by show n0 + 6 + 6 ≤ 5883708; omega)⟩) rfl hD hS hA (fun r102 T1 H locs hp hP hq1x hq2x hq3x hf1 hS => ?_)
          clear hq1x hq2x hq3x
          have hO := kO_keep hO hdis hf1
          obtain ⟨hT, nr102⟩ := kp_A (i := q 21 o9) hp nx101 (by omega) (by omega) (by omega)
          subst hT
          clear hp
          refine lv_goto (tgt := 707) hx hb dL_law_703 (by decide) ?_
          refine lv_istore (lv' := [(21, .int r102), (20, .int r1), (19, .int r1), (18, .int 0), (17, .int 0), (16, .int od), (15, .int mm), (14, .int aa), (13, .int kd), (11, .long bf), (10, .int nx), (9, .int kx), (8, .int 1), (7, .int on), (6, .int un), (5, .ref ri), (4, .ref rb), (3, .ref rr), (2, .ref ra), (1, .ref (z 0)), (0, .ref b)]) hx hb dL_law_707 hl (by decide) rfl (fun ls hl => ?_)
          refine lv_iload hx hb dL_law_709 (lv_at hl 5 rfl) ?_
          refine lv_iload hx hb dL_law_711 (lv_at hl 13 rfl) ?_
          refine lv_icmp_ge (tgt := 724) hx hb dL_law_713 (by decide) (fun c103 => ?_) (fun c103 => ?_)
          · have d103 : on.toInt ≤ od.toInt := (kc_le (rfl : on.toInt = on.toInt) (rfl : od.toInt = od.toInt)).mp c103
            exfalso; omega
          · have d103 : ¬ (on.toInt ≤ od.toInt) := mt (kc_le (rfl : on.toInt = on.toInt) (rfl : od.toInt = od.toInt)).mpr c103
            refine lv_aload hx hb dL_law_716 (lv_at hl 15 rfl) ?_
            refine lv_iload hx hb dL_law_718 (lv_at hl 5 rfl) ?_
            refine rd_I F hK hO oi (by rw [li]; exact kt_in hod (by omega) (by decide)) dL_law_720 ?_
            refine lv_topi (fun x104 ex104 => ?_)
            have nx104 : x104.toInt = ((q 21 o9 : Nat) : Int) := kt_nI (by rw [ex104, kt_clamp hod (by omega)]; exact hri o9 (by omega)) (by omega)
            refine lv_goto (tgt := 725) hx hb dL_law_721 (by decide) ?_
            refine lv_istore (lv' := [(22, .int x104), (21, .int r102), (20, .int r1), (19, .int r1), (18, .int 0), (17, .int 0), (16, .int od), (15, .int mm), (14, .int aa), (13, .int kd), (11, .long bf), (10, .int nx), (9, .int kx), (8, .int 1), (7, .int on), (6, .int un), (5, .ref ri), (4, .ref rb), (3, .ref rr), (2, .ref ra), (1, .ref (z 0)), (0, .ref b)]) hx hb dL_law_725 hl (by decide) rfl (fun ls hl => ?_)
            refine lv_aload_n hx hb dL_law_727 rfl (lv_at hl 20 rfl) ?_
            refine lv_iload hx hb dL_law_728 (lv_at hl 6 rfl) ?_
            refine lv_iload hx hb dL_law_730 (lv_at hl 2 rfl) ?_
            refine kcallhI (kSthW (n := 3) (As := [.ref (z 0), .int od, .int r1]) (rest := []) F hE hNc hK hP hD hS hA (kh_pick l g e0 S _ (z 0) od r1 _ _ hI.ob0 (c_X5_pick_x l hl0 g e0 z S _ hI av lv q hR hW od r1) (fun E h => h)) kw_396 kw_397 kw_61 kw_398 (by decide +kernel) ⟨Nat.le_of_ble_eq_true rfl, Nat.le_of_ble_eq_true rfl⟩ rfl hl.1 rfl (Nat.le_of_ble_eq_true rfl) dL_law_732 ⟨(by show k0 + 1 + 1 + 3 ≤ 1072639; omega), (by show n0 + 6 + 6 + 27 ≤ 5883708; omega)⟩) rfl hD hS hA (fun r105 S1 H locs hp hP hDs hD1 hq3x hf1 hS => ?_)
            clear hq3x
            have hO9x := kO_keep hO hdis hf1
            have hdis9 := kdis_keep hO hdis hDs
            rcases hp with hp | hp
            · have hO := hO9x
              have hdis := hdis9
              have hD := hD1
              obtain ⟨hI1, i2, f9, hi2, ei2, ef, hf9, hst, hp⟩ := hp
              obtain rfl : o9 = i2 := nI_inj (by omega) (by omega) ((kt_of hod (by omega)).symm.trans ei2)
              have nf : r1.toInt = ((f9 : Nat) : Int) := kt_nI ef (by omega)
              have k14x := k14 hW hi2 hst
              have w3i := hW.2.1 (q 21 o9) h1.1
              have u13 := q_U13 (q := q) (a := q 21 o9) (by omega)
              rcases hp with hp | hp
              · obtain ⟨fe, er, hR1⟩ := hp
                subst er
                obtain ⟨q1, hq1⟩ : ∃ q9 : qS, q9 = q_pickA o9 q := ⟨_, rfl⟩
                rw [← hq1] at hR1
                have hW1 : q_W q1 := by rw [hq1]; exact q_pickA_W hW hi2 hst (by omega)
                have hL1 : q_L q1 := q_L_of hL (fun k hk i => by rw [hq1]; exact q_pickA_o (q_mem (P := fun k => k ∉ [12, 14, 24, 42, 43, 44]) hk (by decide)))
                have hO9 := q_O_of (q' := q1) hO9 (fun k hk i => by rw [hq1]; exact q_pickA_o (q_mem (P := fun k => k ∉ [12, 14, 24, 42, 43, 44]) hk (by decide)))
                have f24 : q1 24 o9 = 107 := by rw [hq1]; exact q_pickA_f.1
                have f12 : q1 12 (q 21 o9) = q 12 (q 21 o9) - q 23 o9 := by rw [hq1]; exact q_pickA_f.2.1
                have f13 : ∀ i, q1 13 i = q 13 i := fun i => by rw [hq1]; exact q_pickA_o (by decide)
                have hU0 := q_U_art (q := q) (q' := q1) (a := q 21 o9) (by omega) (fun k hk i hi => by rcases q_m2 hk with rfl | rfl; rw [hq1]; exact q_pickA_f.2.2 i hi; exact f13 i) (fun r => by rw [hq1]; exact q_pickA_o (by decide))
                rw [f12, f13] at hU0
                have f73 : q1 73 0 = q 73 0 := by rw [hq1]; exact q_pickA_o (by decide)
                have hI := hI1
                have hR := hR1
                have hW := hW1
                have hL := hL1
                clear hro hroom h57 h56
                have h721 : q1 72 0 = 3 := hL.1
                have h72 : q1 72 0 ≤ 12 := by omega
                have h73 : q1 73 0 ≤ 12 := hW.1.1.2.1
                have hro : q1 42 0 ≤ 504 := q_room hW.1.1 hW.1.2.2.2.1 hW.1.2.2.2.2.1
                have hroom : q1 42 0 < 516 := by omega
                have h57 : q1 57 0 ≤ 20 := hW.1.2.2.2.2.1.1
                have h56 : q1 56 0 ≤ 1439 := hL.2.2.2.2.2.1
                have h25 : ∀ i, i < q1 73 0 → q1 25 i < 2 ^ 31 := fun i hi => by have := (hW.1.2.2.1 i hi).2.2.2; omega
                have hU5 : q_U q1 ≤ 5000 := by omega
                obtain ⟨⟨oa, la⟩, ⟨orr, lr⟩, ⟨obb, lb⟩, ⟨oi, li⟩, hne, hra, hrb, hri⟩ := id hO9
                refine lv_istore (lv' := [(17, .int (-1)), (22, .int x104), (21, .int r102), (20, .int r1), (19, .int r1), (18, .int 0), (16, .int od), (15, .int mm), (14, .int aa), (13, .int kd), (11, .long bf), (10, .int nx), (9, .int kx), (8, .int 1), (7, .int on), (6, .int un), (5, .ref ri), (4, .ref rb), (3, .ref rr), (2, .ref ra), (1, .ref (z 0)), (0, .ref b)]) hx hb dL_law_735 hl (by decide) rfl (fun ls hl => ?_)
                refine lv_iload hx hb dL_law_737 (lv_at hl 0 rfl) ?_
                refine lv_iconst (v := (-1)) hx hb dL_law_739 (by decide) ?_
                refine lv_icmp_ge (tgt := 747) hx hb dL_law_740 (by decide) (fun c106 => ?_) (fun c106 => ?_)
                · refine lv_iconst (v := 0) hx hb dL_law_747 (by decide) ?_
                  refine lv_istore (lv' := [(18, .int 0), (17, .int (-1)), (22, .int x104), (21, .int r102), (20, .int r1), (19, .int r1), (16, .int od), (15, .int mm), (14, .int aa), (13, .int kd), (11, .long bf), (10, .int nx), (9, .int kx), (8, .int 1), (7, .int on), (6, .int un), (5, .ref ri), (4, .ref rb), (3, .ref rr), (2, .ref ra), (1, .ref (z 0)), (0, .ref b)]) hx hb dL_law_748 hl (by decide) rfl (fun ls hl => ?_)
                  refine lv_iload hx hb dL_law_750 (lv_at hl 1 rfl) ?_
                  refine lv_if_lt (tgt := 839) hx hb dL_law_752 (by decide) (fun c107 => ?_) (fun c107 => ?_)
                  · refine lv_iload hx hb dL_law_839 (lv_at hl 1 rfl) ?_
                    refine lv_iconst (v := (-1)) hx hb dL_law_841 (by decide) ?_
                    refine lv_icmp_ne (tgt := 884) hx hb dL_law_842 (by decide) (fun c108 => ?_) (fun c108 => ?_)
                    · exact absurd c108 (by decide)
                    · refine lv_iload hx hb dL_law_845 (lv_at hl 15 rfl) ?_
                      refine lv_iload hx hb dL_law_847 (lv_at hl 4 rfl) ?_
                      refine lv_isub hx hb dL_law_849 ?_
                      refine lv_topi (fun x109 ex109 => ?_)
                      have tx109 : x109.toInt = un.toInt - r1.toInt := kt_sub ex109 (rfl : un.toInt = un.toInt) (rfl : r1.toInt = r1.toInt) (by omega) (by omega)
                      refine lv_istore (lv' := [(6, .int x109), (18, .int 0), (17, .int (-1)), (22, .int x104), (21, .int r102), (20, .int r1), (19, .int r1), (16, .int od), (15, .int mm), (14, .int aa), (13, .int kd), (11, .long bf), (10, .int nx), (9, .int kx), (8, .int 1), (7, .int on), (5, .ref ri), (4, .ref rb), (3, .ref rr), (2, .ref ra), (1, .ref (z 0)), (0, .ref b)]) hx hb dL_law_850 hl (by decide) rfl (fun ls hl => ?_)
                      refine lv_aload_n hx hb dL_law_852 rfl (lv_at hl 20 rfl) ?_
                      refine lv_iload hx hb dL_law_853 (lv_at hl 7 rfl) ?_
                      refine kcallhI (kSthW (n := 2) (As := [.ref (z 0), .int od]) (rest := []) F hE hNc hK hP hD hS hA (kh_state l g e0 S1 _ (z 0) od _ _ hI.ob0 (c_X5_state_x l hl0 g e0 z S1 _ hI av lv q1 hR h73 od) (fun E h => h.1)) kw_260 kw_261 kw_61 kw_262 (by decide +kernel) ⟨Nat.le_of_ble_eq_true rfl, Nat.le_of_ble_eq_true rfl⟩ rfl hl.1 rfl (Nat.le_of_ble_eq_true rfl) dL_law_855 ⟨(by show k0 + 1 + 1 + 3 + 1 ≤ 1072639; omega), (by show n0 + 6 + 6 + 27 + 6 ≤ 5883708; omega)⟩) rfl hD hS hA (fun r110 T1 H locs hp hP hq1x hq2x hq3x hf1 hS => ?_)
                      clear hq1x hq2x hq3x
                      have hO := kO_keep hO hdis hf1
                      obtain ⟨hT, nr110⟩ := kp_Ac (i := o9) hp hod (by omega) (by omega) (by omega)
                      subst hT
                      clear hp
                      refine lv_bipush (v := 107) hx hb dL_law_858 (by decide) ?_
                      refine lv_icmp_ne (tgt := 881) hx hb dL_law_860 (by decide) (fun c111 => ?_) (fun c111 => ?_)
                      · have d111 : r110.toInt ≠ (107) := mt (kc_eq (rfl : r110.toInt = r110.toInt) (by decide : (107 : Int32).toInt = 107)).mpr c111
                        exfalso; omega
                      · have d111 : r110.toInt = (107) := (kc_eq (rfl : r110.toInt = r110.toInt) (by decide : (107 : Int32).toInt = 107)).mp c111
                        refine lv_aload_n hx hb dL_law_863 rfl (lv_at hl 20 rfl) ?_
                        refine lv_iload hx hb dL_law_864 (lv_at hl 3 rfl) ?_
                        refine kcallhI (kSthW (n := 2) (As := [.ref (z 0), .int x104]) (rest := []) F hE hNc hK hP hD hS hA (kh_stock l g e0 S1 _ (z 0) x104 _ _ hI.ob0 (c_X5_stock_x l hl0 g e0 z S1 _ hI av lv q1 hR h72 x104) (fun E h => h.1)) kw_188 kw_189 kw_61 kw_190 (by decide +kernel) ⟨Nat.le_of_ble_eq_true rfl, Nat.le_of_ble_eq_true rfl⟩ rfl hl.1 rfl (Nat.le_of_ble_eq_true rfl) dL_law_866 ⟨(by show k0 + 1 + 1 + 3 + 1 + 1 ≤ 1072639; omega), (by show n0 + 6 + 6 + 27 + 6 + 6 ≤ 5883708; omega)⟩) rfl hD hS hA (fun r112 T1 H locs hp hP hq1x hq2x hq3x hf1 hS => ?_)
                        clear hq1x hq2x hq3x
                        have hO := kO_keep hO hdis hf1
                        obtain ⟨hT, nr112⟩ := kp_A (i := q 21 o9) hp nx104 (by omega) (by omega) (by omega)
                        subst hT
                        clear hp
                        refine lv_iload hx hb dL_law_869 (lv_at hl 4 rfl) ?_
                        refine lv_iload hx hb dL_law_871 (lv_at hl 5 rfl) ?_
                        refine lv_isub hx hb dL_law_873 ?_
                        refine lv_topi (fun x113 ex113 => ?_)
                        have tx113 : x113.toInt = r102.toInt - r1.toInt := kt_sub ex113 (rfl : r102.toInt = r102.toInt) (rfl : r1.toInt = r1.toInt) (by omega) (by omega)
                        refine lv_icmp_ne (tgt := 881) hx hb dL_law_874 (by decide) (fun c114 => ?_) (fun c114 => ?_)
                        · have d114 : r112.toInt ≠ x113.toInt := mt (kc_eq (rfl : r112.toInt = r112.toInt) (rfl : x113.toInt = x113.toInt)).mpr c114
                          exfalso; omega
                        · have d114 : r112.toInt = x113.toInt := (kc_eq (rfl : r112.toInt = r112.toInt) (rfl : x113.toInt = x113.toInt)).mp c114
                          refine lv_iconst (v := 1) hx hb dL_law_877 (by decide) ?_
                          refine lv_goto (tgt := 882) hx hb dL_law_878 (by decide) ?_
                          refine lv_istore (lv' := [(8, .int 1), (6, .int x109), (18, .int 0), (17, .int (-1)), (22, .int x104), (21, .int r102), (20, .int r1), (19, .int r1), (16, .int od), (15, .int mm), (14, .int aa), (13, .int kd), (11, .long bf), (10, .int nx), (9, .int kx), (7, .int on), (5, .ref ri), (4, .ref rb), (3, .ref rr), (2, .ref ra), (1, .ref (z 0)), (0, .ref b)]) hx hb dL_law_882 hl (by decide) rfl (fun ls hl => ?_)
                          refine lv_goto (tgt := 1227) hx hb dL_law_884 (by decide) ?_
                          exact kk S1 O av lv q1 _ _ ls _ _ 0 on x109 ⟨⟨F, hK, hE, hNc, hX, hbl⟩, ⟨hP, hO⟩, ⟨hD, hDO⟩, hdis, hS, ⟨hI, hR, hW, hL⟩, hO9⟩ (by omega) (Or.inl rfl) (by omega) (by omega) (by omega) (by omega) (lv_sub hl [2, 12, 13, 14, 0, 15, 1, 16, 17, 18, 19, 20, 21] rfl)
                  · exact absurd (by decide) c107
                · exact absurd (by decide) c106
              · obtain ⟨fl, b4, er, hx9⟩ := hp
                obtain ⟨lv, hR1⟩ : ∃ l9 : Nat → Nat, Rq z av l9 S1 (q_split o9 f9 q) := hx9.elim fun x h => ⟨_, h⟩
                clear hx9
                obtain ⟨q1, hq1⟩ : ∃ q9 : qS, q9 = q_split o9 f9 q := ⟨_, rfl⟩
                rw [← hq1] at hR1
                have hW1 : q_W q1 := by rw [hq1]; exact q_split_W hW hi2 hst fl b4
                have hL1 : q_L q1 := q_L_of hL (fun k hk i => by rw [hq1]; exact q_split_o (q_mem (P := fun k => k ∉ [12, 14, 21, 22, 23, 24, 25, 42, 43, 44, 73]) hk (by decide)))
                have fk : ∀ k, k ∈ [10, 11, 1] → ∀ i, q1 k i = q k i := fun k hk i => by rw [hq1]; exact q_split_o (q_mem (P := fun k => k ∉ [12, 14, 21, 22, 23, 24, 25, 42, 43, 44, 73]) hk (by decide))
                obtain ⟨f73, f21n, f23n, f12, f12o⟩ := q_split_f (q := q) (n := o9) (f := f9)
                rw [← hq1] at f73 f21n f23n f12 f12o
                have f21 : ∀ n, n ≠ q 73 0 → q1 21 n = q 21 n := fun n hn => by rw [hq1, q_split_p (Or.inl rfl) hn]; exact q_k (by decide)
                have f23 : q1 23 o9 = f9 := by rw [hq1, q_split_p (Or.inr (Or.inl rfl)) (by omega)]; exact q_at
                have f13 : ∀ i, q1 13 i = q 13 i := fun i => by rw [hq1]; exact q_split_o (by decide)
                have hU0 := q_U_art (q := q) (q' := q1) (a := q 21 o9) (by omega) (fun k hk i hi => by rcases q_m2 hk with rfl | rfl; exact f12o i hi; exact f13 i) (fun r => by rw [hq1]; exact q_split_o (by decide))
                rw [f12, f13] at hU0
                have nr105 : r105.toInt = ((q 73 0 : Nat) : Int) := kt_nI er (by omega)
                have hI := hI1
                have hR := hR1
                have hW := hW1
                have hL := hL1
                clear hro hroom h57 h56
                have h721 : q1 72 0 = 3 := hL.1
                have h72 : q1 72 0 ≤ 12 := by omega
                have h73 : q1 73 0 ≤ 12 := hW.1.1.2.1
                have hro : q1 42 0 ≤ 504 := q_room hW.1.1 hW.1.2.2.2.1 hW.1.2.2.2.2.1
                have hroom : q1 42 0 < 516 := by omega
                have h57 : q1 57 0 ≤ 20 := hW.1.2.2.2.2.1.1
                have h56 : q1 56 0 ≤ 1439 := hL.2.2.2.2.2.1
                have h25 : ∀ i, i < q1 73 0 → q1 25 i < 2 ^ 31 := fun i hi => by have := (hW.1.2.2.1 i hi).2.2.2; omega
                have hU5 : q_U q1 ≤ 5000 := by omega
                have w3j := hW.2.1 (q 21 o9) (by omega)
                refine lv_istore (lv' := [(17, .int r105), (22, .int x104), (21, .int r102), (20, .int r1), (19, .int r1), (18, .int 0), (16, .int od), (15, .int mm), (14, .int aa), (13, .int kd), (11, .long bf), (10, .int nx), (9, .int kx), (8, .int 1), (7, .int on), (6, .int un), (5, .ref ri), (4, .ref rb), (3, .ref rr), (2, .ref ra), (1, .ref (z 0)), (0, .ref b)]) hx hb dL_law_735 hl (by decide) rfl (fun ls hl => ?_)
                refine lv_iload hx hb dL_law_737 (lv_at hl 0 rfl) ?_
                refine lv_iconst (v := (-1)) hx hb dL_law_739 (by decide) ?_
                refine lv_icmp_ge (tgt := 747) hx hb dL_law_740 (by decide) (fun c115 => ?_) (fun c115 => ?_)
                · have d115 : (-1) ≤ r105.toInt := (kc_le (by decide : (-1 : Int32).toInt = -1) (rfl : r105.toInt = r105.toInt)).mp c115
                  refine lv_iconst (v := 0) hx hb dL_law_747 (by decide) ?_
                  refine lv_istore (lv' := [(18, .int 0), (17, .int r105), (22, .int x104), (21, .int r102), (20, .int r1), (19, .int r1), (16, .int od), (15, .int mm), (14, .int aa), (13, .int kd), (11, .long bf), (10, .int nx), (9, .int kx), (8, .int 1), (7, .int on), (6, .int un), (5, .ref ri), (4, .ref rb), (3, .ref rr), (2, .ref ra), (1, .ref (z 0)), (0, .ref b)]) hx hb dL_law_748 hl (by decide) rfl (fun ls hl => ?_)
                  refine lv_iload hx hb dL_law_750 (lv_at hl 1 rfl) ?_
                  refine lv_if_lt (tgt := 839) hx hb dL_law_752 (by decide) (fun c116 => ?_) (fun c116 => ?_)
                  · have d116 : r105.toInt < (0) := (kc_lt (rfl : r105.toInt = r105.toInt) (by decide : (0 : Int32).toInt = 0)).mp c116
                    exfalso; omega
                  · have d116 : ¬ (r105.toInt < (0)) := mt (kc_lt (rfl : r105.toInt = r105.toInt) (by decide : (0 : Int32).toInt = 0)).mpr c116
                    refine lv_aload hx hb dL_law_755 (lv_at hl 16 rfl) ?_
                    refine lv_iload hx hb dL_law_757 (lv_at hl 1 rfl) ?_
                    refine lv_iload hx hb dL_law_759 (lv_at hl 2 rfl) ?_
                    refine rt2_I F hK hP hO hD hDO hdis hS oi (by rw [li]; exact kt_in nr105 (by omega) (by decide)) dL_law_761 (fun H locs hP hO hDO hS => ?_)
                    rw [kt_clamp nr105 (by omega)] at hO hDO
                    have hdis : kdis S1 (setX O ri (upd (pX O ri) (q 73 0) x104)) := hdis
                    have hO9 := q_O_item hO9 fk rfl f73 f21 f21n (kt_of nx104 (by omega))
                    obtain ⟨⟨oa, la⟩, ⟨orr, lr⟩, ⟨obb, lb⟩, ⟨oi, li⟩, hne, hra, hrb, hri⟩ := id hO9
                    refine lv_iload hx hb dL_law_762 (lv_at hl 15 rfl) ?_
                    refine lv_iload hx hb dL_law_764 (lv_at hl 3 rfl) ?_
                    refine lv_isub hx hb dL_law_766 ?_
                    refine lv_topi (fun x117 ex117 => ?_)
                    have tx117 : x117.toInt = un.toInt - r102.toInt := kt_sub ex117 (rfl : un.toInt = un.toInt) (rfl : r102.toInt = r102.toInt) (by omega) (by omega)
                    refine lv_istore (lv' := [(6, .int x117), (18, .int 0), (17, .int r105), (22, .int x104), (21, .int r102), (20, .int r1), (19, .int r1), (16, .int od), (15, .int mm), (14, .int aa), (13, .int kd), (11, .long bf), (10, .int nx), (9, .int kx), (8, .int 1), (7, .int on), (5, .ref ri), (4, .ref rb), (3, .ref rr), (2, .ref ra), (1, .ref (z 0)), (0, .ref b)]) hx hb dL_law_767 hl (by decide) rfl (fun ls hl => ?_)
                    refine lv_iload hx hb dL_law_769 (lv_at hl 2 rfl) ?_
                    refine lv_iload hx hb dL_law_771 (lv_at hl 15 rfl) ?_
                    refine lv_icmp_ne (tgt := 830) hx hb dL_law_773 (by decide) (fun c118 => ?_) (fun c118 => ?_)
                    · have d118 : r105.toInt ≠ on.toInt := mt (kc_eq (rfl : r105.toInt = r105.toInt) (rfl : on.toInt = on.toInt)).mpr c118
                      exfalso; omega
                    · have d118 : r105.toInt = on.toInt := (kc_eq (rfl : r105.toInt = r105.toInt) (rfl : on.toInt = on.toInt)).mp c118
                      refine lv_iload hx hb dL_law_776 (lv_at hl 5 rfl) ?_
                      refine lv_iload hx hb dL_law_778 (lv_at hl 6 rfl) ?_
                      refine lv_icmp_ge (tgt := 830) hx hb dL_law_780 (by decide) (fun c119 => ?_) (fun c119 => ?_)
                      · have d119 : r1.toInt ≤ r1.toInt := (kc_le (rfl : r1.toInt = r1.toInt) (rfl : r1.toInt = r1.toInt)).mp c119
                        exfalso; omega
                      · have d119 : ¬ (r1.toInt ≤ r1.toInt) := mt (kc_le (rfl : r1.toInt = r1.toInt) (rfl : r1.toInt = r1.toInt)).mpr c119
                        refine lv_aload_n hx hb dL_law_783 rfl (lv_at hl 20 rfl) ?_
                        refine lv_iload hx hb dL_law_784 (lv_at hl 2 rfl) ?_
                        refine kcallhI (kSthW (n := 2) (As := [.ref (z 0), .int r105]) (rest := []) F hE hNc hK hP hD hS hA (kh_amount l g e0 S1 _ (z 0) r105 _ _ hI.ob0 (c_X5_amount_x l hl0 g e0 z S1 _ hI av lv q1 hR h73 r105) (fun E h => h.1)) kw_273 kw_274 kw_61 kw_275 (by decide +kernel) ⟨Nat.le_of_ble_eq_true rfl, Nat.le_of_ble_eq_true rfl⟩ rfl hl.1 rfl (Nat.le_of_ble_eq_true rfl) dL_law_786 ⟨(by show k0 + 1 + 1 + 3 + 1 ≤ 1072639; omega), (by show n0 + 6 + 6 + 27 + 6 ≤ 5883708; omega)⟩) rfl hD hS hA (fun r120 T1 H locs hp hP hq1x hq2x hq3x hf1 hS => ?_)
                        clear hq1x hq2x hq3x
                        have hO := kO_keep hO hdis hf1
                        obtain ⟨hT, nr120⟩ := kp_A (i := q 73 0) hp nr105 (by omega) (by omega) (by omega)
                        subst hT
                        clear hp
                        refine lv_iload hx hb dL_law_789 (lv_at hl 6 rfl) ?_
                        refine lv_iload hx hb dL_law_791 (lv_at hl 5 rfl) ?_
                        refine lv_isub hx hb dL_law_793 ?_
                        refine lv_topi (fun x121 ex121 => ?_)
                        have tx121 : x121.toInt = r1.toInt - r1.toInt := kt_sub ex121 (rfl : r1.toInt = r1.toInt) (rfl : r1.toInt = r1.toInt) (by omega) (by omega)
                        refine lv_icmp_ne (tgt := 830) hx hb dL_law_794 (by decide) (fun c122 => ?_) (fun c122 => ?_)
                        · have d122 : r120.toInt ≠ x121.toInt := mt (kc_eq (rfl : r120.toInt = r120.toInt) (rfl : x121.toInt = x121.toInt)).mpr c122
                          exfalso; omega
                        · have d122 : r120.toInt = x121.toInt := (kc_eq (rfl : r120.toInt = r120.toInt) (rfl : x121.toInt = x121.toInt)).mp c122
                          refine lv_aload_n hx hb dL_law_797 rfl (lv_at hl 20 rfl) ?_
                          refine lv_iload hx hb dL_law_798 (lv_at hl 7 rfl) ?_
                          refine kcallhI (kSthW (n := 2) (As := [.ref (z 0), .int od]) (rest := []) F hE hNc hK hP hD hS hA (kh_amount l g e0 S1 _ (z 0) od _ _ hI.ob0 (c_X5_amount_x l hl0 g e0 z S1 _ hI av lv q1 hR h73 od) (fun E h => h.1)) kw_273 kw_274 kw_61 kw_275 (by decide +kernel) ⟨Nat.le_of_ble_eq_true rfl, Nat.le_of_ble_eq_true rfl⟩ rfl hl.1 rfl (Nat.le_of_ble_eq_true rfl) dL_law_800 ⟨(by show k0 + 1 + 1 + 3 + 1 + 1 ≤ 1072639; omega), (by show n0 + 6 + 6 + 27 + 6 + 6 ≤ 5883708; omega)⟩) rfl hD hS hA (fun r123 T1 H locs hp hP hq1x hq2x hq3x hf1 hS => ?_)
                          clear hq1x hq2x hq3x
                          have hO := kO_keep hO hdis hf1
                          obtain ⟨hT, nr123⟩ := kp_A (i := o9) hp hod (by omega) (by omega) (by omega)
                          subst hT
                          clear hp
                          refine lv_iload hx hb dL_law_803 (lv_at hl 5 rfl) ?_
                          refine lv_icmp_ne (tgt := 830) hx hb dL_law_805 (by decide) (fun c124 => ?_) (fun c124 => ?_)
                          · have d124 : r123.toInt ≠ r1.toInt := mt (kc_eq (rfl : r123.toInt = r123.toInt) (rfl : r1.toInt = r1.toInt)).mpr c124
                            exfalso; omega
                          · have d124 : r123.toInt = r1.toInt := (kc_eq (rfl : r123.toInt = r123.toInt) (rfl : r1.toInt = r1.toInt)).mp c124
                            refine lv_aload_n hx hb dL_law_808 rfl (lv_at hl 20 rfl) ?_
                            refine lv_iload hx hb dL_law_809 (lv_at hl 3 rfl) ?_
                            refine kcallhI (kSthW (n := 2) (As := [.ref (z 0), .int x104]) (rest := []) F hE hNc hK hP hD hS hA (kh_stock l g e0 S1 _ (z 0) x104 _ _ hI.ob0 (c_X5_stock_x l hl0 g e0 z S1 _ hI av lv q1 hR h72 x104) (fun E h => h.1)) kw_188 kw_189 kw_61 kw_190 (by decide +kernel) ⟨Nat.le_of_ble_eq_true rfl, Nat.le_of_ble_eq_true rfl⟩ rfl hl.1 rfl (Nat.le_of_ble_eq_true rfl) dL_law_811 ⟨(by show k0 + 1 + 1 + 3 + 1 + 1 + 1 ≤ 1072639; omega), (by show n0 + 6 + 6 + 27 + 6 + 6 + 6 ≤ 5883708; omega)⟩) rfl hD hS hA (fun r125 T1 H locs hp hP hq1x hq2x hq3x hf1 hS => ?_)
                            clear hq1x hq2x hq3x
                            have hO := kO_keep hO hdis hf1
                            obtain ⟨hT, nr125⟩ := kp_A (i := q 21 o9) hp nx104 (by omega) (by omega) (by omega)
                            subst hT
                            clear hp
                            refine lv_if_ne (tgt := 830) hx hb dL_law_814 (by decide) (fun c126 => ?_) (fun c126 => ?_)
                            · have d126 : r125.toInt ≠ (0) := mt (kc_eq (rfl : r125.toInt = r125.toInt) (by decide : (0 : Int32).toInt = 0)).mpr c126
                              exfalso; omega
                            · have d126 : r125.toInt = (0) := (kc_eq (rfl : r125.toInt = r125.toInt) (by decide : (0 : Int32).toInt = 0)).mp c126
                              refine lv_aload_n hx hb dL_law_817 rfl (lv_at hl 20 rfl) ?_
                              refine lv_iload hx hb dL_law_818 (lv_at hl 3 rfl) ?_
                              refine kcallhI (kSthW (n := 2) (As := [.ref (z 0), .int x104]) (rest := []) F hE hNc hK hP hD hS hA (kh_promised l g e0 S1 _ (z 0) x104 _ _ hI.ob0 (c_X5_promised_x l hl0 g e0 z S1 _ hI av lv q1 hR h72 x104) (fun E h => h.1)) kw_228 kw_229 kw_61 kw_230 (by decide +kernel) ⟨Nat.le_of_ble_eq_true rfl, Nat.le_of_ble_eq_true rfl⟩ rfl hl.1 rfl (Nat.le_of_ble_eq_true rfl) dL_law_820 ⟨(by show k0 + 1 + 1 + 3 + 1 + 1 + 1 + 1 ≤ 1072639; omega), (by show n0 + 6 + 6 + 27 + 6 + 6 + 6 + 6 ≤ 5883708; omega)⟩) rfl hD hS hA (fun r127 T1 H locs hp hP hq1x hq2x hq3x hf1 hS => ?_)
                              clear hq1x hq2x hq3x
                              have hO := kO_keep hO hdis hf1
                              obtain ⟨hT, nr127⟩ := kp_A (i := q 21 o9) hp nx104 (by omega) (by omega) (by omega)
                              subst hT
                              clear hp
                              refine lv_if_ne (tgt := 830) hx hb dL_law_823 (by decide) (fun c128 => ?_) (fun c128 => ?_)
                              · have d128 : r127.toInt ≠ (0) := mt (kc_eq (rfl : r127.toInt = r127.toInt) (by decide : (0 : Int32).toInt = 0)).mpr c128
                                exfalso; omega
                              · have d128 : r127.toInt = (0) := (kc_eq (rfl : r127.toInt = r127.toInt) (by decide : (0 : Int32).toInt = 0)).mp c128
                                refine lv_iconst (v := 1) hx hb dL_law_826 (by decide) ?_
                                refine lv_goto (tgt := 831) hx hb dL_law_827 (by decide) ?_
                                refine lv_istore (lv' := [(8, .int 1), (6, .int x117), (18, .int 0), (17, .int r105), (22, .int x104), (21, .int r102), (20, .int r1), (19, .int r1), (16, .int od), (15, .int mm), (14, .int aa), (13, .int kd), (11, .long bf), (10, .int nx), (9, .int kx), (7, .int on), (5, .ref ri), (4, .ref rb), (3, .ref rr), (2, .ref ra), (1, .ref (z 0)), (0, .ref b)]) hx hb dL_law_831 hl (by decide) rfl (fun ls hl => ?_)
                                obtain ⟨x129, ex129⟩ : ∃ y : Int32, y = on + 1 := ⟨_, rfl⟩
                                refine lv_iinc (v := x129) (lv' := [(7, .int x129), (8, .int 1), (6, .int x117), (18, .int 0), (17, .int r105), (22, .int x104), (21, .int r102), (20, .int r1), (19, .int r1), (16, .int od), (15, .int mm), (14, .int aa), (13, .int kd), (11, .long bf), (10, .int nx), (9, .int kx), (5, .ref ri), (4, .ref rb), (3, .ref rr), (2, .ref ra), (1, .ref (z 0)), (0, .ref b)]) hx hb dL_law_833 hl (k := 15) rfl (by rw [ex129]; rfl) (by decide) rfl (fun ls hl => ?_)
                                have tx129 : x129.toInt = on.toInt + 1 := kt_add ex129 (rfl : on.toInt = on.toInt) (by decide) (by omega) (by omega)
                                refine lv_goto (tgt := 884) hx hb dL_law_836 (by decide) ?_
                                refine lv_goto (tgt := 1227) hx hb dL_law_884 (by decide) ?_
                                exact kk S1 (setX O ri (upd (pX O ri) (q 73 0) x104)) av lv q1 _ _ ls _ _ 0 x129 x117 ⟨⟨F, hK, hE, hNc, hX, hbl⟩, ⟨hP, hO⟩, ⟨hD, hDO⟩, hdis, hS, ⟨hI, hR, hW, hL⟩, hO9⟩ (by omega) (Or.inl rfl) (by omega) (by omega) (by omega) (by omega) (lv_sub hl [3, 13, 14, 15, 1, 0, 2, 16, 17, 18, 19, 20, 21] rfl)
                · have d115 : ¬ ((-1) ≤ r105.toInt) := mt (kc_le (by decide : (-1 : Int32).toInt = -1) (rfl : r105.toInt = r105.toInt)).mpr c115
                  exfalso; omega
              refine lv_iconst (v := 1) hx hb dL_law_743 (by decide) ?_
              refine lv_goto (tgt := 748) hx hb dL_law_744 (by decide) ?_
              refine lv_istore (lv' := [(18, .int 1), (17, .int r105), (22, .int x104), (21, .int r102), (20, .int r1), (19, .int r1), (16, .int od), (15, .int mm), (14, .int aa), (13, .int kd), (11, .long bf), (10, .int nx), (9, .int kx), (8, .int 1), (7, .int on), (6, .int un), (5, .ref ri), (4, .ref rb), (3, .ref rr), (2, .ref ra), (1, .ref (z 0)), (0, .ref b)]) hx hb dL_law_748 hl (by decide) rfl (fun ls hl => ?_)
              refine lv_iload hx hb dL_law_750 (lv_at hl 1 rfl) ?_
              refine lv_if_lt (tgt := 839) hx hb dL_law_752 (by decide) (fun c130 => ?_) (fun c130 => ?_)
              · have d130 : r105.toInt < (0) := (kc_lt (rfl : r105.toInt = r105.toInt) (by decide : (0 : Int32).toInt = 0)).mp c130
                exfalso; omega
              · have d130 : ¬ (r105.toInt < (0)) := mt (kc_lt (rfl : r105.toInt = r105.toInt) (by decide : (0 : Int32).toInt = 0)).mpr c130
                refine lv_aload hx hb dL_law_755 (lv_at hl 16 rfl) ?_
                refine lv_iload hx hb dL_law_757 (lv_at hl 1 rfl) ?_
                refine lv_iload hx hb dL_law_759 (lv_at hl 2 rfl) ?_
                refine rt2_I F hK hP hO hD hDO hdis hS oi (by rw [li]; exact kt_in nr105 (by omega) (by decide)) dL_law_761 (fun H locs hP hO hDO hS => ?_)
                rw [kt_clamp nr105 (by omega)] at hO hDO
                have hdis : kdis S1 (setX O ri (upd (pX O ri) (q 73 0) x104)) := hdis
                have hO9 := q_O_item hO9 fk rfl f73 f21 f21n (kt_of nx104 (by omega))
                obtain ⟨⟨oa, la⟩, ⟨orr, lr⟩, ⟨obb, lb⟩, ⟨oi, li⟩, hne, hra, hrb, hri⟩ := id hO9
                refine lv_iload hx hb dL_law_762 (lv_at hl 15 rfl) ?_
                refine lv_iload hx hb dL_law_764 (lv_at hl 3 rfl) ?_
                refine lv_isub hx hb dL_law_766 ?_
                refine lv_topi (fun x131 ex131 => ?_)
                have tx131 : x131.toInt = un.toInt - r102.toInt := kt_sub ex131 (rfl : un.toInt = un.toInt) (rfl : r102.toInt = r102.toInt) (by omega) (by omega)
                refine lv_istore (lv' := [(6, .int x131), (18, .int 1), (17, .int r105), (22, .int x104), (21, .int r102), (20, .int r1), (19, .int r1), (16, .int od), (15, .int mm), (14, .int aa), (13, .int kd), (11, .long bf), (10, .int nx), (9, .int kx), (8, .int 1), (7, .int on), (5, .ref ri), (4, .ref rb), (3, .ref rr), (2, .ref ra), (1, .ref (z 0)), (0, .ref b)]) hx hb dL_law_767 hl (by decide) rfl (fun ls hl => ?_)
                refine lv_iload hx hb dL_law_769 (lv_at hl 2 rfl) ?_
                refine lv_iload hx hb dL_law_771 (lv_at hl 15 rfl) ?_
                refine lv_icmp_ne (tgt := 830) hx hb dL_law_773 (by decide) (fun c132 => ?_) (fun c132 => ?_)
                · have d132 : r105.toInt ≠ on.toInt := mt (kc_eq (rfl : r105.toInt = r105.toInt) (rfl : on.toInt = on.toInt)).mpr c132
                  exfalso; omega
                · have d132 : r105.toInt = on.toInt := (kc_eq (rfl : r105.toInt = r105.toInt) (rfl : on.toInt = on.toInt)).mp c132
                  refine lv_iload hx hb dL_law_776 (lv_at hl 5 rfl) ?_
                  refine lv_iload hx hb dL_law_778 (lv_at hl 6 rfl) ?_
                  refine lv_icmp_ge (tgt := 830) hx hb dL_law_780 (by decide) (fun c133 => ?_) (fun c133 => ?_)
                  · have d133 : r1.toInt ≤ r1.toInt := (kc_le (rfl : r1.toInt = r1.toInt) (rfl : r1.toInt = r1.toInt)).mp c133
                    exfalso; omega
                  · have d133 : ¬ (r1.toInt ≤ r1.toInt) := mt (kc_le (rfl : r1.toInt = r1.toInt) (rfl : r1.toInt = r1.toInt)).mpr c133
                    refine lv_aload_n hx hb dL_law_783 rfl (lv_at hl 20 rfl) ?_
                    refine lv_iload hx hb dL_law_784 (lv_at hl 2 rfl) ?_
                    refine kcallhI (kSthW (n := 2) (As := [.ref (z 0), .int r105]) (rest := []) F hE hNc hK hP hD hS hA (kh_amount l g e0 S1 _ (z 0) r105 _ _ hI.ob0 (c_X5_amount_x l hl0 g e0 z S1 _ hI av lv q1 hR h73 r105) (fun E h => h.1)) kw_273 kw_274 kw_61 kw_275 (by decide +kernel) ⟨Nat.le_of_ble_eq_true rfl, Nat.le_of_ble_eq_true rfl⟩ rfl hl.1 rfl (Nat.le_of_ble_eq_true rfl) dL_law_786 ⟨(by show k0 + 1 + 1 + 3 + 1 ≤ 1072639; omega), (by show n0 + 6 + 6 + 27 + 6 ≤ 5883708; omega)⟩) rfl hD hS hA (fun r134 T1 H locs hp hP hq1x hq2x hq3x hf1 hS => ?_)
                    clear hq1x hq2x hq3x
                    have hO := kO_keep hO hdis hf1
                    obtain ⟨hT, nr134⟩ := kp_A (i := q 73 0) hp nr105 (by omega) (by omega) (by omega)
                    subst hT
                    clear hp
                    refine lv_iload hx hb dL_law_789 (lv_at hl 6 rfl) ?_
                    refine lv_iload hx hb dL_law_791 (lv_at hl 5 rfl) ?_
                    refine lv_isub hx hb dL_law_793 ?_
                    refine lv_topi (fun x135 ex135 => ?_)
                    have tx135 : x135.toInt = r1.toInt - r1.toInt := kt_sub ex135 (rfl : r1.toInt = r1.toInt) (rfl : r1.toInt = r1.toInt) (by omega) (by omega)
                    refine lv_icmp_ne (tgt := 830) hx hb dL_law_794 (by decide) (fun c136 => ?_) (fun c136 => ?_)
                    · have d136 : r134.toInt ≠ x135.toInt := mt (kc_eq (rfl : r134.toInt = r134.toInt) (rfl : x135.toInt = x135.toInt)).mpr c136
                      exfalso; omega
                    · have d136 : r134.toInt = x135.toInt := (kc_eq (rfl : r134.toInt = r134.toInt) (rfl : x135.toInt = x135.toInt)).mp c136
                      refine lv_aload_n hx hb dL_law_797 rfl (lv_at hl 20 rfl) ?_
                      refine lv_iload hx hb dL_law_798 (lv_at hl 7 rfl) ?_
                      refine kcallhI (kSthW (n := 2) (As := [.ref (z 0), .int od]) (rest := []) F hE hNc hK hP hD hS hA (kh_amount l g e0 S1 _ (z 0) od _ _ hI.ob0 (c_X5_amount_x l hl0 g e0 z S1 _ hI av lv q1 hR h73 od) (fun E h => h.1)) kw_273 kw_274 kw_61 kw_275 (by decide +kernel) ⟨Nat.le_of_ble_eq_true rfl, Nat.le_of_ble_eq_true rfl⟩ rfl hl.1 rfl (Nat.le_of_ble_eq_true rfl) dL_law_800 ⟨(by show k0 + 1 + 1 + 3 + 1 + 1 ≤ 1072639; omega), (by show n0 + 6 + 6 + 27 + 6 + 6 ≤ 5883708; omega)⟩) rfl hD hS hA (fun r137 T1 H locs hp hP hq1x hq2x hq3x hf1 hS => ?_)
                      clear hq1x hq2x hq3x
                      have hO := kO_keep hO hdis hf1
                      obtain ⟨hT, nr137⟩ := kp_A (i := o9) hp hod (by omega) (by omega) (by omega)
                      subst hT
                      clear hp
                      refine lv_iload hx hb dL_law_803 (lv_at hl 5 rfl) ?_
                      refine lv_icmp_ne (tgt := 830) hx hb dL_law_805 (by decide) (fun c138 => ?_) (fun c138 => ?_)
                      · have d138 : r137.toInt ≠ r1.toInt := mt (kc_eq (rfl : r137.toInt = r137.toInt) (rfl : r1.toInt = r1.toInt)).mpr c138
                        exfalso; omega
                      · have d138 : r137.toInt = r1.toInt := (kc_eq (rfl : r137.toInt = r137.toInt) (rfl : r1.toInt = r1.toInt)).mp c138
                        refine lv_aload_n hx hb dL_law_808 rfl (lv_at hl 20 rfl) ?_
                        refine lv_iload hx hb dL_law_809 (lv_at hl 3 rfl) ?_
                        refine kcallhI (kSthW (n := 2) (As := [.ref (z 0), .int x104]) (rest := []) F hE hNc hK hP hD hS hA (kh_stock l g e0 S1 _ (z 0) x104 _ _ hI.ob0 (c_X5_stock_x l hl0 g e0 z S1 _ hI av lv q1 hR h72 x104) (fun E h => h.1)) kw_188 kw_189 kw_61 kw_190 (by decide +kernel) ⟨Nat.le_of_ble_eq_true rfl, Nat.le_of_ble_eq_true rfl⟩ rfl hl.1 rfl (Nat.le_of_ble_eq_true rfl) dL_law_811 ⟨(by show k0 + 1 + 1 + 3 + 1 + 1 + 1 ≤ 1072639; omega), (by show n0 + 6 + 6 + 27 + 6 + 6 + 6 ≤ 5883708; omega)⟩) rfl hD hS hA (fun r139 T1 H locs hp hP hq1x hq2x hq3x hf1 hS => ?_)
                        clear hq1x hq2x hq3x
                        have hO := kO_keep hO hdis hf1
                        obtain ⟨hT, nr139⟩ := kp_A (i := q 21 o9) hp nx104 (by omega) (by omega) (by omega)
                        subst hT
                        clear hp
                        refine lv_if_ne (tgt := 830) hx hb dL_law_814 (by decide) (fun c140 => ?_) (fun c140 => ?_)
                        · have d140 : r139.toInt ≠ (0) := mt (kc_eq (rfl : r139.toInt = r139.toInt) (by decide : (0 : Int32).toInt = 0)).mpr c140
                          exfalso; omega
                        · have d140 : r139.toInt = (0) := (kc_eq (rfl : r139.toInt = r139.toInt) (by decide : (0 : Int32).toInt = 0)).mp c140
                          refine lv_aload_n hx hb dL_law_817 rfl (lv_at hl 20 rfl) ?_
                          refine lv_iload hx hb dL_law_818 (lv_at hl 3 rfl) ?_
                          refine kcallhI (kSthW (n := 2) (As := [.ref (z 0), .int x104]) (rest := []) F hE hNc hK hP hD hS hA (kh_promised l g e0 S1 _ (z 0) x104 _ _ hI.ob0 (c_X5_promised_x l hl0 g e0 z S1 _ hI av lv q1 hR h72 x104) (fun E h => h.1)) kw_228 kw_229 kw_61 kw_230 (by decide +kernel) ⟨Nat.le_of_ble_eq_true rfl, Nat.le_of_ble_eq_true rfl⟩ rfl hl.1 rfl (Nat.le_of_ble_eq_true rfl) dL_law_820 ⟨(by show k0 + 1 + 1 + 3 + 1 + 1 + 1 + 1 ≤ 1072639; omega), (by show n0 + 6 + 6 + 27 + 6 + 6 + 6 + 6 ≤ 5883708; omega)⟩) rfl hD hS hA (fun r141 T1 H locs hp hP hq1x hq2x hq3x hf1 hS => ?_)
                          clear hq1x hq2x hq3x
                          have hO := kO_keep hO hdis hf1
                          obtain ⟨hT, nr141⟩ := kp_A (i := q 21 o9) hp nx104 (by omega) (by omega) (by omega)
                          subst hT
                          clear hp
                          refine lv_if_ne (tgt := 830) hx hb dL_law_823 (by decide) (fun c142 => ?_) (fun c142 => ?_)
                          · have d142 : r141.toInt ≠ (0) := mt (kc_eq (rfl : r141.toInt = r141.toInt) (by decide : (0 : Int32).toInt = 0)).mpr c142
                            exfalso; omega
                          · have d142 : r141.toInt = (0) := (kc_eq (rfl : r141.toInt = r141.toInt) (by decide : (0 : Int32).toInt = 0)).mp c142
                            refine lv_iconst (v := 1) hx hb dL_law_826 (by decide) ?_
                            refine lv_goto (tgt := 831) hx hb dL_law_827 (by decide) ?_
                            refine lv_istore (lv' := [(8, .int 1), (6, .int x131), (18, .int 1), (17, .int r105), (22, .int x104), (21, .int r102), (20, .int r1), (19, .int r1), (16, .int od), (15, .int mm), (14, .int aa), (13, .int kd), (11, .long bf), (10, .int nx), (9, .int kx), (7, .int on), (5, .ref ri), (4, .ref rb), (3, .ref rr), (2, .ref ra), (1, .ref (z 0)), (0, .ref b)]) hx hb dL_law_831 hl (by decide) rfl (fun ls hl => ?_)
                            obtain ⟨x143, ex143⟩ : ∃ y : Int32, y = on + 1 := ⟨_, rfl⟩
                            refine lv_iinc (v := x143) (lv' := [(7, .int x143), (8, .int 1), (6, .int x131), (18, .int 1), (17, .int r105), (22, .int x104), (21, .int r102), (20, .int r1), (19, .int r1), (16, .int od), (15, .int mm), (14, .int aa), (13, .int kd), (11, .long bf), (10, .int nx), (9, .int kx), (5, .ref ri), (4, .ref rb), (3, .ref rr), (2, .ref ra), (1, .ref (z 0)), (0, .ref b)]) hx hb dL_law_833 hl (k := 15) rfl (by rw [ex143]; rfl) (by decide) rfl (fun ls hl => ?_)
                            have tx143 : x143.toInt = on.toInt + 1 := kt_add ex143 (rfl : on.toInt = on.toInt) (by decide) (by omega) (by omega)
                            refine lv_goto (tgt := 884) hx hb dL_law_836 (by decide) ?_
                            refine lv_goto (tgt := 1227) hx hb dL_law_884 (by decide) ?_
                            exact kk S1 (setX O ri (upd (pX O ri) (q 73 0) x104)) av lv q1 _ _ ls _ _ 1 x143 x131 ⟨⟨F, hK, hE, hNc, hX, hbl⟩, ⟨hP, hO⟩, ⟨hD, hDO⟩, hdis, hS, ⟨hI, hR, hW, hL⟩, hO9⟩ (by omega) (Or.inr ⟨rfl, rfl⟩) (by omega) (by omega) (by omega) (by omega) (lv_sub hl [3, 13, 14, 15, 1, 0, 2, 16, 17, 18, 19, 20, 21] rfl)
            · have hO := hO9x
              obtain ⟨hT, hrx⟩ : S = S1 ∧ r105.toInt ≤ -75 := by rcases hp with ⟨e, -, h⟩ | ⟨e, -, h⟩ | ⟨e, -, h⟩ | ⟨e, -, h⟩ <;> exact ⟨h.symm, by rw [e]; decide⟩
              subst hT
              clear hp
              refine lv_istore (lv' := [(17, .int r105), (22, .int x104), (21, .int r102), (20, .int r1), (19, .int r1), (18, .int 0), (16, .int od), (15, .int mm), (14, .int aa), (13, .int kd), (11, .long bf), (10, .int nx), (9, .int kx), (8, .int 1), (7, .int on), (6, .int un), (5, .ref ri), (4, .ref rb), (3, .ref rr), (2, .ref ra), (1, .ref (z 0)), (0, .ref b)]) hx hb dL_law_735 hl (by decide) rfl (fun ls hl => ?_)
              refine lv_iload hx hb dL_law_737 (lv_at hl 0 rfl) ?_
              refine lv_iconst (v := (-1)) hx hb dL_law_739 (by decide) ?_
              refine lv_icmp_ge (tgt := 747) hx hb dL_law_740 (by decide) (fun c144 => ?_) (fun c144 => ?_)
              · have d144 : (-1) ≤ r105.toInt := (kc_le (by decide : (-1 : Int32).toInt = -1) (rfl : r105.toInt = r105.toInt)).mp c144
                exfalso; omega
              · have d144 : ¬ ((-1) ≤ r105.toInt) := mt (kc_le (by decide : (-1 : Int32).toInt = -1) (rfl : r105.toInt = r105.toInt)).mpr c144
                refine lv_iconst (v := 1) hx hb dL_law_743 (by decide) ?_
                refine lv_goto (tgt := 748) hx hb dL_law_744 (by decide) ?_
                refine lv_istore (lv' := [(18, .int 1), (17, .int r105), (22, .int x104), (21, .int r102), (20, .int r1), (19, .int r1), (16, .int od), (15, .int mm), (14, .int aa), (13, .int kd), (11, .long bf), (10, .int nx), (9, .int kx), (8, .int 1), (7, .int on), (6, .int un), (5, .ref ri), (4, .ref rb), (3, .ref rr), (2, .ref ra), (1, .ref (z 0)), (0, .ref b)]) hx hb dL_law_748 hl (by decide) rfl (fun ls hl => ?_)
                refine lv_iload hx hb dL_law_750 (lv_at hl 1 rfl) ?_
                refine lv_if_lt (tgt := 839) hx hb dL_law_752 (by decide) (fun c145 => ?_) (fun c145 => ?_)
                · have d145 : r105.toInt < (0) := (kc_lt (rfl : r105.toInt = r105.toInt) (by decide : (0 : Int32).toInt = 0)).mp c145
                  refine lv_iload hx hb dL_law_839 (lv_at hl 1 rfl) ?_
                  refine lv_iconst (v := (-1)) hx hb dL_law_841 (by decide) ?_
                  refine lv_icmp_ne (tgt := 884) hx hb dL_law_842 (by decide) (fun c146 => ?_) (fun c146 => ?_)
                  · have d146 : r105.toInt ≠ (-1) := mt (kc_eq (rfl : r105.toInt = r105.toInt) (by decide : (-1 : Int32).toInt = -1)).mpr c146
                    refine lv_goto (tgt := 1227) hx hb dL_law_884 (by decide) ?_
                    exact kk S O av lv q _ _ ls _ _ 1 on un ⟨⟨F, hK, hE, hNc, hX, hbl⟩, ⟨hP, hO⟩, ⟨hD, hDO⟩, hdis, hS, ⟨hI, hR, hW, hL⟩, hO9⟩ (by omega) (Or.inr ⟨rfl, rfl⟩) (by omega) (by omega) (by omega) (by omega) (lv_sub hl [0, 10, 11, 12, 13, 14, 15, 16, 17, 18, 19, 20, 21] rfl)
                  · have d146 : r105.toInt = (-1) := (kc_eq (rfl : r105.toInt = r105.toInt) (by decide : (-1 : Int32).toInt = -1)).mp c146
                    exfalso; omega
                · have d145 : ¬ (r105.toInt < (0)) := mt (kc_lt (rfl : r105.toInt = r105.toInt) (by decide : (0 : Int32).toInt = 0)).mpr c145
                  exfalso; omega
  · refine lv_aload_n hx hb dL_law_654 rfl (lv_at hl 16 rfl) ?_
    refine lv_iload hx hb dL_law_655 (lv_at hl 2 rfl) ?_
    refine kcallhI (kSthW (n := 2) (As := [.ref (z 0), .int od]) (rest := []) F hE hNc hK hP hD hS hA (kh_amount l g e0 S _ (z 0) od _ _ hI.ob0 (c_X5_amount_x l hl0 g e0 z S _ hI av lv q hR h73 od) (fun E h => h.1)) kw_273 kw_274 kw_61 kw_275 (by decide +kernel) ⟨Nat.le_of_ble_eq_true rfl, Nat.le_of_ble_eq_true rfl⟩ rfl hl.1 rfl (Nat.le_of_ble_eq_true rfl) dL_law_657 ⟨(by show k0 + 1 ≤ 1072639; omega), (by show n0 + 6 ≤ 5883708; omega)⟩) rfl hD hS hA (fun r147 T1 H locs hp hP hq1x hq2x hq3x hf1 hS => ?_)
    clear hq1x hq2x hq3x
    have hO := kO_keep hO hdis hf1
    obtain ⟨hT, nr147⟩ := kp_Ao (i := o9) hp hod (by omega) (by omega)
    subst hT
    clear hp
    refine lv_istore (lv' := [(19, .int r147), (18, .int 0), (17, .int 0), (16, .int od), (15, .int mm), (14, .int aa), (13, .int kd), (11, .long bf), (10, .int nx), (9, .int kx), (8, .int 1), (7, .int on), (6, .int un), (5, .ref ri), (4, .ref rb), (3, .ref rr), (2, .ref ra), (1, .ref (z 0)), (0, .ref b)]) hx hb dL_law_660 hl (by decide) rfl (fun ls hl => ?_)
    refine lv_iload hx hb dL_law_662 (lv_at hl 4 rfl) ?_
    refine lv_iconst (v := 3) hx hb dL_law_664 (by decide) ?_
    refine lv_irem hx hb dL_law_665 (by decide) ?_
    refine lv_topi (fun x148 ex148 => ?_)
    have nx148 : x148.toInt = ((m9 % 3 : Nat) : Int) := kt_rem ex148 hmm (by decide : (3 : Int32).toInt = ((3 : Nat) : Int)) (by omega) (by omega) (by omega)
    refine lv_if_gt (tgt := 675) hx hb dL_law_666 (by decide) (fun c149 => ?_) (fun c149 => ?_)
    · have d149 : (0) < x148.toInt := (kc_lt (by decide : (0 : Int32).toInt = 0) (rfl : x148.toInt = x148.toInt)).mp c149
      refine lv_iload hx hb dL_law_675 (lv_at hl 0 rfl) ?_
      refine lv_goto (tgt := 685) hx hb dL_law_677 (by decide) ?_
      refine lv_istore (lv' := [(20, .int r147), (19, .int r147), (18, .int 0), (17, .int 0), (16, .int od), (15, .int mm), (14, .int aa), (13, .int kd), (11, .long bf), (10, .int nx), (9, .int kx), (8, .int 1), (7, .int on), (6, .int un), (5, .ref ri), (4, .ref rb), (3, .ref rr), (2, .ref ra), (1, .ref (z 0)), (0, .ref b)]) hx hb dL_law_685 hl (by decide) rfl (fun ls hl => ?_)
      refine lv_iload hx hb dL_law_687 (lv_at hl 4 rfl) ?_
      refine lv_iload hx hb dL_law_689 (lv_at hl 12 rfl) ?_
      refine lv_icmp_ge (tgt := 706) hx hb dL_law_691 (by decide) (fun c150 => ?_) (fun c150 => ?_)
      · have d150 : on.toInt ≤ od.toInt := (kc_le (rfl : on.toInt = on.toInt) (rfl : od.toInt = od.toInt)).mp c150
        refine lv_iconst (v := 0) hx hb dL_law_706 (by decide) ?_
        refine lv_istore (lv' := [(21, .int 0), (20, .int r147), (19, .int r147), (18, .int 0), (17, .int 0), (16, .int od), (15, .int mm), (14, .int aa), (13, .int kd), (11, .long bf), (10, .int nx), (9, .int kx), (8, .int 1), (7, .int on), (6, .int un), (5, .ref ri), (4, .ref rb), (3, .ref rr), (2, .ref ra), (1, .ref (z 0)), (0, .ref b)]) hx hb dL_law_707 hl (by decide) rfl (fun ls hl => ?_)
        refine lv_iload hx hb dL_law_709 (lv_at hl 5 rfl) ?_
        refine lv_iload hx hb dL_law_711 (lv_at hl 13 rfl) ?_
        refine lv_icmp_ge (tgt := 724) hx hb dL_law_713 (by decide) (fun c151 => ?_) (fun c151 => ?_)
        · have d151 : on.toInt ≤ od.toInt := (kc_le (rfl : on.toInt = on.toInt) (rfl : od.toInt = od.toInt)).mp c151
          refine lv_iconst (v := 0) hx hb dL_law_724 (by decide) ?_
          refine lv_istore (lv' := [(22, .int 0), (21, .int 0), (20, .int r147), (19, .int r147), (18, .int 0), (17, .int 0), (16, .int od), (15, .int mm), (14, .int aa), (13, .int kd), (11, .long bf), (10, .int nx), (9, .int kx), (8, .int 1), (7, .int on), (6, .int un), (5, .ref ri), (4, .ref rb), (3, .ref rr), (2, .ref ra), (1, .ref (z 0)), (0, .ref b)]) hx hb dL_law_725 hl (by decide) rfl (fun ls hl => ?_)
          refine lv_aload_n hx hb dL_law_727 rfl (lv_at hl 20 rfl) ?_
          refine lv_iload hx hb dL_law_728 (lv_at hl 6 rfl) ?_
          refine lv_iload hx hb dL_law_730 (lv_at hl 2 rfl) ?_
          refine kcallhI (kSthW (n := 3) (As := [.ref (z 0), .int od, .int r147]) (rest := []) F hE hNc hK hP hD hS hA (kh_pick l g e0 S _ (z 0) od r147 _ _ hI.ob0 (c_X5_pick_x l hl0 g e0 z S _ hI av lv q hR hW od r147) (fun E h => h)) kw_396 kw_397 kw_61 kw_398 (by decide +kernel) ⟨Nat.le_of_ble_eq_true rfl, Nat.le_of_ble_eq_true rfl⟩ rfl hl.1 rfl (Nat.le_of_ble_eq_true rfl) dL_law_732 ⟨(by show k0 + 1 + 3 ≤ 1072639; omega), (by show n0 + 6 + 27 ≤ 5883708; omega)⟩) rfl hD hS hA (fun r152 S1 H locs hp hP hDs hD1 hq3x hf1 hS => ?_)
          clear hq3x
          have hO9x := kO_keep hO hdis hf1
          have hdis9 := kdis_keep hO hdis hDs
          rcases hp with hp | hp
          · have hO := hO9x
            have hdis := hdis9
            have hD := hD1
            obtain ⟨hI1, i2, f9, hi2, ei2, ef, hf9, hst, hp⟩ := hp
            obtain rfl : o9 = i2 := nI_inj (by omega) (by omega) ((kt_of hod (by omega)).symm.trans ei2)
            exfalso; omega
          · have hO := hO9x
            obtain ⟨hT, hrx⟩ : S = S1 ∧ r152.toInt ≤ -75 := by rcases hp with ⟨e, -, h⟩ | ⟨e, -, h⟩ | ⟨e, -, h⟩ | ⟨e, -, h⟩ <;> exact ⟨h.symm, by rw [e]; decide⟩
            subst hT
            clear hp
            refine lv_istore (lv' := [(17, .int r152), (22, .int 0), (21, .int 0), (20, .int r147), (19, .int r147), (18, .int 0), (16, .int od), (15, .int mm), (14, .int aa), (13, .int kd), (11, .long bf), (10, .int nx), (9, .int kx), (8, .int 1), (7, .int on), (6, .int un), (5, .ref ri), (4, .ref rb), (3, .ref rr), (2, .ref ra), (1, .ref (z 0)), (0, .ref b)]) hx hb dL_law_735 hl (by decide) rfl (fun ls hl => ?_)
            refine lv_iload hx hb dL_law_737 (lv_at hl 0 rfl) ?_
            refine lv_iconst (v := (-1)) hx hb dL_law_739 (by decide) ?_
            refine lv_icmp_ge (tgt := 747) hx hb dL_law_740 (by decide) (fun c153 => ?_) (fun c153 => ?_)
            · have d153 : (-1) ≤ r152.toInt := (kc_le (by decide : (-1 : Int32).toInt = -1) (rfl : r152.toInt = r152.toInt)).mp c153
              exfalso; omega
            · have d153 : ¬ ((-1) ≤ r152.toInt) := mt (kc_le (by decide : (-1 : Int32).toInt = -1) (rfl : r152.toInt = r152.toInt)).mpr c153
              refine lv_iconst (v := 1) hx hb dL_law_743 (by decide) ?_
              refine lv_goto (tgt := 748) hx hb dL_law_744 (by decide) ?_
              refine lv_istore (lv' := [(18, .int 1), (17, .int r152), (22, .int 0), (21, .int 0), (20, .int r147), (19, .int r147), (16, .int od), (15, .int mm), (14, .int aa), (13, .int kd), (11, .long bf), (10, .int nx), (9, .int kx), (8, .int 1), (7, .int on), (6, .int un), (5, .ref ri), (4, .ref rb), (3, .ref rr), (2, .ref ra), (1, .ref (z 0)), (0, .ref b)]) hx hb dL_law_748 hl (by decide) rfl (fun ls hl => ?_)
              refine lv_iload hx hb dL_law_750 (lv_at hl 1 rfl) ?_
              refine lv_if_lt (tgt := 839) hx hb dL_law_752 (by decide) (fun c154 => ?_) (fun c154 => ?_)
              · have d154 : r152.toInt < (0) := (kc_lt (rfl : r152.toInt = r152.toInt) (by decide : (0 : Int32).toInt = 0)).mp c154
                refine lv_iload hx hb dL_law_839 (lv_at hl 1 rfl) ?_
                refine lv_iconst (v := (-1)) hx hb dL_law_841 (by decide) ?_
                refine lv_icmp_ne (tgt := 884) hx hb dL_law_842 (by decide) (fun c155 => ?_) (fun c155 => ?_)
                · have d155 : r152.toInt ≠ (-1) := mt (kc_eq (rfl : r152.toInt = r152.toInt) (by decide : (-1 : Int32).toInt = -1)).mpr c155
                  refine lv_goto (tgt := 1227) hx hb dL_law_884 (by decide) ?_
                  exact kk S O av lv q _ _ ls _ _ 1 on un ⟨⟨F, hK, hE, hNc, hX, hbl⟩, ⟨hP, hO⟩, ⟨hD, hDO⟩, hdis, hS, ⟨hI, hR, hW, hL⟩, hO9⟩ (by omega) (Or.inr ⟨rfl, rfl⟩) (by omega) (by omega) (by omega) (by omega) (lv_sub hl [0, 10, 11, 12, 13, 14, 15, 16, 17, 18, 19, 20, 21] rfl)
                · have d155 : r152.toInt = (-1) := (kc_eq (rfl : r152.toInt = r152.toInt) (by decide : (-1 : Int32).toInt = -1)).mp c155
                  exfalso; omega
              · have d154 : ¬ (r152.toInt < (0)) := mt (kc_lt (rfl : r152.toInt = r152.toInt) (by decide : (0 : Int32).toInt = 0)).mpr c154
                exfalso; omega
        · have d151 : ¬ (on.toInt ≤ od.toInt) := mt (kc_le (rfl : on.toInt = on.toInt) (rfl : od.toInt = od.toInt)).mpr c151
          exfalso; omega
      · have d150 : ¬ (on.toInt ≤ od.toInt) := mt (kc_le (rfl : on.toInt = on.toInt) (rfl : od.toInt = od.toInt)).mpr c150
        exfalso; omega
    · have d149 : ¬ ((0) < x148.toInt) := mt (kc_lt (by decide : (0 : Int32).toInt = 0) (rfl : x148.toInt = x148.toInt)).mpr c149
      refine lv_iload hx hb dL_law_669 (lv_at hl 0 rfl) ?_
      refine lv_iconst (v := 1) hx hb dL_law_671 (by decide) ?_
      refine lv_icmp_ge (tgt := 680) hx hb dL_law_672 (by decide) (fun c156 => ?_) (fun c156 => ?_)
      · have d156 : (1) ≤ r147.toInt := (kc_le (by decide : (1 : Int32).toInt = 1) (rfl : r147.toInt = r147.toInt)).mp c156
        exfalso; omega
      · have d156 : ¬ ((1) ≤ r147.toInt) := mt (kc_le (by decide : (1 : Int32).toInt = 1) (rfl : r147.toInt = r147.toInt)).mpr c156
        refine lv_iload hx hb dL_law_675 (lv_at hl 0 rfl) ?_
        refine lv_goto (tgt := 685) hx hb dL_law_677 (by decide) ?_
        refine lv_istore (lv' := [(20, .int r147), (19, .int r147), (18, .int 0), (17, .int 0), (16, .int od), (15, .int mm), (14, .int aa), (13, .int kd), (11, .long bf), (10, .int nx), (9, .int kx), (8, .int 1), (7, .int on), (6, .int un), (5, .ref ri), (4, .ref rb), (3, .ref rr), (2, .ref ra), (1, .ref (z 0)), (0, .ref b)]) hx hb dL_law_685 hl (by decide) rfl (fun ls hl => ?_)
        refine lv_iload hx hb dL_law_687 (lv_at hl 4 rfl) ?_
        refine lv_iload hx hb dL_law_689 (lv_at hl 12 rfl) ?_
        refine lv_icmp_ge (tgt := 706) hx hb dL_law_691 (by decide) (fun c157 => ?_) (fun c157 => ?_)
        · have d157 : on.toInt ≤ od.toInt := (kc_le (rfl : on.toInt = on.toInt) (rfl : od.toInt = od.toInt)).mp c157
          refine lv_iconst (v := 0) hx hb dL_law_706 (by decide) ?_
          refine lv_istore (lv' := [(21, .int 0), (20, .int r147), (19, .int r147), (18, .int 0), (17, .int 0), (16, .int od), (15, .int mm), (14, .int aa), (13, .int kd), (11, .long bf), (10, .int nx), (9, .int kx), (8, .int 1), (7, .int on), (6, .int un), (5, .ref ri), (4, .ref rb), (3, .ref rr), (2, .ref ra), (1, .ref (z 0)), (0, .ref b)]) hx hb dL_law_707 hl (by decide) rfl (fun ls hl => ?_)
          refine lv_iload hx hb dL_law_709 (lv_at hl 5 rfl) ?_
          refine lv_iload hx hb dL_law_711 (lv_at hl 13 rfl) ?_
          refine lv_icmp_ge (tgt := 724) hx hb dL_law_713 (by decide) (fun c158 => ?_) (fun c158 => ?_)
          · have d158 : on.toInt ≤ od.toInt := (kc_le (rfl : on.toInt = on.toInt) (rfl : od.toInt = od.toInt)).mp c158
            refine lv_iconst (v := 0) hx hb dL_law_724 (by decide) ?_
            refine lv_istore (lv' := [(22, .int 0), (21, .int 0), (20, .int r147), (19, .int r147), (18, .int 0), (17, .int 0), (16, .int od), (15, .int mm), (14, .int aa), (13, .int kd), (11, .long bf), (10, .int nx), (9, .int kx), (8, .int 1), (7, .int on), (6, .int un), (5, .ref ri), (4, .ref rb), (3, .ref rr), (2, .ref ra), (1, .ref (z 0)), (0, .ref b)]) hx hb dL_law_725 hl (by decide) rfl (fun ls hl => ?_)
            refine lv_aload_n hx hb dL_law_727 rfl (lv_at hl 20 rfl) ?_
            refine lv_iload hx hb dL_law_728 (lv_at hl 6 rfl) ?_
            refine lv_iload hx hb dL_law_730 (lv_at hl 2 rfl) ?_
            refine kcallhI (kSthW (n := 3) (As := [.ref (z 0), .int od, .int r147]) (rest := []) F hE hNc hK hP hD hS hA (kh_pick l g e0 S _ (z 0) od r147 _ _ hI.ob0 (c_X5_pick_x l hl0 g e0 z S _ hI av lv q hR hW od r147) (fun E h => h)) kw_396 kw_397 kw_61 kw_398 (by decide +kernel) ⟨Nat.le_of_ble_eq_true rfl, Nat.le_of_ble_eq_true rfl⟩ rfl hl.1 rfl (Nat.le_of_ble_eq_true rfl) dL_law_732 ⟨(by show k0 + 1 + 3 ≤ 1072639; omega), (by show n0 + 6 + 27 ≤ 5883708; omega)⟩) rfl hD hS hA (fun r159 S1 H locs hp hP hDs hD1 hq3x hf1 hS => ?_)
            clear hq3x
            have hO9x := kO_keep hO hdis hf1
            have hdis9 := kdis_keep hO hdis hDs
            rcases hp with hp | hp
            · have hO := hO9x
              have hdis := hdis9
              have hD := hD1
              obtain ⟨hI1, i2, f9, hi2, ei2, ef, hf9, hst, hp⟩ := hp
              obtain rfl : o9 = i2 := nI_inj (by omega) (by omega) ((kt_of hod (by omega)).symm.trans ei2)
              exfalso; omega
            · have hO := hO9x
              obtain ⟨hT, hrx⟩ : S = S1 ∧ r159.toInt ≤ -75 := by rcases hp with ⟨e, -, h⟩ | ⟨e, -, h⟩ | ⟨e, -, h⟩ | ⟨e, -, h⟩ <;> exact ⟨h.symm, by rw [e]; decide⟩
              subst hT
              clear hp
              refine lv_istore (lv' := [(17, .int r159), (22, .int 0), (21, .int 0), (20, .int r147), (19, .int r147), (18, .int 0), (16, .int od), (15, .int mm), (14, .int aa), (13, .int kd), (11, .long bf), (10, .int nx), (9, .int kx), (8, .int 1), (7, .int on), (6, .int un), (5, .ref ri), (4, .ref rb), (3, .ref rr), (2, .ref ra), (1, .ref (z 0)), (0, .ref b)]) hx hb dL_law_735 hl (by decide) rfl (fun ls hl => ?_)
              refine lv_iload hx hb dL_law_737 (lv_at hl 0 rfl) ?_
              refine lv_iconst (v := (-1)) hx hb dL_law_739 (by decide) ?_
              refine lv_icmp_ge (tgt := 747) hx hb dL_law_740 (by decide) (fun c160 => ?_) (fun c160 => ?_)
              · have d160 : (-1) ≤ r159.toInt := (kc_le (by decide : (-1 : Int32).toInt = -1) (rfl : r159.toInt = r159.toInt)).mp c160
                exfalso; omega
              · have d160 : ¬ ((-1) ≤ r159.toInt) := mt (kc_le (by decide : (-1 : Int32).toInt = -1) (rfl : r159.toInt = r159.toInt)).mpr c160
                refine lv_iconst (v := 1) hx hb dL_law_743 (by decide) ?_
                refine lv_goto (tgt := 748) hx hb dL_law_744 (by decide) ?_
                refine lv_istore (lv' := [(18, .int 1), (17, .int r159), (22, .int 0), (21, .int 0), (20, .int r147), (19, .int r147), (16, .int od), (15, .int mm), (14, .int aa), (13, .int kd), (11, .long bf), (10, .int nx), (9, .int kx), (8, .int 1), (7, .int on), (6, .int un), (5, .ref ri), (4, .ref rb), (3, .ref rr), (2, .ref ra), (1, .ref (z 0)), (0, .ref b)]) hx hb dL_law_748 hl (by decide) rfl (fun ls hl => ?_)
                refine lv_iload hx hb dL_law_750 (lv_at hl 1 rfl) ?_
                refine lv_if_lt (tgt := 839) hx hb dL_law_752 (by decide) (fun c161 => ?_) (fun c161 => ?_)
                · have d161 : r159.toInt < (0) := (kc_lt (rfl : r159.toInt = r159.toInt) (by decide : (0 : Int32).toInt = 0)).mp c161
                  refine lv_iload hx hb dL_law_839 (lv_at hl 1 rfl) ?_
                  refine lv_iconst (v := (-1)) hx hb dL_law_841 (by decide) ?_
                  refine lv_icmp_ne (tgt := 884) hx hb dL_law_842 (by decide) (fun c162 => ?_) (fun c162 => ?_)
                  · have d162 : r159.toInt ≠ (-1) := mt (kc_eq (rfl : r159.toInt = r159.toInt) (by decide : (-1 : Int32).toInt = -1)).mpr c162
                    refine lv_goto (tgt := 1227) hx hb dL_law_884 (by decide) ?_
                    exact kk S O av lv q _ _ ls _ _ 1 on un ⟨⟨F, hK, hE, hNc, hX, hbl⟩, ⟨hP, hO⟩, ⟨hD, hDO⟩, hdis, hS, ⟨hI, hR, hW, hL⟩, hO9⟩ (by omega) (Or.inr ⟨rfl, rfl⟩) (by omega) (by omega) (by omega) (by omega) (lv_sub hl [0, 10, 11, 12, 13, 14, 15, 16, 17, 18, 19, 20, 21] rfl)
                  · have d162 : r159.toInt = (-1) := (kc_eq (rfl : r159.toInt = r159.toInt) (by decide : (-1 : Int32).toInt = -1)).mp c162
                    exfalso; omega
                · have d161 : ¬ (r159.toInt < (0)) := mt (kc_lt (rfl : r159.toInt = r159.toInt) (by decide : (0 : Int32).toInt = 0)).mpr c161
                  exfalso; omega
          · have d158 : ¬ (on.toInt ≤ od.toInt) := mt (kc_le (rfl : on.toInt = on.toInt) (rfl : od.toInt = od.toInt)).mpr c158
            exfalso; omega
        · have d157 : ¬ (on.toInt ≤ od.toInt) := mt (kc_le (rfl : on.toInt = on.toInt) (rfl : od.toInt = od.toInt)).mpr c157
          exfalso; omega
