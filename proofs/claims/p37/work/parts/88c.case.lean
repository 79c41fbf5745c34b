set_option maxHeartbeats 8000000 in
set_option maxRecDepth 100000 in
theorem kcs_setBlocked {p : Program} {l : Launch} {e : Env} {s : State} {m : MethodId} {below : List Frame} {meth : Method} {c : Code} {b L : Nat} {xs : Nat → Int32} {g : kG} {e0 : Nat} {z av lv : Nat → Nat} {S O : wPS} {q : qS} {ra rr rb ri : Nat} {H : Heap} {locs : List Loc} {k0 n0 : Nat} {Q : State → Prop} {ls : Array Slot} (hl0 : l.stackTraces = false) (hL9 : L ≤ 260) (C : kLw p s m c b L xs g e0 z av lv S O q ra rr rb ri H locs) (hU : q_U q ≤ 4000) (hk0 : k0 + 3000 ≤ 1072639) (hn0 : n0 + 20000 ≤ 5883708) {kd nx kx mm aa od on un : Int32} {bf : Int64} {a m9 o9 : Nat} (ha : a ≤ 3) (haa : aa.toInt = ((a : Nat) : Int)) (hm9 : m9 < 1000) (hmm : mm.toInt = ((m9 : Nat) : Int)) (ho9 : o9 ≤ q 73 0) (hod : od.toInt = ((o9 : Nat) : Int)) (hon : on.toInt = ((q 73 0 : Nat) : Int)) (hun : un.toInt = ((q_U q : Nat) : Int)) (hl : lv_has ls 23 [(18, .int 0), (17, .int 0), (16, .int od), (15, .int mm), (14, .int aa), (13, .int kd), (11, .long bf), (10, .int nx), (9, .int kx), (8, .int 1), (7, .int on), (6, .int un), (5, .ref ri), (4, .ref rb), (3, .ref rr), (2, .ref ra), (1, .ref (z 0)), (0, .ref b)])
    (kk : ∀ (S1 O1 : wPS) (av1 lv1 : Nat → Nat) (q1 : qS) (H1 : Heap) (locs1 : List Loc) (ls1 : Array Slot) (k1 n1 : Nat) (th on1 un1 : Int32), kLw p s m c b L xs g e0 z av1 lv1 S1 O1 q1 ra rr rb ri H1 locs1 → q_U q1 ≤ q_U q + 14 → (th = 0 ∨ (th = 1 ∧ q_sm q1 = q_sm q)) → on1.toInt = ((q1 73 0 : Nat) : Int) → un1.toInt = ((q_U q1 : Nat) : Int) → k1 ≤ k0 + 3000 → n1 ≤ n0 + 20000 → lv_has ls1 23 [(18, .int th), (11, .long bf), (10, .int nx), (9, .int kx), (8, .int 1), (7, .int on1), (6, .int un1), (5, .ref ri), (4, .ref rb), (3, .ref rr), (2, .ref ra), (1, .ref (z 0)), (0, .ref b)] → W p l e room_1 s m #[Value.ref b] below meth c H1 locs1 k1 n1 Q (F0 m 1227 ls1 [])) :
    W p l e room_1 s m #[Value.ref b] below meth c H locs k0 n0 Q (F0 m 431 ls []) := by
  obtain ⟨⟨F, hK, hE, hNc, hX, hbl⟩, ⟨hP, hO⟩, ⟨hD, hDO⟩, hdis, hS, ⟨hI, hR, hW, hL⟩, hO9⟩ := C
  have hx := F.1
  have hb := F.2.1
  have hbA : ¬ kAs s b := Nat.not_le.mpr hbl
  have hA : ∀ q : Nat, s.heap.size ≤ q → kAs s q := fun _ h => h
  have hU5 : q_U q ≤ 5000 := by omega
  have h721 : q 72 0 = 3 := hL.1
  have h72 : q 72 0 ≤ 12 := by omega
  have h73 : q 73 0 ≤ 12 := hW.1.1.2.1
  have hro : q 42 0 ≤ 504 := q_room hW.1.1 hW.1.2.2.2.1 hW.1.2.2.2.2.1
  have hroom : q 42 0 < 516 := by omega
  have h57 : q 57 0 ≤ 20 := hW.1.2.2.2.2.1.1
  have h56 : q 56 0 ≤ 1439 := hL.2.2.2.2.2.1
  have h25 : ∀ i, i < q 73 0 → q 25 i < 2 ^ 31 := fun i hi => by have := (hW.1.2.2.1 i hi).2.2.2; omega
  obtain ⟨⟨oa, la⟩, ⟨orr, lr⟩, ⟨obb, lb⟩, ⟨oi, li⟩, hne, hra, hrb, hri⟩ := id hO9
  refine lv_iload hx hb dL_law_431 (lv_at hl 3 rfl) ?_
  refine lv_iconst (v := 4) hx hb dL_law_433 (by decide) ?_
  refine lv_irem hx hb dL_law_434 (by decide) ?_
  refine lv_topi (fun x1 ex1 => ?_)
  have nx1 : x1.toInt = ((m9 % 4 : Nat) : Int) := kt_rem ex1 hmm (by decide : (4 : Int32).toInt = ((4 : Nat) : Int)) (by omega) (by omega) (by omega)
  refine lv_istore (lv' := [(19, .int x1), (18, .int 0), (17, .int 0), (16, .int od), (15, .int mm), (14, .int aa), (13, .int kd), (11, .long bf), (10, .int nx), (9, .int kx), (8, .int 1), (7, .int on), (6, .int un), (5, .ref ri), (4, .ref rb), (3, .ref rr), (2, .ref ra), (1, .ref (z 0)), (0, .ref b)]) hx hb dL_law_435 hl (by decide) rfl (fun ls hl => ?_)
  refine lv_aload_n hx hb dL_law_437 rfl (lv_at hl 17 rfl) ?_
  refine lv_iload hx hb dL_law_438 (lv_at hl 0 rfl) ?_
  refine lv_iload hx hb dL_law_440 (lv_at hl 4 rfl) ?_
  refine lv_iconst (v := 5) hx hb dL_law_442 (by decide) ?_
  refine lv_irem hx hb dL_law_443 (by decide) ?_
  refine lv_topi (fun x2 ex2 => ?_)
  have nx2 : x2.toInt = ((m9 % 5 : Nat) : Int) := kt_rem ex2 hmm (by decide : (5 : Int32).toInt = ((5 : Nat) : Int)) (by omega) (by omega) (by omega)
  refine lv_iconst (v := 2) hx hb dL_law_444 (by decide) ?_
  refine lv_icmp_ge (tgt := 452) hx hb dL_law_445 (by decide) (fun c3 => ?_) (fun c3 => ?_)
  · have d3 : (2) ≤ x2.toInt := (kc_le (by decide : (2 : Int32).toInt = 2) (rfl : x2.toInt = x2.toInt)).mp c3
    refine lv_iconst (v := 0) hx hb dL_law_452 (by decide) ?_
    refine kcallhI (kSthW (n := 3) (As := [.ref (z 0), .int x1, .int 0]) (rest := []) F hE hNc hK hP hD hS hA (kh_setBlocked l g e0 S _ (z 0) x1 0 _ _ hI.ob0 (c_X5_setBlocked_x l hl0 g e0 z S _ hI av lv q hR hW 0 x1 0 rfl (by decide) (Or.inl rfl)) (fun E h => h.1)) kw_353 kw_354 kw_61 kw_355 (by decide +kernel) ⟨Nat.le_of_ble_eq_true rfl, Nat.le_of_ble_eq_true rfl⟩ rfl hl.1 rfl (Nat.le_of_ble_eq_true rfl) dL_law_453 ⟨(by show k0 + 1 ≤ 1072639; omega), (by show n0 + 6 ≤ 5883708; omega)⟩) rfl hD hS hA (fun r4 S1 H locs hp hP hDs hD1 hq3x hf1 hS => ?_)
    clear hq3x
    have hO9x := kO_keep hO hdis hf1
    have hdis9 := kdis_keep hO hdis hDs
    rcases hp with hp | hp
    · have hO := hO9x
      have hdis := hdis9
      have hD := hD1
      obtain ⟨v9, ⟨hI1, j2, hj2, ej2, ev, hR1⟩, hv9⟩ := hp
      obtain rfl : j2 = m9 % 4 := nI_inj (by omega) (by omega) (ej2.symm.trans (kt_of nx1 (by omega)))
      have hb1 := hL.2.2.1 (m9 % 4) hj2
      obtain ⟨q1, hq1⟩ : ∃ q9 : qS, q9 = q_blk (m9 % 4) 0 q := ⟨_, rfl⟩
      rw [← hq1] at hR1
      have hW1 : q_W q1 := by rw [hq1]; exact q_blk_W hW
      have hL1 : q_L q1 := by rw [hq1]; exact q_blk_L hL (by decide)
      have hU1 : q_U q1 = q_U q := q_U_of (fun k hk i => by rw [hq1]; exact q_blk_o (q_mem (P := fun k => k ∉ [1, 14, 24, 42, 43, 44]) hk (by decide)))
      have fk : ∀ k, k ∈ [10, 11, 21, 73] → ∀ i, q1 k i = q k i := fun k hk i => by rw [hq1]; exact q_blk_o (q_mem (P := fun k => k ∉ [1, 14, 24, 42, 43, 44]) hk (by decide))
      have f1 : q1 1 (m9 % 4) = 0 := by rw [hq1, q_blk_1f, if_pos rfl]
      have f1o : ∀ i, i ≠ m9 % 4 → q1 1 i = q 1 i := fun i hi => by rw [hq1, q_blk_1f, if_neg hi]
      have f73 : q1 73 0 = q 73 0 := fk 73 (by decide) 0
      rcases hv9 with ⟨hv9, er⟩ | ⟨hv9, er⟩
      · have z9 : q 1 (m9 % 4) ≠ 0 := fun h => hv9 (ev.trans (by rw [h]; rfl))
        subst er
        have hI := hI1
        have hR := hR1
        have hW := hW1
        have hL := hL1
        clear hro hroom h57 h56
        have h721 : q1 72 0 = 3 := hL.1
        have h72 : q1 72 0 ≤ 12 := by omega
        have h73 : q1 73 0 ≤ 12 := hW.1.1.2.1
        have hro : q1 42 0 ≤ 504 := q_room hW.1.1 hW.1.2.2.2.1 hW.1.2.2.2.2.1
        have hroom : q1 42 0 < 516 := by omega
        have h57 : q1 57 0 ≤ 20 := hW.1.2.2.2.2.1.1
        have h56 : q1 56 0 ≤ 1439 := hL.2.2.2.2.2.1
        have h25 : ∀ i, i < q1 73 0 → q1 25 i < 2 ^ 31 := fun i hi => by have := (hW.1.2.2.1 i hi).2.2.2; omega
        have hU5 : q_U q1 ≤ 5000 := by omega
        refine lv_istore (lv' := [(17, .int 1), (19, .int x1), (18, .int 0), (16, .int od), (15, .int mm), (14, .int aa), (13, .int kd), (11, .long bf), (10, .int nx), (9, .int kx), (8, .int 1), (7, .int on), (6, .int un), (5, .ref ri), (4, .ref rb), (3, .ref rr), (2, .ref ra), (1, .ref (z 0)), (0, .ref b)]) hx hb dL_law_456 hl (by decide) rfl (fun ls hl => ?_)
        refine lv_iload hx hb dL_law_458 (lv_at hl 0 rfl) ?_
        refine lv_aload hx hb dL_law_460 (lv_at hl 14 rfl) ?_
        refine lv_iload hx hb dL_law_462 (lv_at hl 1 rfl) ?_
        refine rd_Z F hK hO obb (by rw [lb]; exact kt_in nx1 (by omega) (by decide)) dL_law_464 ?_
        refine lv_topi (fun x5 ex5 => ?_)
        have nx5 : x5.toInt = ((q 1 (m9 % 4) : Nat) : Int) := kt_nI (by rw [ex5, kt_clamp nx1 (by omega)]; exact hrb (m9 % 4) (by omega)) (by omega)
        refine lv_if_eq (tgt := 472) hx hb dL_law_465 (by decide) (fun c6 => ?_) (fun c6 => ?_)
        · have d6 : x5.toInt = (0) := (kc_eq (rfl : x5.toInt = x5.toInt) (by decide : (0 : Int32).toInt = 0)).mp c6
          exfalso; omega
        · have d6 : x5.toInt ≠ (0) := mt (kc_eq (rfl : x5.toInt = x5.toInt) (by decide : (0 : Int32).toInt = 0)).mpr c6
          refine lv_iconst (v := 1) hx hb dL_law_468 (by decide) ?_
          refine lv_goto (tgt := 473) hx hb dL_law_469 (by decide) ?_
          refine lv_icmp_ne (tgt := 480) hx hb dL_law_473 (by decide) (fun c7 => ?_) (fun c7 => ?_)
          · exact absurd c7 (by decide)
          · refine lv_iconst (v := 1) hx hb dL_law_476 (by decide) ?_
            refine lv_goto (tgt := 481) hx hb dL_law_477 (by decide) ?_
            refine lv_istore (lv' := [(8, .int 1), (17, .int 1), (19, .int x1), (18, .int 0), (16, .int od), (15, .int mm), (14, .int aa), (13, .int kd), (11, .long bf), (10, .int nx), (9, .int kx), (7, .int on), (6, .int un), (5, .ref ri), (4, .ref rb), (3, .ref rr), (2, .ref ra), (1, .ref (z 0)), (0, .ref b)]) hx hb dL_law_481 hl (by decide) rfl (fun ls hl => ?_)
            refine lv_aload hx hb dL_law_483 (lv_at hl 14 rfl) ?_
            refine lv_iload hx hb dL_law_485 (lv_at hl 2 rfl) ?_
            refine lv_iload hx hb dL_law_487 (lv_at hl 5 rfl) ?_
            refine lv_iconst (v := 5) hx hb dL_law_489 (by decide) ?_
            refine lv_irem hx hb dL_law_490 (by decide) ?_
            refine lv_topi (fun x8 ex8 => ?_)
            have nx8 : x8.toInt = ((m9 % 5 : Nat) : Int) := kt_rem ex8 hmm (by decide : (5 : Int32).toInt = ((5 : Nat) : Int)) (by omega) (by omega) (by omega)
            refine lv_iconst (v := 2) hx hb dL_law_491 (by decide) ?_
            refine lv_icmp_ge (tgt := 499) hx hb dL_law_492 (by decide) (fun c9 => ?_) (fun c9 => ?_)
            · have d9 : (2) ≤ x8.toInt := (kc_le (by decide : (2 : Int32).toInt = 2) (rfl : x8.toInt = x8.toInt)).mp c9
              refine lv_iconst (v := 0) hx hb dL_law_499 (by decide) ?_
              refine rt2_Z F hK hP hO hD hDO hdis hS obb (by rw [lb]; exact kt_in nx1 (by omega) (by decide)) dL_law_500 (fun H locs hP hO hDO hS => ?_)
              rw [kt_clamp nx1 (by omega)] at hO hDO
              have hdis : kdis S1 (setX O rb (upd (pX O rb) (m9 % 4) (vp_nar .boolean 0))) := hdis
              have hO9 := q_O_blk (q' := q1) (x := vp_nar .boolean 0) hO9 fk f1 f1o (by decide)
              obtain ⟨⟨oa, la⟩, ⟨orr, lr⟩, ⟨obb, lb⟩, ⟨oi, li⟩, hne, hra, hrb, hri⟩ := id hO9
              refine lv_goto (tgt := 1227) hx hb dL_law_501 (by decide) ?_
              exact kk S1 (setX O rb (upd (pX O rb) (m9 % 4) (vp_nar .boolean 0))) av lv q1 _ _ ls _ _ 0 on un ⟨⟨F, hK, hE, hNc, hX, hbl⟩, ⟨hP, hO⟩, ⟨hD, hDO⟩, hdis, hS, ⟨hI, hR, hW, hL⟩, hO9⟩ (by omega) (Or.inl rfl) (by omega) (by omega) (by omega) (by omega) (lv_sub hl [3, 8, 9, 10, 0, 11, 12, 13, 14, 15, 16, 17, 18] rfl)
            · have d9 : ¬ ((2) ≤ x8.toInt) := mt (kc_le (by decide : (2 : Int32).toInt = 2) (rfl : x8.toInt = x8.toInt)).mpr c9
              exfalso; omega
      · have z9 : q 1 (m9 % 4) = 0 := nI_inj (by omega) (by decide) (ev.symm.trans hv9)
        subst er
        have hI := hI1
        have hR := hR1
        have hW := hW1
        have hL := hL1
        clear hro hroom h57 h56
        have h721 : q1 72 0 = 3 := hL.1
        have h72 : q1 72 0 ≤ 12 := by omega
        have h73 : q1 73 0 ≤ 12 := hW.1.1.2.1
        have hro : q1 42 0 ≤ 504 := q_room hW.1.1 hW.1.2.2.2.1 hW.1.2.2.2.2.1
        have hroom : q1 42 0 < 516 := by omega
        have h57 : q1 57 0 ≤ 20 := hW.1.2.2.2.2.1.1
        have h56 : q1 56 0 ≤ 1439 := hL.2.2.2.2.2.1
        have h25 : ∀ i, i < q1 73 0 → q1 25 i < 2 ^ 31 := fun i hi => by have := (hW.1.2.2.1 i hi).2.2.2; omega
        have hU5 : q_U q1 ≤ 5000 := by omega
        refine lv_istore (lv' := [(17, .int 0), (19, .int x1), (18, .int 0), (16, .int od), (15, .int mm), (14, .int aa), (13, .int kd), (11, .long bf), (10, .int nx), (9, .int kx), (8, .int 1), (7, .int on), (6, .int un), (5, .ref ri), (4, .ref rb), (3, .ref rr), (2, .ref ra), (1, .ref (z 0)), (0, .ref b)]) hx hb dL_law_456 hl (by decide) rfl (fun ls hl => ?_)
        refine lv_iload hx hb dL_law_458 (lv_at hl 0 rfl) ?_
        refine lv_aload hx hb dL_law_460 (lv_at hl 14 rfl) ?_
        refine lv_iload hx hb dL_law_462 (lv_at hl 1 rfl) ?_
        refine rd_Z F hK hO obb (by rw [lb]; exact kt_in nx1 (by omega) (by decide)) dL_law_464 ?_
        refine lv_topi (fun x10 ex10 => ?_)
        have nx10 : x10.toInt = ((q 1 (m9 % 4) : Nat) : Int) := kt_nI (by rw [ex10, kt_clamp nx1 (by omega)]; exact hrb (m9 % 4) (by omega)) (by omega)
        refine lv_if_eq (tgt := 472) hx hb dL_law_465 (by decide) (fun c11 => ?_) (fun c11 => ?_)
        · have d11 : x10.toInt = (0) := (kc_eq (rfl : x10.toInt = x10.toInt) (by decide : (0 : Int32).toInt = 0)).mp c11
          refine lv_iconst (v := 0) hx hb dL_law_472 (by decide) ?_
          refine lv_icmp_ne (tgt := 480) hx hb dL_law_473 (by decide) (fun c12 => ?_) (fun c12 => ?_)
          · exact absurd c12 (by decide)
          · refine lv_iconst (v := 1) hx hb dL_law_476 (by decide) ?_
            refine lv_goto (tgt := 481) hx hb dL_law_477 (by decide) ?_
            refine lv_istore (lv' := [(8, .int 1), (17, .int 0), (19, .int x1), (18, .int 0), (16, .int od), (15, .int mm), (14, .int aa), (13, .int kd), (11, .long bf), (10, .int nx), (9, .int kx), (7, .int on), (6, .int un), (5, .ref ri), (4, .ref rb), (3, .ref rr), (2, .ref ra), (1, .ref (z 0)), (0, .ref b)]) hx hb dL_law_481 hl (by decide) rfl (fun ls hl => ?_)
            refine lv_aload hx hb dL_law_483 (lv_at hl 14 rfl) ?_
            refine lv_iload hx hb dL_law_485 (lv_at hl 2 rfl) ?_
            refine lv_iload hx hb dL_law_487 (lv_at hl 5 rfl) ?_
            refine lv_iconst (v := 5) hx hb dL_law_489 (by decide) ?_
            refine lv_irem hx hb dL_law_490 (by decide) ?_
            refine lv_topi (fun x13 ex13 => ?_)
            have nx13 : x13.toInt = ((m9 % 5 : Nat) : Int) := kt_rem ex13 hmm (by decide : (5 : Int32).toInt = ((5 : Nat) : Int)) (by omega) (by omega) (by omega)
            refine lv_iconst (v := 2) hx hb dL_law_491 (by decide) ?_
            refine lv_icmp_ge (tgt := 499) hx hb dL_law_492 (by decide) (fun c14 => ?_) (fun c14 => ?_)
            · have d14 : (2) ≤ x13.toInt := (kc_le (by decide : (2 : Int32).toInt = 2) (rfl : x13.toInt = x13.toInt)).mp c14
              refine lv_iconst (v := 0) hx hb dL_law_499 (by decide) ?_
              refine rt2_Z F hK hP hO hD hDO hdis hS obb (by rw [lb]; exact kt_in nx1 (by omega) (by decide)) dL_law_500 (fun H locs hP hO hDO hS => ?_)
              rw [kt_clamp nx1 (by omega)] at hO hDO
              have hdis : kdis S1 (setX O rb (upd (pX O rb) (m9 % 4) (vp_nar .boolean 0))) := hdis
              have hO9 := q_O_blk (q' := q1) (x := vp_nar .boolean 0) hO9 fk f1 f1o (by decide)
              obtain ⟨⟨oa, la⟩, ⟨orr, lr⟩, ⟨obb, lb⟩, ⟨oi, li⟩, hne, hra, hrb, hri⟩ := id hO9
              refine lv_goto (tgt := 1227) hx hb dL_law_501 (by decide) ?_
              exact kk S1 (setX O rb (upd (pX O rb) (m9 % 4) (vp_nar .boolean 0))) av lv q1 _ _ ls _ _ 0 on un ⟨⟨F, hK, hE, hNc, hX, hbl⟩, ⟨hP, hO⟩, ⟨hD, hDO⟩, hdis, hS, ⟨hI, hR, hW, hL⟩, hO9⟩ (by omega) (Or.inl rfl) (by omega) (by omega) (by omega) (by omega) (lv_sub hl [3, 8, 9, 10, 0, 11, 12, 13, 14, 15, 16, 17, 18] rfl)
            · have d14 : ¬ ((2) ≤ x13.toInt) := mt (kc_le (by decide : (2 : Int32).toInt = 2) (rfl : x13.toInt = x13.toInt)).mpr c14
              exfalso; omega
        · have d11 : x10.toInt ≠ (0) := mt (kc_eq (rfl : x10.toInt = x10.toInt) (by decide : (0 : Int32).toInt = 0)).mpr c11
          exfalso; omega
    · have hO := hO9x
      obtain ⟨-, ⟨-, hx⟩, -⟩ := hp
      rw [kc_lt nx1 (by decide : (0 : Int32).toInt = 0), kc_le (by decide : (4 : Int32).toInt = 4) nx1] at hx
      exfalso; omega
  · have d3 : ¬ ((2) ≤ x2.toInt) := mt (kc_le (by decide : (2 : Int32).toInt = 2) (rfl : x2.toInt = x2.toInt)).mpr c3
    refine lv_iconst (v := 1) hx hb dL_law_448 (by decide) ?_
    refine lv_goto (tgt := 453) hx hb dL_law_449 (by decide) ?_
    refine kcallhI (kSthW (n := 3) (As := [.ref (z 0), .int x1, .int 1]) (rest := []) F hE hNc hK hP hD hS hA (kh_setBlocked l g e0 S _ (z 0) x1 1 _ _ hI.ob0 (c_X5_setBlocked_x l hl0 g e0 z S _ hI av lv q hR hW 1 x1 1 rfl (by decide) (Or.inr rfl)) (fun E h => h.1)) kw_353 kw_354 kw_61 kw_355 (by decide +kernel) ⟨Nat.le_of_ble_eq_true rfl, Nat.le_of_ble_eq_true rfl⟩ rfl hl.1 rfl (Nat.le_of_ble_eq_true rfl) dL_law_453 ⟨(by show k0 + 1 ≤ 1072639; omega), (by show n0 + 6 ≤ 5883708; omega)⟩) rfl hD hS hA (fun r15 S1 H locs hp hP hDs hD1 hq3x hf1 hS => ?_)
    clear hq3x
    have hO9x := kO_keep hO hdis hf1
    have hdis9 := kdis_keep hO hdis hDs
    rcases hp with hp | hp
    · have hO := hO9x
      have hdis := hdis9
      have hD := hD1
      obtain ⟨v9, ⟨hI1, j2, hj2, ej2, ev, hR1⟩, hv9⟩ := hp
      obtain rfl : j2 = m9 % 4 := nI_inj (by omega) (by omega) (ej2.symm.trans (kt_of nx1 (by omega)))
      have hb1 := hL.2.2.1 (m9 % 4) hj2
      obtain ⟨q1, hq1⟩ : ∃ q9 : qS, q9 = q_blk (m9 % 4) 1 q := ⟨_, rfl⟩
      rw [← hq1] at hR1
      have hW1 : q_W q1 := by rw [hq1]; exact q_blk_W hW
      have hL1 : q_L q1 := by rw [hq1]; exact q_blk_L hL (by decide)
      have hU1 : q_U q1 = q_U q := q_U_of (fun k hk i => by rw [hq1]; exact q_blk_o (q_mem (P := fun k => k ∉ [1, 14, 24, 42, 43, 44]) hk (by decide)))
      have fk : ∀ k, k ∈ [10, 11, 21, 73] → ∀ i, q1 k i = q k i := fun k hk i => by rw [hq1]; exact q_blk_o (q_mem (P := fun k => k ∉ [1, 14, 24, 42, 43, 44]) hk (by decide))
      have f1 : q1 1 (m9 % 4) = 1 := by rw [hq1, q_blk_1f, if_pos rfl]
      have f1o : ∀ i, i ≠ m9 % 4 → q1 1 i = q 1 i := fun i hi => by rw [hq1, q_blk_1f, if_neg hi]
      have f73 : q1 73 0 = q 73 0 := fk 73 (by decide) 0
      rcases hv9 with ⟨hv9, er⟩ | ⟨hv9, er⟩
      · have z9 : q 1 (m9 % 4) ≠ 0 := fun h => hv9 (ev.trans (by rw [h]; rfl))
        subst er
        have hI := hI1
        have hR := hR1
        have hW := hW1
        have hL := hL1
        clear hro hroom h57 h56
        have h721 : q1 72 0 = 3 := hL.1
        have h72 : q1 72 0 ≤ 12 := by omega
        have h73 : q1 73 0 ≤ 12 := hW.1.1.2.1
        have hro : q1 42 0 ≤ 504 := q_room hW.1.1 hW.1.2.2.2.1 hW.1.2.2.2.2.1
        have hroom : q1 42 0 < 516 := by omega
        have h57 : q1 57 0 ≤ 20 := hW.1.2.2.2.2.1.1
        have h56 : q1 56 0 ≤ 1439 := hL.2.2.2.2.2.1
        have h25 : ∀ i, i < q1 73 0 → q1 25 i < 2 ^ 31 := fun i hi => by have := (hW.1.2.2.1 i hi).2.2.2; omega
        have hU5 : q_U q1 ≤ 5000 := by omega
        refine lv_istore (lv' := [(17, .int 1), (19, .int x1), (18, .int 0), (16, .int od), (15, .int mm), (14, .int aa), (13, .int kd), (11, .long bf), (10, .int nx), (9, .int kx), (8, .int 1), (7, .int on), (6, .int un), (5, .ref ri), (4, .ref rb), (3, .ref rr), (2, .ref ra), (1, .ref (z 0)), (0, .ref b)]) hx hb dL_law_456 hl (by decide) rfl (fun ls hl => ?_)
        refine lv_iload hx hb dL_law_458 (lv_at hl 0 rfl) ?_
        refine lv_aload hx hb dL_law_460 (lv_at hl 14 rfl) ?_
        refine lv_iload hx hb dL_law_462 (lv_at hl 1 rfl) ?_
        refine rd_Z F hK hO obb (by rw [lb]; exact kt_in nx1 (by omega) (by decide)) dL_law_464 ?_
        refine lv_topi (fun x16 ex16 => ?_)
        have nx16 : x16.toInt = ((q 1 (m9 % 4) : Nat) : Int) := kt_nI (by rw [ex16, kt_clamp nx1 (by omega)]; exact hrb (m9 % 4) (by omega)) (by omega)
        refine lv_if_eq (tgt := 472) hx hb dL_law_465 (by decide) (fun c17 => ?_) (fun c17 => ?_)
        · have d17 : x16.toInt = (0) := (kc_eq (rfl : x16.toInt = x16.toInt) (by decide : (0 : Int32).toInt = 0)).mp c17
          exfalso; omega
        · have d17 : x16.toInt ≠ (0) := mt (kc_eq (rfl : x16.toInt = x16.toInt) (by decide : (0 : Int32).toInt = 0)).mpr c17
          refine lv_iconst (v := 1) hx hb dL_law_468 (by decide) ?_
          refine lv_goto (tgt := 473) hx hb dL_law_469 (by decide) ?_
          refine lv_icmp_ne (tgt := 480) hx hb dL_law_473 (by decide) (fun c18 => ?_) (fun c18 => ?_)
          · exact absurd c18 (by decide)
          · refine lv_iconst (v := 1) hx hb dL_law_476 (by decide) ?_
            refine lv_goto (tgt := 481) hx hb dL_law_477 (by decide) ?_
            refine lv_istore (lv' := [(8, .int 1), (17, .int 1), (19, .int x1), (18, .int 0), (16, .int od), (15, .int mm), (14, .int aa), (13, .int kd), (11, .long bf), (10, .int nx), (9, .int kx), (7, .int on), (6, .int un), (5, .ref ri), (4, .ref rb), (3, .ref rr), (2, .ref ra), (1, .ref (z 0)), (0, .ref b)]) hx hb dL_law_481 hl (by decide) rfl (fun ls hl => ?_)
            refine lv_aload hx hb dL_law_483 (lv_at hl 14 rfl) ?_
            refine lv_iload hx hb dL_law_485 (lv_at hl 2 rfl) ?_
            refine lv_iload hx hb dL_law_487 (lv_at hl 5 rfl) ?_
            refine lv_iconst (v := 5) hx hb dL_law_489 (by decide) ?_
            refine lv_irem hx hb dL_law_490 (by decide) ?_
            refine lv_topi (fun x19 ex19 => ?_)
            have nx19 : x19.toInt = ((m9 % 5 : Nat) : Int) := kt_rem ex19 hmm (by decide : (5 : Int32).toInt = ((5 : Nat) : Int)) (by omega) (by omega) (by omega)
            refine lv_iconst (v := 2) hx hb dL_law_491 (by decide) ?_
            refine lv_icmp_ge (tgt := 499) hx hb dL_law_492 (by decide) (fun c20 => ?_) (fun c20 => ?_)
            · have d20 : (2) ≤ x19.toInt := (kc_le (by decide : (2 : Int32).toInt = 2) (rfl : x19.toInt = x19.toInt)).mp c20
              exfalso; omega
            · have d20 : ¬ ((2) ≤ x19.toInt) := mt (kc_le (by decide : (2 : Int32).toInt = 2) (rfl : x19.toInt = x19.toInt)).mpr c20
              refine lv_iconst (v := 1) hx hb dL_law_495 (by decide) ?_
              refine lv_goto (tgt := 500) hx hb dL_law_496 (by decide) ?_
              refine rt2_Z F hK hP hO hD hDO hdis hS obb (by rw [lb]; exact kt_in nx1 (by omega) (by decide)) dL_law_500 (fun H locs hP hO hDO hS => ?_)
              rw [kt_clamp nx1 (by omega)] at hO hDO
              have hdis : kdis S1 (setX O rb (upd (pX O rb) (m9 % 4) (vp_nar .boolean 1))) := hdis
              have hO9 := q_O_blk (q' := q1) (x := vp_nar .boolean 1) hO9 fk f1 f1o (by decide)
              obtain ⟨⟨oa, la⟩, ⟨orr, lr⟩, ⟨obb, lb⟩, ⟨oi, li⟩, hne, hra, hrb, hri⟩ := id hO9
              refine lv_goto (tgt := 1227) hx hb dL_law_501 (by decide) ?_
              exact kk S1 (setX O rb (upd (pX O rb) (m9 % 4) (vp_nar .boolean 1))) av lv q1 _ _ ls _ _ 0 on un ⟨⟨F, hK, hE, hNc, hX, hbl⟩, ⟨hP, hO⟩, ⟨hD, hDO⟩, hdis, hS, ⟨hI, hR, hW, hL⟩, hO9⟩ (by omega) (Or.inl rfl) (by omega) (by omega) (by omega) (by omega) (lv_sub hl [3, 8, 9, 10, 0, 11, 12, 13, 14, 15, 16, 17, 18] rfl)
      · have z9 : q 1 (m9 % 4) = 0 := nI_inj (by omega) (by decide) (ev.symm.trans hv9)
        subst er
        have hI := hI1
        have hR := hR1
        have hW := hW1
        have hL := hL1
        clear hro hroom h57 h56
        have h721 : q1 72 0 = 3 := hL.1
        have h72 : q1 72 0 ≤ 12 := by omega
        have h73 : q1 73 0 ≤ 12 := hW.1.1.2.1
        have hro : q1 42 0 ≤ 504 := q_room hW.1.1 hW.1.2.2.2.1 hW.1.2.2.2.2.1
        have hroom : q1 42 0 < 516 := by omega
        have h57 : q1 57 0 ≤ 20 := hW.1.2.2.2.2.1.1
        have h56 : q1 56 0 ≤ 1439 := hL.2.2.2.2.2.1
        have h25 : ∀ i, i < q1 73 0 → q1 25 i < 2 ^ 31 := fun i hi => by have := (hW.1.2.2.1 i hi).2.2.2; omega
        have hU5 : q_U q1 ≤ 5000 := by omega
        refine lv_istore (lv' := [(17, .int 0), (19, .int x1), (18, .int 0), (16, .int od), (15, .int mm), (14, .int aa), (13, .int kd), (11, .long bf), (10, .int nx), (9, .int kx), (8, .int 1), (7, .int on), (6, .int un), (5, .ref ri), (4, .ref rb), (3, .ref rr), (2, .ref ra), (1, .ref (z 0)), (0, .ref b)]) hx hb dL_law_456 hl (by decide) rfl (fun ls hl => ?_)
        refine lv_iload hx hb dL_law_458 (lv_at hl 0 rfl) ?_
        refine lv_aload hx hb dL_law_460 (lv_at hl 14 rfl) ?_
        refine lv_iload hx hb dL_law_462 (lv_at hl 1 rfl) ?_
        refine rd_Z F hK hO obb (by rw [lb]; exact kt_in nx1 (by omega) (by decide)) dL_law_464 ?_
        refine lv_topi (fun x21 ex21 => ?_)
        have nx21 : x21.toInt = ((q 1 (m9 % 4) : Nat) : Int) := kt_nI (by rw [ex21, kt_clamp nx1 (by omega)]; exact hrb (m9 % 4) (by omega)) (by omega)
        refine lv_if_eq (tgt := 472) hx hb dL_law_465 (by decide) (fun c22 => ?_) (fun c22 => ?_)
        · have d22 : x21.toInt = (0) := (kc_eq (rfl : x21.toInt = x21.toInt) (by decide : (0 : Int32).toInt = 0)).mp c22
          refine lv_iconst (v := 0) hx hb dL_law_472 (by decide) ?_
          refine lv_icmp_ne (tgt := 480) hx hb dL_law_473 (by decide) (fun c23 => ?_) (fun c23 => ?_)
          · exact absurd c23 (by decide)
          · refine lv_iconst (v := 1) hx hb dL_law_476 (by decide) ?_
            refine lv_goto (tgt := 481) hx hb dL_law_477 (by decide) ?_
            refine lv_istore (lv' := [(8, .int 1), (17, .int 0), (19, .int x1), (18, .int 0), (16, .int od), (15, .int mm), (14, .int aa), (13, .int kd), (11, .long bf), (10, .int nx), (9, .int kx), (7, .int on), (6, .int un), (5, .ref ri), (4, .ref rb), (3, .ref rr), (2, .ref ra), (1, .ref (z 0)), (0, .ref b)]) hx hb dL_law_481 hl (by decide) rfl (fun ls hl => ?_)
            refine lv_aload hx hb dL_law_483 (lv_at hl 14 rfl) ?_
            refine lv_iload hx hb dL_law_485 (lv_at hl 2 rfl) ?_
            refine lv_iload hx hb dL_law_487 (lv_at hl 5 rfl) ?_
            refine lv_iconst (v := 5) hx hb dL_law_489 (by decide) ?_
            refine lv_irem hx hb dL_law_490 (by decide) ?_
            refine lv_topi (fun x24 ex24 => ?_)
            have nx24 : x24.toInt = ((m9 % 5 : Nat) : Int) := kt_rem ex24 hmm (by decide : (5 : Int32).toInt = ((5 : Nat) : Int)) (by omega) (by omega) (by omega)
            refine lv_iconst (v := 2) hx hb dL_law_491 (by decide) ?_
            refine lv_icmp_ge (tgt := 499) hx hb dL_law_492 (by decide) (fun c25 => ?_) (fun c25 => ?_)
            · have d25 : (2) ≤ x24.toInt := (kc_le (by decide : (2 : Int32).toInt = 2) (rfl : x24.toInt = x24.toInt)).mp c25
              exfalso; omega
            · have d25 : ¬ ((2) ≤ x24.toInt) := mt (kc_le (by decide : (2 : Int32).toInt = 2) (rfl : x24.toInt = x24.toInt)).mpr c25
              refine lv_iconst (v := 1) hx hb dL_law_495 (by decide) ?_
              refine lv_goto (tgt := 500) hx hb dL_law_496 (by decide) ?_
              refine rt2_Z F hK hP hO hD hDO hdis hS obb (by rw [lb]; exact kt_in nx1 (by omega) (by decide)) dL_law_500 (fun H locs hP hO hDO hS => ?_)
              rw [kt_clamp nx1 (by omega)] at hO hDO
              have hdis : kdis S1 (setX O rb (upd (pX O rb) (m9 % 4) (vp_nar .boolean 1))) := hdis
              have hO9 := q_O_blk (q' := q1) (x := vp_nar .boolean 1) hO9 fk f1 f1o (by decide)
              obtain ⟨⟨oa, la⟩, ⟨orr, lr⟩, ⟨obb, lb⟩, ⟨oi, li⟩, hne, hra, hrb, hri⟩ := id hO9
              refine lv_goto (tgt := 1227) hx hb dL_law_501 (by decide) ?_
              exact kk S1 (setX O rb (upd (pX O rb) (m9 % 4) (vp_nar .boolean 1))) av lv q1 _ _ ls _ _ 0 on un ⟨⟨F, hK, hE, hNc, hX, hbl⟩, ⟨hP, hO⟩, ⟨hD, hDO⟩, hdis, hS, ⟨hI, hR, hW, hL⟩, hO9⟩ (by omega) (Or.inl rfl) (by omega) (by omega) (by omega) (by omega) (lv_sub hl [3, 8, 9, 10, 0, 11, 12, 13, 14, 15, 16, 17, 18] rfl)
        · have d22 : x21.toInt ≠ (0) := mt (kc_eq (rfl : x21.toInt = x21.toInt) (by decide : (0 : Int32).toInt = 0)).mpr c22
          exfalso; omega
    · have hO := hO9x
      obtain ⟨-, ⟨-, hx⟩, -⟩ := hp
      rw [kc_lt nx1 (by decide : (0 : Int32).toInt = 0), kc_le (by decide : (4 : Int32).toInt = 4) nx1] at hx
      exfalso; omega
