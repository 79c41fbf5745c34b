set_option maxHeartbeats 8000000 in
set_option maxRecDepth 100000 in
theorem kcs_drop {p : Program} {l : Launch} {e : Env} {s : State} {m : MethodId} {below : List Frame} {meth : Method} {c : Code} {b L : Nat} {xs : Nat → Int32} {g : kG} {e0 : Nat} {z av lv : Nat → Nat} {S O : wPS} {q : qS} {ra rr rb ri : Nat} {H : Heap} {locs : List Loc} {k0 n0 : Nat} {Q : State → Prop} {ls : Array Slot} (hl0 : l.stackTraces = false) (hL9 : L ≤ 260) (C : kLw p s m c b L xs g e0 z av lv S O q ra rr rb ri H locs) (hU : q_U q ≤ 4000) (hk0 : k0 + 3000 ≤ 1072639) (hn0 : n0 + 20000 ≤ 5883708) {kd nx kx mm aa od on un : Int32} {bf : Int64} {a m9 o9 : Nat} (ha : a ≤ 3) (haa : aa.toInt = ((a : Nat) : Int)) (hm9 : m9 < 1000) (hmm : mm.toInt = ((m9 : Nat) : Int)) (ho9 : o9 ≤ q 73 0) (hod : od.toInt = ((o9 : Nat) : Int)) (hon : on.toInt = ((q 73 0 : Nat) : Int)) (hun : un.toInt = ((q_U q : Nat) : Int)) (hl : lv_has ls 23 [(18, .int 0), (17, .int 0), (16, .int od), (15, .int mm), (14, .int aa), (13, .int kd), (11, .long bf), (10, .int nx), (9, .int kx), (8, .int 1), (7, .int on), (6, .int un), (5, .ref ri), (4, .ref rb), (3, .ref rr), (2, .ref ra), (1, .ref (z 0)), (0, .ref b)])
    (kk : ∀ (S1 O1 : wPS) (av1 lv1 : Nat → Nat) (q1 : qS) (H1 : Heap) (locs1 : List Loc) (ls1 : Array Slot) (k1 n1 : Nat) (th on1 un1 : Int32), kLw p s m c b L xs g e0 z av1 lv1 S1 O1 q1 ra rr rb ri H1 locs1 → q_U q1 ≤ q_U q + 14 → (th = 0 ∨ (th = 1 ∧ q_sm q1 = q_sm q)) → on1.toInt = ((q1 73 0 : Nat) : Int) → un1.toInt = ((q_U q1 : Nat) : Int) → k1 ≤ k0 + 3000 → n1 ≤ n0 + 20000 → lv_has ls1 23 [(18, .int th), (11, .long bf), (10, .int nx), (9, .int kx), (8, .int 1), (7, .int on1), (6, .int un1), (5, .ref ri), (4, .ref rb), (3, .ref rr), (2, .ref ra), (1, .ref (z 0)), (0, .ref b)] → W p l e room_1 s m #[Value.ref b] below meth c H1 locs1 k1 n1 Q (F0 m 1227 ls1 [])) :
    W p l e room_1 s m #[Value.ref b] below meth c H locs k0 n0 Q (F0 m 364 ls []) := by
  obtain ⟨⟨F, hK, hE, hNc, hX, hbl⟩, ⟨hP, hO⟩, ⟨hD, hDO⟩, hdis, hS, ⟨hI, hR, hW, hL⟩, hO9⟩ := C
  have hx := F.1
  have hb := F.2.1
  have hbA : ¬ kAs s b := Nat.not_le.mpr hbl
  have hA : ∀ q : Nat, s.heap.size ≤ q → kAs s q := fun _ h => h
  have hU5 : q_U q ≤ 5000 := by omega
  have h721 : q 72 0 = 3 := hL.1
  have h72 : q 72 0 ≤ 12 := by omega
  have h73 : q 73 0 ≤ 12 := hW.1.1.2.1
  have hro : q 42 0 ≤ 504 := q_room hW.1.1 hW.1.2.2.2.1 hW.1.2.2.2.2.1
  have hroom : q 42 0 < 516 := by omega
  have h57 : q 57 0 ≤ 20 := hW.1.2.2.2.2.1.1
  have h56 : q 56 0 ≤ 1439 := hL.2.2.2.2.2.1
  have h25 : ∀ i, i < q 73 0 → q 25 i < 2 ^ 31 := fun i hi => by have := (hW.1.2.2.1 i hi).2.2.2; omega
  obtain ⟨⟨oa, la⟩, ⟨orr, lr⟩, ⟨obb, lb⟩, ⟨oi, li⟩, hne, hra, hrb, hri⟩ := id hO9
  refine lv_aload_n hx hb dL_law_364 rfl (lv_at hl 16 rfl) ?_
  refine lv_iload hx hb dL_law_365 (lv_at hl 2 rfl) ?_
  refine kcallhI (kSthW (n := 2) (As := [.ref (z 0), .int od]) (rest := []) F hE hNc hK hP hD hS hA (kh_drop l g e0 S _ (z 0) od _ _ hI.ob0 (c_X5_drop_x l hl0 g e0 z S _ hI av lv q hR hW od) (fun E h => h.imp And.left And.left)) kw_334 kw_335 kw_61 kw_336 (by decide +kernel) ⟨Nat.le_of_ble_eq_true rfl, Nat.le_of_ble_eq_true rfl⟩ rfl hl.1 rfl (Nat.le_of_ble_eq_true rfl) dL_law_367 ⟨(by show k0 + 2 ≤ 1072639; omega), (by show n0 + 12 ≤ 5883708; omega)⟩) rfl hD hS hA (fun r1 S1 H locs hp hP hDs hD1 hq3x hf1 hS => ?_)
  clear hq3x
  have hO9x := kO_keep hO hdis hf1
  have hdis9 := kdis_keep hO hdis hDs
  rcases hp with hp | hp
  · have hO := hO9x
    have hdis := hdis9
    have hD := hD1
    obtain ⟨hk9, i2, hi2, ei2, hst, hR1, er⟩ := hp
    obtain rfl : o9 = i2 := nI_inj (by omega) (by omega) ((kt_of hod (by omega)).symm.trans ei2)
    have hI1 : Inv z e0 S1 := hI.keep hk9.1
    have h1 := hW.1.1.2.2.1 o9 hi2
    obtain ⟨q1, hq1⟩ : ∃ q9 : qS, q9 = q_scan o9 100 q := ⟨_, rfl⟩
    have hW1 : q_W q1 := by rw [hq1]; exact q_W_scan hW hi2 (Or.inr (Or.inr ⟨rfl, hst⟩))
    rw [← hq1] at hR1 er
    have hL1 : q_L q1 := q_L_of hL (fun k hk i => by rw [hq1]; exact q_scan_oo (q_mem (P := fun k => k ∉ [14, 24, 42, 43, 44]) hk (by decide)))
    have hU1 : q_U q1 = q_U q := q_U_of (fun k hk i => by rw [hq1]; exact q_scan_oo (q_mem (P := fun k => k ∉ [14, 24, 42, 43, 44]) hk (by decide)))
    have hO9 := q_O_of (q' := q1) hO9 (fun k hk i => by rw [hq1]; exact q_scan_oo (q_mem (P := fun k => k ∉ [14, 24, 42, 43, 44]) hk (by decide)))
    have f24 : q1 24 o9 = 100 := by rw [hq1]; exact q_scan_24
    have f21 : q1 21 o9 = q 21 o9 := by rw [hq1]; exact q_scan_oo (by decide)
    have f73 : q1 73 0 = q 73 0 := by rw [hq1]; exact q_scan_oo (by decide)
    have f72 : q1 72 0 = q 72 0 := by rw [hq1]; exact q_scan_oo (by decide)
    rw [← f21] at er
    have w3i := hW1.2.1 (q1 21 o9) (by omega)
    have nr1 : r1.toInt = ((q1 12 (q1 21 o9) - q1 14 (q1 21 o9) : Nat) : Int) := kt_nI er (by omega)
    have hI := hI1
    have hR := hR1
    have hW := hW1
    have hL := hL1
    clear hro hroom h57 h56
    have h721 : q1 72 0 = 3 := hL.1
    have h72 : q1 72 0 ≤ 12 := by omega
    have h73 : q1 73 0 ≤ 12 := hW.1.1.2.1
    have hro : q1 42 0 ≤ 504 := q_room hW.1.1 hW.1.2.2.2.1 hW.1.2.2.2.2.1
    have hroom : q1 42 0 < 516 := by omega
    have h57 : q1 57 0 ≤ 20 := hW.1.2.2.2.2.1.1
    have h56 : q1 56 0 ≤ 1439 := hL.2.2.2.2.2.1
    have h25 : ∀ i, i < q1 73 0 → q1 25 i < 2 ^ 31 := fun i hi => by have := (hW.1.2.2.1 i hi).2.2.2; omega
    have hU5 : q_U q1 ≤ 5000 := by omega
    obtain ⟨⟨oa, la⟩, ⟨orr, lr⟩, ⟨obb, lb⟩, ⟨oi, li⟩, hne, hra, hrb, hri⟩ := id hO9
    refine lv_istore (lv' := [(17, .int r1), (18, .int 0), (16, .int od), (15, .int mm), (14, .int aa), (13, .int kd), (11, .long bf), (10, .int nx), (9, .int kx), (8, .int 1), (7, .int on), (6, .int un), (5, .ref ri), (4, .ref rb), (3, .ref rr), (2, .ref ra), (1, .ref (z 0)), (0, .ref b)]) hx hb dL_law_370 hl (by decide) rfl (fun ls hl => ?_)
    refine lv_iload hx hb dL_law_372 (lv_at hl 0 rfl) ?_
    refine lv_if_ge (tgt := 381) hx hb dL_law_374 (by decide) (fun c2 => ?_) (fun c2 => ?_)
    · have d2 : (0) ≤ r1.toInt := (kc_le (by decide : (0 : Int32).toInt = 0) (rfl : r1.toInt = r1.toInt)).mp c2
      refine lv_iconst (v := 0) hx hb dL_law_381 (by decide) ?_
      refine lv_istore (lv' := [(18, .int 0), (17, .int r1), (16, .int od), (15, .int mm), (14, .int aa), (13, .int kd), (11, .long bf), (10, .int nx), (9, .int kx), (8, .int 1), (7, .int on), (6, .int un), (5, .ref ri), (4, .ref rb), (3, .ref rr), (2, .ref ra), (1, .ref (z 0)), (0, .ref b)]) hx hb dL_law_382 hl (by decide) rfl (fun ls hl => ?_)
      refine lv_iload hx hb dL_law_384 (lv_at hl 1 rfl) ?_
      refine lv_if_lt (tgt := 414) hx hb dL_law_386 (by decide) (fun c3 => ?_) (fun c3 => ?_)
      · have d3 : r1.toInt < (0) := (kc_lt (rfl : r1.toInt = r1.toInt) (by decide : (0 : Int32).toInt = 0)).mp c3
        exfalso; omega
      · have d3 : ¬ (r1.toInt < (0)) := mt (kc_lt (rfl : r1.toInt = r1.toInt) (by decide : (0 : Int32).toInt = 0)).mpr c3
        refine lv_aload_n hx hb dL_law_389 rfl (lv_at hl 16 rfl) ?_
        refine lv_iload hx hb dL_law_390 (lv_at hl 2 rfl) ?_
        refine kcallhI (kSthW (n := 2) (As := [.ref (z 0), .int od]) (rest := []) F hE hNc hK hP hD hS hA (kh_state l g e0 S1 _ (z 0) od _ _ hI.ob0 (c_X5_state_x l hl0 g e0 z S1 _ hI av lv q1 hR h73 od) (fun E h => h.1)) kw_260 kw_261 kw_61 kw_262 (by decide +kernel) ⟨Nat.le_of_ble_eq_true rfl, Nat.le_of_ble_eq_true rfl⟩ rfl hl.1 rfl (Nat.le_of_ble_eq_true rfl) dL_law_392 ⟨(by show k0 + 2 + 1 ≤ 1072639; omega), (by show n0 + 12 + 6 ≤ 5883708; omega)⟩) rfl hD hS hA (fun r4 T1 H locs hp hP hq1x hq2x hq3x hf1 hS => ?_)
        clear hq1x hq2x hq3x
        have hO := kO_keep hO hdis hf1
        obtain ⟨hT, nr4⟩ := kp_Ac (i := o9) hp hod (by omega) (by omega) (by omega)
        subst hT
        clear hp
        refine lv_bipush (v := 100) hx hb dL_law_395 (by decide) ?_
        refine lv_icmp_ne (tgt := 418) hx hb dL_law_397 (by decide) (fun c5 => ?_) (fun c5 => ?_)
        · have d5 : r4.toInt ≠ (100) := mt (kc_eq (rfl : r4.toInt = r4.toInt) (by decide : (100 : Int32).toInt = 100)).mpr c5
          exfalso; omega
        · have d5 : r4.toInt = (100) := (kc_eq (rfl : r4.toInt = r4.toInt) (by decide : (100 : Int32).toInt = 100)).mp c5
          refine lv_iload hx hb dL_law_400 (lv_at hl 1 rfl) ?_
          refine lv_aload_n hx hb dL_law_402 rfl (lv_at hl 16 rfl) ?_
          refine lv_aload hx hb dL_law_403 (lv_at hl 12 rfl) ?_
          refine lv_iload hx hb dL_law_405 (lv_at hl 2 rfl) ?_
          refine rd_I F hK hO oi (by rw [li]; exact kt_in hod (by omega) (by decide)) dL_law_407 ?_
          refine lv_topi (fun x6 ex6 => ?_)
          have nx6 : x6.toInt = ((q1 21 o9 : Nat) : Int) := kt_nI (by rw [ex6, kt_clamp hod (by omega)]; exact hri o9 (by omega)) (by omega)
          refine kcallhI (kSthW (n := 2) (As := [.ref (z 0), .int x6]) (rest := [.int r1]) F hE hNc hK hP hD hS hA (kh_free l g e0 S1 _ (z 0) x6 _ _ hI.ob0 (c_X5_free_x l hl0 g e0 z S1 _ hI av lv q1 hR h72 hW.2.1 x6) (fun E h => h.1)) kw_346 kw_347 kw_61 kw_348 (by decide +kernel) ⟨Nat.le_of_ble_eq_true rfl, Nat.le_of_ble_eq_true rfl⟩ rfl hl.1 rfl (Nat.le_of_ble_eq_true rfl) dL_law_408 ⟨(by show k0 + 2 + 1 + 1 ≤ 1072639; omega), (by show n0 + 12 + 6 + 6 ≤ 5883708; omega)⟩) rfl hD hS hA (fun r7 T1 H locs hp hP hq1x hq2x hq3x hf1 hS => ?_)
          clear hq1x hq2x hq3x
          have hO := kO_keep hO hdis hf1
          obtain ⟨hT, nr7⟩ := kp_A (i := q1 21 o9) hp nx6 (by omega) (by omega) (by omega)
          subst hT
          clear hp
          refine lv_icmp_ne (tgt := 418) hx hb dL_law_411 (by decide) (fun c8 => ?_) (fun c8 => ?_)
          · have d8 : r1.toInt ≠ r7.toInt := mt (kc_eq (rfl : r1.toInt = r1.toInt) (rfl : r7.toInt = r7.toInt)).mpr c8
            exfalso; omega
          · have d8 : r1.toInt = r7.toInt := (kc_eq (rfl : r1.toInt = r1.toInt) (rfl : r7.toInt = r7.toInt)).mp c8
            refine lv_iconst (v := 1) hx hb dL_law_414 (by decide) ?_
            refine lv_goto (tgt := 419) hx hb dL_law_415 (by decide) ?_
            refine lv_istore (lv' := [(8, .int 1), (18, .int 0), (17, .int r1), (16, .int od), (15, .int mm), (14, .int aa), (13, .int kd), (11, .long bf), (10, .int nx), (9, .int kx), (7, .int on), (6, .int un), (5, .ref ri), (4, .ref rb), (3, .ref rr), (2, .ref ra), (1, .ref (z 0)), (0, .ref b)]) hx hb dL_law_419 hl (by decide) rfl (fun ls hl => ?_)
            refine lv_goto (tgt := 1227) hx hb dL_law_421 (by decide) ?_
            exact kk S1 O av lv q1 _ _ ls _ _ 0 on un ⟨⟨F, hK, hE, hNc, hX, hbl⟩, ⟨hP, hO⟩, ⟨hD, hDO⟩, hdis, hS, ⟨hI, hR, hW, hL⟩, hO9⟩ (by omega) (Or.inl rfl) (by omega) (by omega) (by omega) (by omega) (lv_sub hl [1, 7, 8, 9, 0, 10, 11, 12, 13, 14, 15, 16, 17] rfl)
    · have d2 : ¬ ((0) ≤ r1.toInt) := mt (kc_le (by decide : (0 : Int32).toInt = 0) (rfl : r1.toInt = r1.toInt)).mpr c2
      exfalso; omega
  · have hO := hO9x
    obtain ⟨hT, hrx⟩ : S = S1 ∧ r1.toInt ≤ -75 := by rcases hp with ⟨e, -, h⟩ | ⟨e, -, h⟩ <;> exact ⟨h.symm, by rw [e]; decide⟩
    subst hT
    clear hp
    refine lv_istore (lv' := [(17, .int r1), (18, .int 0), (16, .int od), (15, .int mm), (14, .int aa), (13, .int kd), (11, .long bf), (10, .int nx), (9, .int kx), (8, .int 1), (7, .int on), (6, .int un), (5, .ref ri), (4, .ref rb), (3, .ref rr), (2, .ref ra), (1, .ref (z 0)), (0, .ref b)]) hx hb dL_law_370 hl (by decide) rfl (fun ls hl => ?_)
    refine lv_iload hx hb dL_law_372 (lv_at hl 0 rfl) ?_
    refine lv_if_ge (tgt := 381) hx hb dL_law_374 (by decide) (fun c9 => ?_) (fun c9 => ?_)
    · have d9 : (0) ≤ r1.toInt := (kc_le (by decide : (0 : Int32).toInt = 0) (rfl : r1.toInt = r1.toInt)).mp c9
      exfalso; omega
    · have d9 : ¬ ((0) ≤ r1.toInt) := mt (kc_le (by decide : (0 : Int32).toInt = 0) (rfl : r1.toInt = r1.toInt)).mpr c9
      refine lv_iconst (v := 1) hx hb dL_law_377 (by decide) ?_
      refine lv_goto (tgt := 382) hx hb dL_law_378 (by decide) ?_
      refine lv_istore (lv' := [(18, .int 1), (17, .int r1), (16, .int od), (15, .int mm), (14, .int aa), (13, .int kd), (11, .long bf), (10, .int nx), (9, .int kx), (8, .int 1), (7, .int on), (6, .int un), (5, .ref ri), (4, .ref rb), (3, .ref rr), (2, .ref ra), (1, .ref (z 0)), (0, .ref b)]) hx hb dL_law_382 hl (by decide) rfl (fun ls hl => ?_)
      refine lv_iload hx hb dL_law_384 (lv_at hl 1 rfl) ?_
      refine lv_if_lt (tgt := 414) hx hb dL_law_386 (by decide) (fun c10 => ?_) (fun c10 => ?_)
      · have d10 : r1.toInt < (0) := (kc_lt (rfl : r1.toInt = r1.toInt) (by decide : (0 : Int32).toInt = 0)).mp c10
        refine lv_iconst (v := 1) hx hb dL_law_414 (by decide) ?_
        refine lv_goto (tgt := 419) hx hb dL_law_415 (by decide) ?_
        refine lv_istore (lv' := [(8, .int 1), (18, .int 1), (17, .int r1), (16, .int od), (15, .int mm), (14, .int aa), (13, .int kd), (11, .long bf), (10, .int nx), (9, .int kx), (7, .int on), (6, .int un), (5, .ref ri), (4, .ref rb), (3, .ref rr), (2, .ref ra), (1, .ref (z 0)), (0, .ref b)]) hx hb dL_law_419 hl (by decide) rfl (fun ls hl => ?_)
        refine lv_goto (tgt := 1227) hx hb dL_law_421 (by decide) ?_
        exact kk S O av lv q _ _ ls _ _ 1 on un ⟨⟨F, hK, hE, hNc, hX, hbl⟩, ⟨hP, hO⟩, ⟨hD, hDO⟩, hdis, hS, ⟨hI, hR, hW, hL⟩, hO9⟩ (by omega) (Or.inr ⟨rfl, rfl⟩) (by omega) (by omega) (by omega) (by omega) (lv_sub hl [1, 7, 8, 9, 0, 10, 11, 12, 13, 14, 15, 16, 17] rfl)
      · have d10 : ¬ (r1.toInt < (0)) := mt (kc_lt (rfl : r1.toInt = r1.toInt) (by decide : (0 : Int32).toInt = 0)).mpr c10
        exfalso; omega
