set_option maxHeartbeats 8000000 in
set_option maxRecDepth 100000 in
theorem kcs_setPickers {p : Program} {l : Launch} {e : Env} {s : State} {m : MethodId} {below : List Frame} {meth : Method} {c : Code} {b L : Nat} {xs : Nat → Int32} {g : kG} {e0 : Nat} {z av lv : Nat → Nat} {S O : wPS} {q : qS} {ra rr rb ri : Nat} {H : Heap} {locs : List Loc} {k0 n0 : Nat} {Q : State → Prop} {ls : Array Slot} (hl0 : l.stackTraces = false) (hL9 : L ≤ 260) (C : kLw p s m c b L xs g e0 z av lv S O q ra rr rb ri H locs) (hU : q_U q ≤ 4000) (hk0 : k0 + 3000 ≤ 1072639) (hn0 : n0 + 20000 ≤ 5883708) {kd nx kx mm aa od on un : Int32} {bf : Int64} {a m9 o9 : Nat} (ha : a ≤ 3) (haa : aa.toInt = ((a : Nat) : Int)) (hm9 : m9 < 1000) (hmm : mm.toInt = ((m9 : Nat) : Int)) (ho9 : o9 ≤ q 73 0) (hod : od.toInt = ((o9 : Nat) : Int)) (hon : on.toInt = ((q 73 0 : Nat) : Int)) (hun : un.toInt = ((q_U q : Nat) : Int)) (hl : lv_has ls 23 [(18, .int 0), (17, .int 0), (16, .int od), (15, .int mm), (14, .int aa), (13, .int kd), (11, .long bf), (10, .int nx), (9, .int kx), (8, .int 1), (7, .int on), (6, .int un), (5, .ref ri), (4, .ref rb), (3, .ref rr), (2, .ref ra), (1, .ref (z 0)), (0, .ref b)])
    (kk : ∀ (S1 O1 : wPS) (av1 lv1 : Nat → Nat) (q1 : qS) (H1 : Heap) (locs1 : List Loc) (ls1 : Array Slot) (k1 n1 : Nat) (th on1 un1 : Int32), kLw p s m c b L xs g e0 z av1 lv1 S1 O1 q1 ra rr rb ri H1 locs1 → q_U q1 ≤ q_U q + 14 → (th = 0 ∨ (th = 1 ∧ q_sm q1 = q_sm q)) → on1.toInt = ((q1 73 0 : Nat) : Int) → un1.toInt = ((q_U q1 : Nat) : Int) → k1 ≤ k0 + 3000 → n1 ≤ n0 + 20000 → lv_has ls1 23 [(18, .int th), (11, .long bf), (10, .int nx), (9, .int kx), (8, .int 1), (7, .int on1), (6, .int un1), (5, .ref ri), (4, .ref rb), (3, .ref rr), (2, .ref ra), (1, .ref (z 0)), (0, .ref b)] → W p l e room_1 s m #[Value.ref b] below meth c H1 locs1 k1 n1 Q (F0 m 1227 ls1 [])) :
    W p l e room_1 s m #[Value.ref b] below meth c H locs k0 n0 Q (F0 m 511 ls []) := by
  obtain ⟨⟨F, hK, hE, hNc, hX, hbl⟩, ⟨hP, hO⟩, ⟨hD, hDO⟩, hdis, hS, ⟨hI, hR, hW, hL⟩, hO9⟩ := C
  have hx := F.1
  have hb := F.2.1
  have hbA : ¬ kAs s b := Nat.not_le.mpr hbl
  have hA : ∀ q : Nat, s.heap.size ≤ q → kAs s q := fun _ h => h
  have hU5 : q_U q ≤ 5000 := by omega
  have h721 : q 72 0 = 3 := hL.1
  have h72 : q 72 0 ≤ 12 := by omega
  have h73 : q 73 0 ≤ 12 := hW.1.1.2.1
  have hro : q 42 0 ≤ 504 := q_room hW.1.1 hW.1.2.2.2.1 hW.1.2.2.2.2.1
  have hroom : q 42 0 < 516 := by omega
  have h57 : q 57 0 ≤ 20 := hW.1.2.2.2.2.1.1
  have h56 : q 56 0 ≤ 1439 := hL.2.2.2.2.2.1
  have h25 : ∀ i, i < q 73 0 → q 25 i < 2 ^ 31 := fun i hi => by have := (hW.1.2.2.1 i hi).2.2.2; omega
  obtain ⟨⟨oa, la⟩, ⟨orr, lr⟩, ⟨obb, lb⟩, ⟨oi, li⟩, hne, hra, hrb, hri⟩ := id hO9
  refine lv_aload_n hx hb dL_law_511 rfl (lv_at hl 16 rfl) ?_
  refine lv_iload hx hb dL_law_512 (lv_at hl 3 rfl) ?_
  refine lv_iconst (v := 4) hx hb dL_law_514 (by decide) ?_
  refine lv_irem hx hb dL_law_515 (by decide) ?_
  refine lv_topi (fun x1 ex1 => ?_)
  have nx1 : x1.toInt = ((m9 % 4 : Nat) : Int) := kt_rem ex1 hmm (by decide : (4 : Int32).toInt = ((4 : Nat) : Int)) (by omega) (by omega) (by omega)
  refine lv_iload hx hb dL_law_516 (lv_at hl 3 rfl) ?_
  refine lv_bipush (v := 11) hx hb dL_law_518 (by decide) ?_
  refine lv_irem hx hb dL_law_520 (by decide) ?_
  refine lv_topi (fun x2 ex2 => ?_)
  have nx2 : x2.toInt = ((m9 % 11 : Nat) : Int) := kt_rem ex2 hmm (by decide : (11 : Int32).toInt = ((11 : Nat) : Int)) (by omega) (by omega) (by omega)
  refine kcallhI (kSthW (n := 3) (As := [.ref (z 0), .int x1, .int x2]) (rest := []) F hE hNc hK hP hD hS hA (kh_setPickers l g e0 S _ (z 0) x1 x2 _ _ hI.ob0 (c_X5_setPickers l hl0 g e0 z S _ hI x1 x2) (fun E h => h.imp And.left And.left)) kw_370 kw_371 kw_61 kw_372 (by decide +kernel) ⟨Nat.le_of_ble_eq_true rfl, Nat.le_of_ble_eq_true rfl⟩ rfl hl.1 rfl (Nat.le_of_ble_eq_true rfl) dL_law_521 ⟨(by show k0 + 2 ≤ 1072639; omega), (by show n0 + 12 ≤ 5883708; omega)⟩) rfl hD hS hA (fun r3 S1 H locs hp hP hDs hD1 hq3x hf1 hS => ?_)
  clear hq3x
  have hO9x := kO_keep hO hdis hf1
  have hdis9 := kdis_keep hO hdis hDs
  rcases hp with hp | hp
  · have hO := hO9x
    have hdis := hdis9
    have hD := hD1
    obtain ⟨j2, hj2, ej2, hv2, er, eS⟩ := hp
    obtain rfl : j2 = m9 % 4 := nI_inj (by omega) (by omega) (ej2.symm.trans (kt_of nx1 (by omega)))
    have hvv := hv2.2
    rw [kc_lt (by decide : (9 : Int32).toInt = 9) nx2] at hvv
    obtain ⟨q1, hq1⟩ : ∃ q9 : qS, q9 = q_up q 2 (m9 % 4) (m9 % 11) := ⟨_, rfl⟩
    have hI1 : Inv z e0 S1 := by rw [eS]; exact hI.setU (by decide)
    have hR1 : Rq z av lv S1 q1 := by rw [eS, hq1]; exact Rq.aisx hR hI.1.2 hj2 (by decide) (kt_of nx2 (by omega))
    have hW1 : q_W q1 := by rw [hq1]; exact ⟨q_up_V hW.1 (by decide) (by decide), q_up_W3 hW.2.1 (by decide), q_up_W4b hW.2.2 (by decide)⟩
    have hL1 : q_L q1 := by rw [hq1]; exact q_up2_L hL (by omega)
    have hU1 : q_U q1 = q_U q := q_U_of (fun k hk i => by rw [hq1]; exact q_k (q_mem (P := fun k => k ≠ 2) hk (by decide)))
    have hO9 := q_O_of (q' := q1) hO9 (fun k hk i => by rw [hq1]; exact q_k (q_mem (P := fun k => k ≠ 2) hk (by decide)))
    have f73 : q1 73 0 = q 73 0 := by rw [hq1]; exact q_k (by decide)
    have hpb := hL.2.2.2.1 (m9 % 4) hj2
    have nr3 : r3.toInt = ((q 2 (m9 % 4) : Nat) : Int) := kt_nI (er.trans (hR.2.2.2.2.1 _ hj2 2 (by decide))) (by omega)
    have hI := hI1
    have hR := hR1
    have hW := hW1
    have hL := hL1
    clear hro hroom h57 h56
    have h721 : q1 72 0 = 3 := hL.1
    have h72 : q1 72 0 ≤ 12 := by omega
    have h73 : q1 73 0 ≤ 12 := hW.1.1.2.1
    have hro : q1 42 0 ≤ 504 := q_room hW.1.1 hW.1.2.2.2.1 hW.1.2.2.2.2.1
    have hroom : q1 42 0 < 516 := by omega
    have h57 : q1 57 0 ≤ 20 := hW.1.2.2.2.2.1.1
    have h56 : q1 56 0 ≤ 1439 := hL.2.2.2.2.2.1
    have h25 : ∀ i, i < q1 73 0 → q1 25 i < 2 ^ 31 := fun i hi => by have := (hW.1.2.2.1 i hi).2.2.2; omega
    have hU5 : q_U q1 ≤ 5000 := by omega
    refine lv_istore (lv' := [(17, .int r3), (18, .int 0), (16, .int od), (15, .int mm), (14, .int aa), (13, .int kd), (11, .long bf), (10, .int nx), (9, .int kx), (8, .int 1), (7, .int on), (6, .int un), (5, .ref ri), (4, .ref rb), (3, .ref rr), (2, .ref ra), (1, .ref (z 0)), (0, .ref b)]) hx hb dL_law_524 hl (by decide) rfl (fun ls hl => ?_)
    refine lv_iload hx hb dL_law_526 (lv_at hl 0 rfl) ?_
    refine lv_if_ge (tgt := 535) hx hb dL_law_528 (by decide) (fun c4 => ?_) (fun c4 => ?_)
    · have d4 : (0) ≤ r3.toInt := (kc_le (by decide : (0 : Int32).toInt = 0) (rfl : r3.toInt = r3.toInt)).mp c4
      refine lv_iconst (v := 0) hx hb dL_law_535 (by decide) ?_
      refine lv_istore (lv' := [(18, .int 0), (17, .int r3), (16, .int od), (15, .int mm), (14, .int aa), (13, .int kd), (11, .long bf), (10, .int nx), (9, .int kx), (8, .int 1), (7, .int on), (6, .int un), (5, .ref ri), (4, .ref rb), (3, .ref rr), (2, .ref ra), (1, .ref (z 0)), (0, .ref b)]) hx hb dL_law_536 hl (by decide) rfl (fun ls hl => ?_)
      refine lv_goto (tgt := 1227) hx hb dL_law_538 (by decide) ?_
      exact kk S1 O av lv q1 _ _ ls _ _ 0 on un ⟨⟨F, hK, hE, hNc, hX, hbl⟩, ⟨hP, hO⟩, ⟨hD, hDO⟩, hdis, hS, ⟨hI, hR, hW, hL⟩, hO9⟩ (by omega) (Or.inl rfl) (by omega) (by omega) (by omega) (by omega) (lv_sub hl [0, 6, 7, 8, 9, 10, 11, 12, 13, 14, 15, 16, 17] rfl)
    · have d4 : ¬ ((0) ≤ r3.toInt) := mt (kc_le (by decide : (0 : Int32).toInt = 0) (rfl : r3.toInt = r3.toInt)).mpr c4
      exfalso; omega
  · have hO := hO9x
    obtain ⟨hT, hrx⟩ : S = S1 ∧ r3.toInt ≤ -75 := by rcases hp with ⟨e, -, h⟩ | ⟨e, -, h⟩ <;> exact ⟨h.symm, by rw [e]; decide⟩
    subst hT
    clear hp
    refine lv_istore (lv' := [(17, .int r3), (18, .int 0), (16, .int od), (15, .int mm), (14, .int aa), (13, .int kd), (11, .long bf), (10, .int nx), (9, .int kx), (8, .int 1), (7, .int on), (6, .int un), (5, .ref ri), (4, .ref rb), (3, .ref rr), (2, .ref ra), (1, .ref (z 0)), (0, .ref b)]) hx hb dL_law_524 hl (by decide) rfl (fun ls hl => ?_)
    refine lv_iload hx hb dL_law_526 (lv_at hl 0 rfl) ?_
    refine lv_if_ge (tgt := 535) hx hb dL_law_528 (by decide) (fun c5 => ?_) (fun c5 => ?_)
    · have d5 : (0) ≤ r3.toInt := (kc_le (by decide : (0 : Int32).toInt = 0) (rfl : r3.toInt = r3.toInt)).mp c5
      exfalso; omega
    · have d5 : ¬ ((0) ≤ r3.toInt) := mt (kc_le (by decide : (0 : Int32).toInt = 0) (rfl : r3.toInt = r3.toInt)).mpr c5
      refine lv_iconst (v := 1) hx hb dL_law_531 (by decide) ?_
      refine lv_goto (tgt := 536) hx hb dL_law_532 (by decide) ?_
      refine lv_istore (lv' := [(18, .int 1), (17, .int r3), (16, .int od), (15, .int mm), (14, .int aa), (13, .int kd), (11, .long bf), (10, .int nx), (9, .int kx), (8, .int 1), (7, .int on), (6, .int un), (5, .ref ri), (4, .ref rb), (3, .ref rr), (2, .ref ra), (1, .ref (z 0)), (0, .ref b)]) hx hb dL_law_536 hl (by decide) rfl (fun ls hl => ?_)
      refine lv_goto (tgt := 1227) hx hb dL_law_538 (by decide) ?_
      exact kk S O av lv q _ _ ls _ _ 1 on un ⟨⟨F, hK, hE, hNc, hX, hbl⟩, ⟨hP, hO⟩, ⟨hD, hDO⟩, hdis, hS, ⟨hI, hR, hW, hL⟩, hO9⟩ (by omega) (Or.inr ⟨rfl, rfl⟩) (by omega) (by omega) (by omega) (by omega) (lv_sub hl [0, 6, 7, 8, 9, 10, 11, 12, 13, 14, 15, 16, 17] rfl)
