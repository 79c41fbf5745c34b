set_option maxHeartbeats 8000000 in
set_option maxRecDepth 100000 in
theorem kcs_giveBack {p : Program} {l : Launch} {e : Env} {s : State} {m : MethodId} {below : List Frame} {meth : Method} {c : Code} {b L : Nat} {xs : Nat → Int32} {g : kG} {e0 : Nat} {z av lv : Nat → Nat} {S O : wPS} {q : qS} {ra rr rb ri : Nat} {H : Heap} {locs : List Loc} {k0 n0 : Nat} {Q : State → Prop} {ls : Array Slot} (hl0 : l.stackTraces = false) (hL9 : L ≤ 260) (C : kLw p s m c b L xs g e0 z av lv S O q ra rr rb ri H locs) (hU : q_U q ≤ 4000) (hk0 : k0 + 3000 ≤ 1072639) (hn0 : n0 + 20000 ≤ 5883708) {kd nx kx mm aa od on un : Int32} {bf : Int64} {a m9 o9 : Nat} (ha : a ≤ 3) (haa : aa.toInt = ((a : Nat) : Int)) (hm9 : m9 < 1000) (hmm : mm.toInt = ((m9 : Nat) : Int)) (ho9 : o9 ≤ q 73 0) (hod : od.toInt = ((o9 : Nat) : Int)) (hon : on.toInt = ((q 73 0 : Nat) : Int)) (hun : un.toInt = ((q_U q : Nat) : Int)) (hl : lv_has ls 23 [(18, .int 0), (17, .int 0), (16, .int od), (15, .int mm), (14, .int aa), (13, .int kd), (11, .long bf), (10, .int nx), (9, .int kx), (8, .int 1), (7, .int on), (6, .int un), (5, .ref ri), (4, .ref rb), (3, .ref rr), (2, .ref ra), (1, .ref (z 0)), (0, .ref b)])
    (kk : ∀ (S1 O1 : wPS) (av1 lv1 : Nat → Nat) (q1 : qS) (H1 : Heap) (locs1 : List Loc) (ls1 : Array Slot) (k1 n1 : Nat) (th on1 un1 : Int32), kLw p s m c b L xs g e0 z av1 lv1 S1 O1 q1 ra rr rb ri H1 locs1 → q_U q1 ≤ q_U q + 14 → (th = 0 ∨ (th = 1 ∧ q_sm q1 = q_sm q)) → on1.toInt = ((q1 73 0 : Nat) : Int) → un1.toInt = ((q_U q1 : Nat) : Int) → k1 ≤ k0 + 3000 → n1 ≤ n0 + 20000 → lv_has ls1 23 [(18, .int th), (11, .long bf), (10, .int nx), (9, .int kx), (8, .int 1), (7, .int on1), (6, .int un1), (5, .ref ri), (4, .ref rb), (3, .ref rr), (2, .ref ra), (1, .ref (z 0)), (0, .ref b)] → W p l e room_1 s m #[Value.ref b] below meth c H1 locs1 k1 n1 Q (F0 m 1227 ls1 [])) :
    W p l e room_1 s m #[Value.ref b] below meth c H locs k0 n0 Q (F0 m 548 ls []) := by
  obtain ⟨⟨F, hK, hE, hNc, hX, hbl⟩, ⟨hP, hO⟩, ⟨hD, hDO⟩, hdis, hS, ⟨hI, hR, hW, hL⟩, hO9⟩ := C
  have hx := F.1
  have hb := F.2.1
  have hbA : ¬ kAs s b := Nat.not_le.mpr hbl
  have hA : ∀ q : Nat, s.heap.size ≤ q → kAs s q := fun _ h => h
  have hU5 : q_U q ≤ 5000 := by omega
  have h721 : q 72 0 = 3 := hL.1
  have h72 : q 72 0 ≤ 12 := by omega
  have h73 : q 73 0 ≤ 12 := hW.1.1.2.1
  have hro : q 42 0 ≤ 504 := q_room hW.1.1 hW.1.2.2.2.1 hW.1.2.2.2.2.1
  have hroom : q 42 0 < 516 := by omega
  have h57 : q 57 0 ≤ 20 := hW.1.2.2.2.2.1.1
  have h56 : q 56 0 ≤ 1439 := hL.2.2.2.2.2.1
  have h25 : ∀ i, i < q 73 0 → q 25 i < 2 ^ 31 := fun i hi => by have := (hW.1.2.2.1 i hi).2.2.2; omega
  obtain ⟨⟨oa, la⟩, ⟨orr, lr⟩, ⟨obb, lb⟩, ⟨oi, li⟩, hne, hra, hrb, hri⟩ := id hO9
  rcases (Nat.lt_or_ge a 3) with hin | hin
  · have w3a := hW.2.1 a (by omega)
    have u13 := q_U13 (q := q) hin
    refine lv_aload_n hx hb dL_law_548 rfl (lv_at hl 16 rfl) ?_
    refine lv_iload hx hb dL_law_549 (lv_at hl 4 rfl) ?_
    refine kcallhI (kSthW (n := 2) (As := [.ref (z 0), .int aa]) (rest := []) F hE hNc hK hP hD hS hA (kh_stock l g e0 S _ (z 0) aa _ _ hI.ob0 (c_X5_stock_x l hl0 g e0 z S _ hI av lv q hR h72 aa) (fun E h => h.1)) kw_188 kw_189 kw_61 kw_190 (by decide +kernel) ⟨Nat.le_of_ble_eq_true rfl, Nat.le_of_ble_eq_true rfl⟩ rfl hl.1 rfl (Nat.le_of_ble_eq_true rfl) dL_law_551 ⟨(by show k0 + 1 ≤ 1072639; omega), (by show n0 + 6 ≤ 5883708; omega)⟩) rfl hD hS hA (fun r1 T1 H locs hp hP hq1x hq2x hq3x hf1 hS => ?_)
    clear hq1x hq2x hq3x
    have hO := kO_keep hO hdis hf1
    obtain ⟨hT, nr1⟩ := kp_A (i := a) hp haa (by omega) (by omega) (by omega)
    subst hT
    clear hp
    refine lv_istore (lv' := [(19, .int r1), (18, .int 0), (17, .int 0), (16, .int od), (15, .int mm), (14, .int aa), (13, .int kd), (11, .long bf), (10, .int nx), (9, .int kx), (8, .int 1), (7, .int on), (6, .int un), (5, .ref ri), (4, .ref rb), (3, .ref rr), (2, .ref ra), (1, .ref (z 0)), (0, .ref b)]) hx hb dL_law_554 hl (by decide) rfl (fun ls hl => ?_)
    refine lv_aload_n hx hb dL_law_556 rfl (lv_at hl 17 rfl) ?_
    refine lv_iload hx hb dL_law_557 (lv_at hl 5 rfl) ?_
    refine lv_iload hx hb dL_law_559 (lv_at hl 4 rfl) ?_
    refine lv_bipush (v := 15) hx hb dL_law_561 (by decide) ?_
    refine lv_irem hx hb dL_law_563 (by decide) ?_
    refine lv_topi (fun x2 ex2 => ?_)
    have nx2 : x2.toInt = ((m9 % 15 : Nat) : Int) := kt_rem ex2 hmm (by decide : (15 : Int32).toInt = ((15 : Nat) : Int)) (by omega) (by omega) (by omega)
    refine lv_iload hx hb dL_law_564 (lv_at hl 4 rfl) ?_
    refine lv_iconst (v := 3) hx hb dL_law_566 (by decide) ?_
    refine lv_irem hx hb dL_law_567 (by decide) ?_
    refine lv_topi (fun x3 ex3 => ?_)
    have nx3 : x3.toInt = ((m9 % 3 : Nat) : Int) := kt_rem ex3 hmm (by decide : (3 : Int32).toInt = ((3 : Nat) : Int)) (by omega) (by omega) (by omega)
    refine kcallhI (kSthW (n := 4) (As := [.ref (z 0), .int aa, .int x2, .int x3]) (rest := []) F hE hNc hK hP hD hS hA (kh_giveBack l g e0 S _ (z 0) aa x2 x3 _ _ hI.ob0 (c_X5_giveBack_x l hl0 g e0 z S _ hI av lv q hR h72 hW.2.1 (m9 % 15) (m9 % 3) aa x2 x3 (kt_of nx2 (by omega)) (kt_of nx3 (by omega)) (by omega)) (fun E h => h)) kw_378 kw_379 kw_61 kw_380 (by decide +kernel) ⟨Nat.le_of_ble_eq_true rfl, Nat.le_of_ble_eq_true rfl⟩ rfl hl.1 rfl (Nat.le_of_ble_eq_true rfl) dL_law_568 ⟨(by show k0 + 1 + 2 ≤ 1072639; omega), (by show n0 + 6 + 12 ≤ 5883708; omega)⟩) rfl hD hS hA (fun r4 S1 H locs hp hP hDs hD1 hq3x hf1 hS => ?_)
    clear hq3x
    have hO9x := kO_keep hO hdis hf1
    have hdis9 := kdis_keep hO hdis hDs
    rcases hp with hp | hp
    · have hO := hO9x
      have hdis := hdis9
      have hD := hD1
      obtain ⟨hk9, a2, ha2, ea2, er, hR1⟩ := hp
      obtain rfl : a = a2 := nI_inj (by omega) (by omega) ((kt_of haa (by omega)).symm.trans ea2)
      have hI1 : Inv z e0 S1 := hI.keep hk9.1
      obtain ⟨q1, hq1⟩ : ∃ q9 : qS, q9 = q_put a (m9 % 15) (q_up q 58 0 (q 58 0 + (m9 % 3))) := ⟨_, rfl⟩
      rw [← hq1] at hR1
      have hW1 : q_W q1 := by rw [hq1]; exact q_put_W ⟨q_up_V hW.1 (by decide) (by decide), q_up_W3 hW.2.1 (by decide), q_up_W4b hW.2.2 (by decide)⟩
      have fo : ∀ k, (k ≠ 12 ∧ k ≠ 13 ∧ k ≠ 58) → ∀ i, q1 k i = q k i := fun k hk i => by rw [hq1, q_puto ⟨hk.1, hk.2.1⟩]; exact q_k hk.2.2
      have hL1 : q_L q1 := q_L_of hL (fun k hk i => fo k (q_mem (P := fun k => k ≠ 12 ∧ k ≠ 13 ∧ k ≠ 58) hk (by decide)) i)
      have hO9 := q_O_of (q' := q1) hO9 (fun k hk i => fo k (q_mem (P := fun k => k ≠ 12 ∧ k ≠ 13 ∧ k ≠ 58) hk (by decide)) i)
      have hU1 : q_U q1 = q_U q + (m9 % 15) := by rw [hq1, q_put_U hin]; exact congrArg (· + (m9 % 15)) (q_U_of (fun k hk i => q_k (q_mem (P := fun k => k ≠ 58) hk (by decide))))
      have f12 : q1 12 a = q 12 a + min (m9 % 15) (q 11 a - q 12 a) := by rw [hq1, q_put_f.1]; rfl
      have f11 : q1 11 a = q 11 a := fo 11 (by decide) a
      have f73 : q1 73 0 = q 73 0 := fo 73 (by decide) 0
      have hmn := @k_min (m9 % 15) (q 11 a - q 12 a)
      generalize min (m9 % 15) (q 11 a - q 12 a) = mn at hmn f12 er
      have nr4 : r4.toInt = ((mn : Nat) : Int) := kt_nI er (by omega)
      have hI := hI1
      have hR := hR1
      have hW := hW1
      have hL := hL1
      clear hro hroom h57 h56
      have h721 : q1 72 0 = 3 := hL.1
      have h72 : q1 72 0 ≤ 12 := by omega
      have h73 : q1 73 0 ≤ 12 := hW.1.1.2.1
      have hro : q1 42 0 ≤ 504 := q_room hW.1.1 hW.1.2.2.2.1 hW.1.2.2.2.2.1
      have hroom : q1 42 0 < 516 := by omega
      have h57 : q1 57 0 ≤ 20 := hW.1.2.2.2.2.1.1
      have h56 : q1 56 0 ≤ 1439 := hL.2.2.2.2.2.1
      have h25 : ∀ i, i < q1 73 0 → q1 25 i < 2 ^ 31 := fun i hi => by have := (hW.1.2.2.1 i hi).2.2.2; omega
      have hU5 : q_U q1 ≤ 5000 := by omega
      obtain ⟨⟨oa, la⟩, ⟨orr, lr⟩, ⟨obb, lb⟩, ⟨oi, li⟩, hne, hra, hrb, hri⟩ := id hO9
      refine lv_istore (lv' := [(17, .int r4), (19, .int r1), (18, .int 0), (16, .int od), (15, .int mm), (14, .int aa), (13, .int kd), (11, .long bf), (10, .int nx), (9, .int kx), (8, .int 1), (7, .int on), (6, .int un), (5, .ref ri), (4, .ref rb), (3, .ref rr), (2, .ref ra), (1, .ref (z 0)), (0, .ref b)]) hx hb dL_law_571 hl (by decide) rfl (fun ls hl => ?_)
      refine lv_iload hx hb dL_law_573 (lv_at hl 0 rfl) ?_
      refine lv_if_ge (tgt := 582) hx hb dL_law_575 (by decide) (fun c5 => ?_) (fun c5 => ?_)
      · have d5 : (0) ≤ r4.toInt := (kc_le (by decide : (0 : Int32).toInt = 0) (rfl : r4.toInt = r4.toInt)).mp c5
        refine lv_iconst (v := 0) hx hb dL_law_582 (by decide) ?_
        refine lv_istore (lv' := [(18, .int 0), (17, .int r4), (19, .int r1), (16, .int od), (15, .int mm), (14, .int aa), (13, .int kd), (11, .long bf), (10, .int nx), (9, .int kx), (8, .int 1), (7, .int on), (6, .int un), (5, .ref ri), (4, .ref rb), (3, .ref rr), (2, .ref ra), (1, .ref (z 0)), (0, .ref b)]) hx hb dL_law_583 hl (by decide) rfl (fun ls hl => ?_)
        refine lv_iload hx hb dL_law_585 (lv_at hl 1 rfl) ?_
        refine lv_if_lt (tgt := 644) hx hb dL_law_587 (by decide) (fun c6 => ?_) (fun c6 => ?_)
        · have d6 : r4.toInt < (0) := (kc_lt (rfl : r4.toInt = r4.toInt) (by decide : (0 : Int32).toInt = 0)).mp c6
          exfalso; omega
        · have d6 : ¬ (r4.toInt < (0)) := mt (kc_lt (rfl : r4.toInt = r4.toInt) (by decide : (0 : Int32).toInt = 0)).mpr c6
          refine lv_iload hx hb dL_law_590 (lv_at hl 12 rfl) ?_
          refine lv_iload hx hb dL_law_592 (lv_at hl 4 rfl) ?_
          refine lv_bipush (v := 15) hx hb dL_law_594 (by decide) ?_
          refine lv_irem hx hb dL_law_596 (by decide) ?_
          refine lv_topi (fun x7 ex7 => ?_)
          have nx7 : x7.toInt = ((m9 % 15 : Nat) : Int) := kt_rem ex7 hmm (by decide : (15 : Int32).toInt = ((15 : Nat) : Int)) (by omega) (by omega) (by omega)
          refine lv_iadd hx hb dL_law_597 ?_
          refine lv_topi (fun x8 ex8 => ?_)
          have tx8 : x8.toInt = un.toInt + x7.toInt := kt_add ex8 (rfl : un.toInt = un.toInt) (rfl : x7.toInt = x7.toInt) (by omega) (by omega)
          refine lv_istore (lv' := [(6, .int x8), (18, .int 0), (17, .int r4), (19, .int r1), (16, .int od), (15, .int mm), (14, .int aa), (13, .int kd), (11, .long bf), (10, .int nx), (9, .int kx), (8, .int 1), (7, .int on), (5, .ref ri), (4, .ref rb), (3, .ref rr), (2, .ref ra), (1, .ref (z 0)), (0, .ref b)]) hx hb dL_law_598 hl (by decide) rfl (fun ls hl => ?_)
          refine lv_aload_n hx hb dL_law_600 rfl (lv_at hl 17 rfl) ?_
          refine lv_iload hx hb dL_law_601 (lv_at hl 6 rfl) ?_
          refine kcallhI (kSthW (n := 2) (As := [.ref (z 0), .int aa]) (rest := []) F hE hNc hK hP hD hS hA (kh_stock l g e0 S1 _ (z 0) aa _ _ hI.ob0 (c_X5_stock_x l hl0 g e0 z S1 _ hI av lv q1 hR h72 aa) (fun E h => h.1)) kw_188 kw_189 kw_61 kw_190 (by decide +kernel) ⟨Nat.le_of_ble_eq_true rfl, Nat.le_of_ble_eq_true rfl⟩ rfl hl.1 rfl (Nat.le_of_ble_eq_true rfl) dL_law_603 ⟨(by show k0 + 1 + 2 + 1 ≤ 1072639; omega), (by show n0 + 6 + 12 + 6 ≤ 5883708; omega)⟩) rfl hD hS hA (fun r9 T1 H locs hp hP hq1x hq2x hq3x hf1 hS => ?_)
          clear hq1x hq2x hq3x
          have hO := kO_keep hO hdis hf1
          obtain ⟨hT, nr9⟩ := kp_A (i := a) hp haa (by omega) (by omega) (by omega)
          subst hT
          clear hp
          refine lv_iload hx hb dL_law_606 (lv_at hl 3 rfl) ?_
          refine lv_iload hx hb dL_law_608 (lv_at hl 2 rfl) ?_
          refine lv_iadd hx hb dL_law_610 ?_
          refine lv_topi (fun x10 ex10 => ?_)
          have tx10 : x10.toInt = r1.toInt + r4.toInt := kt_add ex10 (rfl : r1.toInt = r1.toInt) (rfl : r4.toInt = r4.toInt) (by omega) (by omega)
          refine lv_icmp_ne (tgt := 641) hx hb dL_law_611 (by decide) (fun c11 => ?_) (fun c11 => ?_)
          · have d11 : r9.toInt ≠ x10.toInt := mt (kc_eq (rfl : r9.toInt = r9.toInt) (rfl : x10.toInt = x10.toInt)).mpr c11
            exfalso; omega
          · have d11 : r9.toInt = x10.toInt := (kc_eq (rfl : r9.toInt = r9.toInt) (rfl : x10.toInt = x10.toInt)).mp c11
            refine lv_iload hx hb dL_law_614 (lv_at hl 2 rfl) ?_
            refine lv_iload hx hb dL_law_616 (lv_at hl 5 rfl) ?_
            refine lv_bipush (v := 15) hx hb dL_law_618 (by decide) ?_
            refine lv_irem hx hb dL_law_620 (by decide) ?_
            refine lv_topi (fun x12 ex12 => ?_)
            have nx12 : x12.toInt = ((m9 % 15 : Nat) : Int) := kt_rem ex12 hmm (by decide : (15 : Int32).toInt = ((15 : Nat) : Int)) (by omega) (by omega) (by omega)
            refine lv_icmp_eq (tgt := 637) hx hb dL_law_621 (by decide) (fun c13 => ?_) (fun c13 => ?_)
            · have d13 : r4.toInt = x12.toInt := (kc_eq (rfl : r4.toInt = r4.toInt) (rfl : x12.toInt = x12.toInt)).mp c13
              refine lv_iconst (v := 1) hx hb dL_law_637 (by decide) ?_
              refine lv_goto (tgt := 642) hx hb dL_law_638 (by decide) ?_
              refine lv_istore (lv' := [(8, .int 1), (6, .int x8), (18, .int 0), (17, .int r4), (19, .int r1), (16, .int od), (15, .int mm), (14, .int aa), (13, .int kd), (11, .long bf), (10, .int nx), (9, .int kx), (7, .int on), (5, .ref ri), (4, .ref rb), (3, .ref rr), (2, .ref ra), (1, .ref (z 0)), (0, .ref b)]) hx hb dL_law_642 hl (by decide) rfl (fun ls hl => ?_)
              refine lv_goto (tgt := 1227) hx hb dL_law_644 (by decide) ?_
              exact kk S1 O av lv q1 _ _ ls _ _ 0 on x8 ⟨⟨F, hK, hE, hNc, hX, hbl⟩, ⟨hP, hO⟩, ⟨hD, hDO⟩, hdis, hS, ⟨hI, hR, hW, hL⟩, hO9⟩ (by omega) (Or.inl rfl) (by omega) (by omega) (by omega) (by omega) (lv_sub hl [2, 9, 10, 11, 0, 12, 1, 13, 14, 15, 16, 17, 18] rfl)
            · have d13 : r4.toInt ≠ x12.toInt := mt (kc_eq (rfl : r4.toInt = r4.toInt) (rfl : x12.toInt = x12.toInt)).mpr c13
              refine lv_aload_n hx hb dL_law_624 rfl (lv_at hl 17 rfl) ?_
              refine lv_iload hx hb dL_law_625 (lv_at hl 6 rfl) ?_
              refine kcallhI (kSthW (n := 2) (As := [.ref (z 0), .int aa]) (rest := []) F hE hNc hK hP hD hS hA (kh_stock l g e0 S1 _ (z 0) aa _ _ hI.ob0 (c_X5_stock_x l hl0 g e0 z S1 _ hI av lv q1 hR h72 aa) (fun E h => h.1)) kw_188 kw_189 kw_61 kw_190 (by decide +kernel) ⟨Nat.le_of_ble_eq_true rfl, Nat.le_of_ble_eq_true rfl⟩ rfl hl.1 rfl (Nat.le_of_ble_eq_true rfl) dL_law_627 ⟨(by show k0 + 1 + 2 + 1 + 1 ≤ 1072639; omega), (by show n0 + 6 + 12 + 6 + 6 ≤ 5883708; omega)⟩) rfl hD hS hA (fun r14 T1 H locs hp hP hq1x hq2x hq3x hf1 hS => ?_)
              clear hq1x hq2x hq3x
              have hO := kO_keep hO hdis hf1
              obtain ⟨hT, nr14⟩ := kp_A (i := a) hp haa (by omega) (by omega) (by omega)
              subst hT
              clear hp
              refine lv_aload_n hx hb dL_law_630 rfl (lv_at hl 15 rfl) ?_
              refine lv_iload hx hb dL_law_631 (lv_at hl 6 rfl) ?_
              refine rd_I F hK hO orr (by rw [lr]; exact kt_in haa (by omega) (by decide)) dL_law_633 ?_
              refine lv_topi (fun x15 ex15 => ?_)
              have nx15 : x15.toInt = ((q1 11 a : Nat) : Int) := kt_nI (by rw [ex15, kt_clamp haa (by omega)]; exact (hra a (by omega)).2) (by omega)
              refine lv_icmp_ne (tgt := 641) hx hb dL_law_634 (by decide) (fun c16 => ?_) (fun c16 => ?_)
              · have d16 : r14.toInt ≠ x15.toInt := mt (kc_eq (rfl : r14.toInt = r14.toInt) (rfl : x15.toInt = x15.toInt)).mpr c16
                exfalso; omega
              · have d16 : r14.toInt = x15.toInt := (kc_eq (rfl : r14.toInt = r14.toInt) (rfl : x15.toInt = x15.toInt)).mp c16
                refine lv_iconst (v := 1) hx hb dL_law_637 (by decide) ?_
                refine lv_goto (tgt := 642) hx hb dL_law_638 (by decide) ?_
                refine lv_istore (lv' := [(8, .int 1), (6, .int x8), (18, .int 0), (17, .int r4), (19, .int r1), (16, .int od), (15, .int mm), (14, .int aa), (13, .int kd), (11, .long bf), (10, .int nx), (9, .int kx), (7, .int on), (5, .ref ri), (4, .ref rb), (3, .ref rr), (2, .ref ra), (1, .ref (z 0)), (0, .ref b)]) hx hb dL_law_642 hl (by decide) rfl (fun ls hl => ?_)
                refine lv_goto (tgt := 1227) hx hb dL_law_644 (by decide) ?_
                exact kk S1 O av lv q1 _ _ ls _ _ 0 on x8 ⟨⟨F, hK, hE, hNc, hX, hbl⟩, ⟨hP, hO⟩, ⟨hD, hDO⟩, hdis, hS, ⟨hI, hR, hW, hL⟩, hO9⟩ (by omega) (Or.inl rfl) (by omega) (by omega) (by omega) (by omega) (lv_sub hl [2, 9, 10, 11, 0, 12, 1, 13, 14, 15, 16, 17, 18] rfl)
      · have d5 : ¬ ((0) ≤ r4.toInt) := mt (kc_le (by decide : (0 : Int32).toInt = 0) (rfl : r4.toInt = r4.toInt)).mpr c5
        exfalso; omega
    · have hO := hO9x
      obtain ⟨hT, hrx⟩ : S = S1 ∧ r4.toInt ≤ -75 := by rcases hp with ⟨e, -, h⟩ | ⟨e, -, h⟩ | ⟨e, -, h⟩ <;> exact ⟨h.symm, by rw [e]; decide⟩
      subst hT
      clear hp
      refine lv_istore (lv' := [(17, .int r4), (19, .int r1), (18, .int 0), (16, .int od), (15, .int mm), (14, .int aa), (13, .int kd), (11, .long bf), (10, .int nx), (9, .int kx), (8, .int 1), (7, .int on), (6, .int un), (5, .ref ri), (4, .ref rb), (3, .ref rr), (2, .ref ra), (1, .ref (z 0)), (0, .ref b)]) hx hb dL_law_571 hl (by decide) rfl (fun ls hl => ?_)
      refine lv_iload hx hb dL_law_573 (lv_at hl 0 rfl) ?_
      refine lv_if_ge (tgt := 582) hx hb dL_law_575 (by decide) (fun c17 => ?_) (fun c17 => ?_)
      · have d17 : (0) ≤ r4.toInt := (kc_le (by decide : (0 : Int32).toInt = 0) (rfl : r4.toInt = r4.toInt)).mp c17
        exfalso; omega
      · have d17 : ¬ ((0) ≤ r4.toInt) := mt (kc_le (by decide : (0 : Int32).toInt = 0) (rfl : r4.toInt = r4.toInt)).mpr c17
        refine lv_iconst (v := 1) hx hb dL_law_578 (by decide) ?_
        refine lv_goto (tgt := 583) hx hb dL_law_579 (by decide) ?_
        refine lv_istore (lv' := [(18, .int 1), (17, .int r4), (19, .int r1), (16, .int od), (15, .int mm), (14, .int aa), (13, .int kd), (11, .long bf), (10, .int nx), (9, .int kx), (8, .int 1), (7, .int on), (6, .int un), (5, .ref ri), (4, .ref rb), (3, .ref rr), (2, .ref ra), (1, .ref (z 0)), (0, .ref b)]) hx hb dL_law_583 hl (by decide) rfl (fun ls hl => ?_)
        refine lv_iload hx hb dL_law_585 (lv_at hl 1 rfl) ?_
        refine lv_if_lt (tgt := 644) hx hb dL_law_587 (by decide) (fun c18 => ?_) (fun c18 => ?_)
        · have d18 : r4.toInt < (0) := (kc_lt (rfl : r4.toInt = r4.toInt) (by decide : (0 : Int32).toInt = 0)).mp c18
          refine lv_goto (tgt := 1227) hx hb dL_law_644 (by decide) ?_
          exact kk S O av lv q _ _ ls _ _ 1 on un ⟨⟨F, hK, hE, hNc, hX, hbl⟩, ⟨hP, hO⟩, ⟨hD, hDO⟩, hdis, hS, ⟨hI, hR, hW, hL⟩, hO9⟩ (by omega) (Or.inr ⟨rfl, rfl⟩) (by omega) (by omega) (by omega) (by omega) (lv_sub hl [0, 7, 8, 9, 10, 11, 12, 13, 14, 15, 16, 17, 18] rfl)
        · have d18 : ¬ (r4.toInt < (0)) := mt (kc_lt (rfl : r4.toInt = r4.toInt) (by decide : (0 : Int32).toInt = 0)).mpr c18
          exfalso; omega
  · refine lv_aload_n hx hb dL_law_548 rfl (lv_at hl 16 rfl) ?_
    refine lv_iload hx hb dL_law_549 (lv_at hl 4 rfl) ?_
    refine kcallhI (kSthW (n := 2) (As := [.ref (z 0), .int aa]) (rest := []) F hE hNc hK hP hD hS hA (kh_stock l g e0 S _ (z 0) aa _ _ hI.ob0 (c_X5_stock_x l hl0 g e0 z S _ hI av lv q hR h72 aa) (fun E h => h.1)) kw_188 kw_189 kw_61 kw_190 (by decide +kernel) ⟨Nat.le_of_ble_eq_true rfl, Nat.le_of_ble_eq_true rfl⟩ rfl hl.1 rfl (Nat.le_of_ble_eq_true rfl) dL_law_551 ⟨(by show k0 + 1 ≤ 1072639; omega), (by show n0 + 6 ≤ 5883708; omega)⟩) rfl hD hS hA (fun r19 T1 H locs hp hP hq1x hq2x hq3x hf1 hS => ?_)
    clear hq1x hq2x hq3x
    have hO := kO_keep hO hdis hf1
    obtain ⟨hT, nr19⟩ := kp_Ao (i := a) hp haa (by omega) (by omega)
    subst hT
    clear hp
    refine lv_istore (lv' := [(19, .int r19), (18, .int 0), (17, .int 0), (16, .int od), (15, .int mm), (14, .int aa), (13, .int kd), (11, .long bf), (10, .int nx), (9, .int kx), (8, .int 1), (7, .int on), (6, .int un), (5, .ref ri), (4, .ref rb), (3, .ref rr), (2, .ref ra), (1, .ref (z 0)), (0, .ref b)]) hx hb dL_law_554 hl (by decide) rfl (fun ls hl => ?_)
    refine lv_aload_n hx hb dL_law_556 rfl (lv_at hl 17 rfl) ?_
    refine lv_iload hx hb dL_law_557 (lv_at hl 5 rfl) ?_
    refine lv_iload hx hb dL_law_559 (lv_at hl 4 rfl) ?_
    refine lv_bipush (v := 15) hx hb dL_law_561 (by decide) ?_
    refine lv_irem hx hb dL_law_563 (by decide) ?_
    refine lv_topi (fun x20 ex20 => ?_)
    have nx20 : x20.toInt = ((m9 % 15 : Nat) : Int) := kt_rem ex20 hmm (by decide : (15 : Int32).toInt = ((15 : Nat) : Int)) (by omega) (by omega) (by omega)
    refine lv_iload hx hb dL_law_564 (lv_at hl 4 rfl) ?_
    refine lv_iconst (v := 3) hx hb dL_law_566 (by decide) ?_
    refine lv_irem hx hb dL_law_567 (by decide) ?_
    refine lv_topi (fun x21 ex21 => ?_)
    have nx21 : x21.toInt = ((m9 % 3 : Nat) : Int) := kt_rem ex21 hmm (by decide : (3 : Int32).toInt = ((3 : Nat) : Int)) (by omega) (by omega) (by omega)
    refine kcallhI (kSthW (n := 4) (As := [.ref (z 0), .int aa, .int x20, .int x21]) (rest := []) F hE hNc hK hP hD hS hA (kh_giveBack l g e0 S _ (z 0) aa x20 x21 _ _ hI.ob0 (c_X5_giveBack_x l hl0 g e0 z S _ hI av lv q hR h72 hW.2.1 (m9 % 15) (m9 % 3) aa x20 x21 (kt_of nx20 (by omega)) (kt_of nx21 (by omega)) (by omega)) (fun E h => h)) kw_378 kw_379 kw_61 kw_380 (by decide +kernel) ⟨Nat.le_of_ble_eq_true rfl, Nat.le_of_ble_eq_true rfl⟩ rfl hl.1 rfl (Nat.le_of_ble_eq_true rfl) dL_law_568 ⟨(by show k0 + 1 + 2 ≤ 1072639; omega), (by show n0 + 6 + 12 ≤ 5883708; omega)⟩) rfl hD hS hA (fun r22 S1 H locs hp hP hDs hD1 hq3x hf1 hS => ?_)
    clear hq3x
    have hO9x := kO_keep hO hdis hf1
    have hdis9 := kdis_keep hO hdis hDs
    rcases hp with hp | hp
    · have hO := hO9x
      have hdis := hdis9
      have hD := hD1
      obtain ⟨hk9, a2, ha2, ea2, er, hR1⟩ := hp
      obtain rfl : a = a2 := nI_inj (by omega) (by omega) ((kt_of haa (by omega)).symm.trans ea2)
      exfalso; omega
    · have hO := hO9x
      obtain ⟨hT, hrx⟩ : S = S1 ∧ r22.toInt ≤ -75 := by rcases hp with ⟨e, -, h⟩ | ⟨e, -, h⟩ | ⟨e, -, h⟩ <;> exact ⟨h.symm, by rw [e]; decide⟩
      subst hT
      clear hp
      refine lv_istore (lv' := [(17, .int r22), (19, .int r19), (18, .int 0), (16, .int od), (15, .int mm), (14, .int aa), (13, .int kd), (11, .long bf), (10, .int nx), (9, .int kx), (8, .int 1), (7, .int on), (6, .int un), (5, .ref ri), (4, .ref rb), (3, .ref rr), (2, .ref ra), (1, .ref (z 0)), (0, .ref b)]) hx hb dL_law_571 hl (by decide) rfl (fun ls hl => ?_)
      refine lv_iload hx hb dL_law_573 (lv_at hl 0 rfl) ?_
      refine lv_if_ge (tgt := 582) hx hb dL_law_575 (by decide) (fun c23 => ?_) (fun c23 => ?_)
      · have d23 : (0) ≤ r22.toInt := (kc_le (by decide : (0 : Int32).toInt = 0) (rfl : r22.toInt = r22.toInt)).mp c23
        exfalso; omega
      · have d23 : ¬ ((0) ≤ r22.toInt) := mt (kc_le (by decide : (0 : Int32).toInt = 0) (rfl : r22.toInt = r22.toInt)).mpr c23
        refine lv_iconst (v := 1) hx hb dL_law_578 (by decide) ?_
        refine lv_goto (tgt := 583) hx hb dL_law_579 (by decide) ?_
        refine lv_istore (lv' := [(18, .int 1), (17, .int r22), (19, .int r19), (16, .int od), (15, .int mm), (14, .int aa), (13, .int kd), (11, .long bf), (10, .int nx), (9, .int kx), (8, .int 1), (7, .int on), (6, .int un), (5, .ref ri), (4, .ref rb), (3, .ref rr), (2, .ref ra), (1, .ref (z 0)), (0, .ref b)]) hx hb dL_law_583 hl (by decide) rfl (fun ls hl => ?_)
        refine lv_iload hx hb dL_law_585 (lv_at hl 1 rfl) ?_
        refine lv_if_lt (tgt := 644) hx hb dL_law_587 (by decide) (fun c24 => ?_) (fun c24 => ?_)
        · have d24 : r22.toInt < (0) := (kc_lt (rfl : r22.toInt = r22.toInt) (by decide : (0 : Int32).toInt = 0)).mp c24
          refine lv_goto (tgt := 1227) hx hb dL_law_644 (by decide) ?_
          exact kk S O av lv q _ _ ls _ _ 1 on un ⟨⟨F, hK, hE, hNc, hX, hbl⟩, ⟨hP, hO⟩, ⟨hD, hDO⟩, hdis, hS, ⟨hI, hR, hW, hL⟩, hO9⟩ (by omega) (Or.inr ⟨rfl, rfl⟩) (by omega) (by omega) (by omega) (by omega) (lv_sub hl [0, 7, 8, 9, 10, 11, 12, 13, 14, 15, 16, 17, 18] rfl)
        · have d24 : ¬ (r22.toInt < (0)) := mt (kc_lt (rfl : r22.toInt = r22.toInt) (by decide : (0 : Int32).toInt = 0)).mpr c24
          exfalso; omega
