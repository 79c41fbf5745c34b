set_option maxHeartbeats 8000000 in
set_option maxRecDepth 100000 in
theorem kcs_send {p : Program} {l : Launch} {e : Env} {s : State} {m : MethodId} {below : List Frame} {meth : Method} {c : Code} {b L : Nat} {xs : Nat → Int32} {g : kG} {e0 : Nat} {z av lv : Nat → Nat} {S O : wPS} {q : qS} {ra rr rb ri : Nat} {H : Heap} {locs : List Loc} {k0 n0 : Nat} {Q : State → Prop} {ls : Array Slot} (hl0 : l.stackTraces = false) (hL9 : L ≤ 260) (C : kLw p s m c b L xs g e0 z av lv S O q ra rr rb ri H locs) (hU : q_U q ≤ 4000) (hk0 : k0 + 3000 ≤ 1072639) (hn0 : n0 + 20000 ≤ 5883708) {kd nx kx mm aa od on un : Int32} {bf : Int64} {a m9 o9 : Nat} (ha : a ≤ 3) (haa : aa.toInt = ((a : Nat) : Int)) (hm9 : m9 < 1000) (hmm : mm.toInt = ((m9 : Nat) : Int)) (ho9 : o9 ≤ q 73 0) (hod : od.toInt = ((o9 : Nat) : Int)) (hon : on.toInt = ((q 73 0 : Nat) : Int)) (hun : un.toInt = ((q_U q : Nat) : Int)) (hl : lv_has ls 23 [(18, .int 0), (17, .int 0), (16, .int od), (15, .int mm), (14, .int aa), (13, .int kd), (11, .long bf), (10, .int nx), (9, .int kx), (8, .int 1), (7, .int on), (6, .int un), (5, .ref ri), (4, .ref rb), (3, .ref rr), (2, .ref ra), (1, .ref (z 0)), (0, .ref b)])
    (kk : ∀ (S1 O1 : wPS) (av1 lv1 : Nat → Nat) (q1 : qS) (H1 : Heap) (locs1 : List Loc) (ls1 : Array Slot) (k1 n1 : Nat) (th on1 un1 : Int32), kLw p s m c b L xs g e0 z av1 lv1 S1 O1 q1 ra rr rb ri H1 locs1 → q_U q1 ≤ q_U q + 14 → (th = 0 ∨ (th = 1 ∧ q_sm q1 = q_sm q)) → on1.toInt = ((q1 73 0 : Nat) : Int) → un1.toInt = ((q_U q1 : Nat) : Int) → k1 ≤ k0 + 3000 → n1 ≤ n0 + 20000 → lv_has ls1 23 [(18, .int th), (11, .long bf), (10, .int nx), (9, .int kx), (8, .int 1), (7, .int on1), (6, .int un1), (5, .ref ri), (4, .ref rb), (3, .ref rr), (2, .ref ra), (1, .ref (z 0)), (0, .ref b)] → W p l e room_1 s m #[Value.ref b] below meth c H1 locs1 k1 n1 Q (F0 m 1227 ls1 [])) :
    W p l e room_1 s m #[Value.ref b] below meth c H locs k0 n0 Q (F0 m 1037 ls []) := by
  obtain ⟨⟨F, hK, hE, hNc, hX, hbl⟩, ⟨hP, hO⟩, ⟨hD, hDO⟩, hdis, hS, ⟨hI, hR, hW, hL⟩, hO9⟩ := C
  have hx := F.1
  have hb := F.2.1
  have hbA : ¬ kAs s b := Nat.not_le.mpr hbl
  have hA : ∀ q : Nat, s.heap.size ≤ q → kAs s q := fun _ h => h
  have hU5 : q_U q ≤ 5000 := by omega
  have h721 : q 72 0 = 3 := hL.1
  have h72 : q 72 0 ≤ 12 := by omega
  have h73 : q 73 0 ≤ 12 := hW.1.1.2.1
  have hro : q 42 0 ≤ 504 := q_room hW.1.1 hW.1.2.2.2.1 hW.1.2.2.2.2.1
  have hroom : q 42 0 < 516 := by omega
  have h57 : q 57 0 ≤ 20 := hW.1.2.2.2.2.1.1
  have h56 : q 56 0 ≤ 1439 := hL.2.2.2.2.2.1
  have h25 : ∀ i, i < q 73 0 → q 25 i < 2 ^ 31 := fun i hi => by have := (hW.1.2.2.1 i hi).2.2.2; omega
  obtain ⟨⟨oa, la⟩, ⟨orr, lr⟩, ⟨obb, lb⟩, ⟨oi, li⟩, hne, hra, hrb, hri⟩ := id hO9
  rcases (Nat.lt_or_ge a 3) with hin | hin
  · have w3a := hW.2.1 a (by omega)
    have u13 := q_U13 (q := q) hin
    refine lv_iload hx hb dL_law_1037 (lv_at hl 3 rfl) ?_
    refine lv_iconst (v := 2) hx hb dL_law_1039 (by decide) ?_
    refine lv_irem hx hb dL_law_1040 (by decide) ?_
    refine lv_topi (fun x1 ex1 => ?_)
    have nx1 : x1.toInt = ((m9 % 2 : Nat) : Int) := kt_rem ex1 hmm (by decide : (2 : Int32).toInt = ((2 : Nat) : Int)) (by omega) (by omega) (by omega)
    refine lv_istore (lv' := [(19, .int x1), (18, .int 0), (17, .int 0), (16, .int od), (15, .int mm), (14, .int aa), (13, .int kd), (11, .long bf), (10, .int nx), (9, .int kx), (8, .int 1), (7, .int on), (6, .int un), (5, .ref ri), (4, .ref rb), (3, .ref rr), (2, .ref ra), (1, .ref (z 0)), (0, .ref b)]) hx hb dL_law_1041 hl (by decide) rfl (fun ls hl => ?_)
    refine lv_aload_n hx hb dL_law_1043 rfl (lv_at hl 17 rfl) ?_
    refine lv_iload hx hb dL_law_1044 (lv_at hl 5 rfl) ?_
    refine kcallhI (kSthW (n := 2) (As := [.ref (z 0), .int aa]) (rest := []) F hE hNc hK hP hD hS hA (kh_reserve l g e0 S _ (z 0) aa _ _ hI.ob0 (c_X5_reserve_x l hl0 g e0 z S _ hI av lv q hR h72 aa) (fun E h => h.1)) kw_220 kw_221 kw_61 kw_222 (by decide +kernel) ⟨Nat.le_of_ble_eq_true rfl, Nat.le_of_ble_eq_true rfl⟩ rfl hl.1 rfl (Nat.le_of_ble_eq_true rfl) dL_law_1046 ⟨(by show k0 + 1 ≤ 1072639; omega), (by show n0 + 6 ≤ 5883708; omega)⟩) rfl hD hS hA (fun r2 T1 H locs hp hP hq1x hq2x hq3x hf1 hS => ?_)
    clear hq1x hq2x hq3x
    have hO := kO_keep hO hdis hf1
    obtain ⟨hT, nr2⟩ := kp_A (i := a) hp haa (by omega) (by omega) (by omega)
    subst hT
    clear hp
    refine lv_istore (lv' := [(20, .int r2), (19, .int x1), (18, .int 0), (17, .int 0), (16, .int od), (15, .int mm), (14, .int aa), (13, .int kd), (11, .long bf), (10, .int nx), (9, .int kx), (8, .int 1), (7, .int on), (6, .int un), (5, .ref ri), (4, .ref rb), (3, .ref rr), (2, .ref ra), (1, .ref (z 0)), (0, .ref b)]) hx hb dL_law_1049 hl (by decide) rfl (fun ls hl => ?_)
    refine lv_aload_n hx hb dL_law_1051 rfl (lv_at hl 18 rfl) ?_
    refine lv_iload hx hb dL_law_1052 (lv_at hl 1 rfl) ?_
    refine lv_iload hx hb dL_law_1054 (lv_at hl 6 rfl) ?_
    refine kcallhI (kSthW (n := 3) (As := [.ref (z 0), .int x1, .int aa]) (rest := []) F hE hNc hK hP hD hS hA (kh_send l g e0 S _ (z 0) x1 aa _ _ hI.ob0 (c_X5_send_x l hl0 g e0 z S _ hI av lv q hR hW (fun a9 h9 => by have := q_U13 (q := q) (a := a9) (by omega); omega) (fun b9 h9 => by have := hL.2.2.2.1 b9 h9; omega) x1 aa) (fun E h => h)) kw_450 kw_451 kw_61 kw_452 (by decide +kernel) ⟨Nat.le_of_ble_eq_true rfl, Nat.le_of_ble_eq_true rfl⟩ rfl hl.1 rfl (Nat.le_of_ble_eq_true rfl) dL_law_1056 ⟨(by show k0 + 1 + 3 ≤ 1072639; omega), (by show n0 + 6 + 18 ≤ 5883708; omega)⟩) rfl hD hS hA (fun r3 S1 H locs hp hP hDs hD1 hq3x hf1 hS => ?_)
    clear hq3x
    have hO9x := kO_keep hO hdis hf1
    have hdis9 := kdis_keep hO hdis hDs
    rcases hp with hp | hp
    · have hO := hO9x
      have hdis := hdis9
      have hD := hD1
      obtain ⟨hI1, j2, i2, mi, ld, hj2, ej2, hi2, ei2, b1, b2, b3, b4, b5, h30, hR1, er⟩ := hp
      obtain rfl : a = i2 := nI_inj (by omega) (by omega) ((kt_of haa (by omega)).symm.trans ei2)
      obtain rfl : j2 = m9 % 2 := nI_inj (by omega) (by omega) (ej2.symm.trans (kt_of nx1 (by omega)))
      have w7j := q_310 (r := (m9 % 2)) hW hj2 h30
      have h10a := hW.1.1.2.2.2 a hi2
      have w3a := hW.2.1 a hi2
      obtain ⟨q1, hq1⟩ : ∃ q9 : qS, q9 = q_send (m9 % 2) a mi ld q := ⟨_, rfl⟩
      rw [← hq1] at hR1
      have hW1 : q_W q1 := by rw [hq1]; exact q_send_W hW hi2 (by omega) b3 b4
      have hL1 : q_L q1 := by rw [hq1]; exact q_send_L hL b2
      have hU1 : q_U q1 = q_U q := by rw [hq1]; exact q_send_U hj2 hin (by omega) b5
      have hO9 := q_O_of (q' := q1) hO9 (fun k hk i => by rw [hq1]; exact q_send_o (q_mem (P := fun k => k ∉ [13, 30, 31, 32]) hk (by decide)))
      have f73 : q1 73 0 = q 73 0 := by rw [hq1]; exact q_send_o (by decide)
      obtain ⟨f31, f30, f32, f13, -, -⟩ := q_send_f (q := q) (r := (m9 % 2)) (a := a) (mi := mi) (ld := ld)
      rw [← hq1] at f31 f30 f32 f13
      have f72 : q1 72 0 = q 72 0 := by rw [hq1]; exact q_send_o (by decide)
      have f10 : q1 10 a = q 10 a := by rw [hq1]; exact q_send_o (by decide)
      have nr3 : r3.toInt = ((mi : Nat) : Int) := kt_nI er (by omega)
      have hI := hI1
      have hR := hR1
      have hW := hW1
      have hL := hL1
      clear hro hroom h57 h56
      have h721 : q1 72 0 = 3 := hL.1
      have h72 : q1 72 0 ≤ 12 := by omega
      have h73 : q1 73 0 ≤ 12 := hW.1.1.2.1
      have hro : q1 42 0 ≤ 504 := q_room hW.1.1 hW.1.2.2.2.1 hW.1.2.2.2.2.1
      have hroom : q1 42 0 < 516 := by omega
      have h57 : q1 57 0 ≤ 20 := hW.1.2.2.2.2.1.1
      have h56 : q1 56 0 ≤ 1439 := hL.2.2.2.2.2.1
      have h25 : ∀ i, i < q1 73 0 → q1 25 i < 2 ^ 31 := fun i hi => by have := (hW.1.2.2.1 i hi).2.2.2; omega
      have hU5 : q_U q1 ≤ 5000 := by omega
      obtain ⟨⟨oa, la⟩, ⟨orr, lr⟩, ⟨obb, lb⟩, ⟨oi, li⟩, hne, hra, hrb, hri⟩ := id hO9
      refine lv_istore (lv' := [(17, .int r3), (20, .int r2), (19, .int x1), (18, .int 0), (16, .int od), (15, .int mm), (14, .int aa), (13, .int kd), (11, .long bf), (10, .int nx), (9, .int kx), (8, .int 1), (7, .int on), (6, .int un), (5, .ref ri), (4, .ref rb), (3, .ref rr), (2, .ref ra), (1, .ref (z 0)), (0, .ref b)]) hx hb dL_law_1059 hl (by decide) rfl (fun ls hl => ?_)
      refine lv_iload hx hb dL_law_1061 (lv_at hl 0 rfl) ?_
      refine lv_if_ge (tgt := 1070) hx hb dL_law_1063 (by decide) (fun c4 => ?_) (fun c4 => ?_)
      · have d4 : (0) ≤ r3.toInt := (kc_le (by decide : (0 : Int32).toInt = 0) (rfl : r3.toInt = r3.toInt)).mp c4
        refine lv_iconst (v := 0) hx hb dL_law_1070 (by decide) ?_
        refine lv_istore (lv' := [(18, .int 0), (17, .int r3), (20, .int r2), (19, .int x1), (16, .int od), (15, .int mm), (14, .int aa), (13, .int kd), (11, .long bf), (10, .int nx), (9, .int kx), (8, .int 1), (7, .int on), (6, .int un), (5, .ref ri), (4, .ref rb), (3, .ref rr), (2, .ref ra), (1, .ref (z 0)), (0, .ref b)]) hx hb dL_law_1071 hl (by decide) rfl (fun ls hl => ?_)
        refine lv_iload hx hb dL_law_1073 (lv_at hl 1 rfl) ?_
        refine lv_if_lt (tgt := 1146) hx hb dL_law_1075 (by decide) (fun c5 => ?_) (fun c5 => ?_)
        · have d5 : r3.toInt < (0) := (kc_lt (rfl : r3.toInt = r3.toInt) (by decide : (0 : Int32).toInt = 0)).mp c5
          exfalso; omega
        · have d5 : ¬ (r3.toInt < (0)) := mt (kc_lt (rfl : r3.toInt = r3.toInt) (by decide : (0 : Int32).toInt = 0)).mpr c5
          refine lv_aload_n hx hb dL_law_1078 rfl (lv_at hl 18 rfl) ?_
          refine lv_iload hx hb dL_law_1079 (lv_at hl 3 rfl) ?_
          refine kcallhI (kSthW (n := 2) (As := [.ref (z 0), .int x1]) (rest := []) F hE hNc hK hP hD hS hA (kh_carried l g e0 S1 _ (z 0) x1 _ _ hI.ob0 (c_X5_carried l hl0 g e0 z S1 _ hI x1) (fun E h => h.1)) kw_236 kw_237 kw_61 kw_238 (by decide +kernel) ⟨Nat.le_of_ble_eq_true rfl, Nat.le_of_ble_eq_true rfl⟩ rfl hl.1 rfl (Nat.le_of_ble_eq_true rfl) dL_law_1081 ⟨(by show k0 + 1 + 3 + 1 ≤ 1072639; omega), (by show n0 + 6 + 18 + 6 ≤ 5883708; omega)⟩) rfl hD hS hA (fun r6 T1 H locs hp hP hq1x hq2x hq3x hf1 hS => ?_)
          clear hq1x hq2x hq3x
          have hO := kO_keep hO hdis hf1
          obtain ⟨hT, nr6⟩ := kp_R (i := m9 % 2) (f := fun j => q1 31 j) hp nx1 (by omega) (fun j hj => (hR.2.2.2.2.2.1 j hj).2 31 (by decide)) (show q1 31 (m9 % 2) < 2 ^ 31 by omega)
          subst hT
          clear hp
          refine lv_iload hx hb dL_law_1084 (lv_at hl 2 rfl) ?_
          refine lv_aload_n hx hb dL_law_1086 rfl (lv_at hl 18 rfl) ?_
          refine lv_iload hx hb dL_law_1087 (lv_at hl 6 rfl) ?_
          refine kcallhI (kSthW (n := 2) (As := [.ref (z 0), .int aa]) (rest := [.int r2, .int r6]) F hE hNc hK hP hD hS hA (kh_reserve l g e0 S1 _ (z 0) aa _ _ hI.ob0 (c_X5_reserve_x l hl0 g e0 z S1 _ hI av lv q1 hR h72 aa) (fun E h => h.1)) kw_220 kw_221 kw_61 kw_222 (by decide +kernel) ⟨Nat.le_of_ble_eq_true rfl, Nat.le_of_ble_eq_true rfl⟩ rfl hl.1 rfl (Nat.le_of_ble_eq_true rfl) dL_law_1089 ⟨(by show k0 + 1 + 3 + 1 + 1 ≤ 1072639; omega), (by show n0 + 6 + 18 + 6 + 6 ≤ 5883708; omega)⟩) rfl hD hS hA (fun r7 T1 H locs hp hP hq1x hq2x hq3x hf1 hS => ?_)
          clear hq1x hq2x hq3x
          have hO := kO_keep hO hdis hf1
          obtain ⟨hT, nr7⟩ := kp_A (i := a) hp haa (by omega) (by omega) (by omega)
          subst hT
          clear hp
          refine lv_isub hx hb dL_law_1092 ?_
          refine lv_topi (fun x8 ex8 => ?_)
          have tx8 : x8.toInt = r2.toInt - r7.toInt := kt_sub ex8 (rfl : r2.toInt = r2.toInt) (rfl : r7.toInt = r7.toInt) (by omega) (by omega)
          refine lv_icmp_ne (tgt := 1150) hx hb dL_law_1093 (by decide) (fun c9 => ?_) (fun c9 => ?_)
          · have d9 : r6.toInt ≠ x8.toInt := mt (kc_eq (rfl : r6.toInt = r6.toInt) (rfl : x8.toInt = x8.toInt)).mpr c9
            exfalso; omega
          · have d9 : r6.toInt = x8.toInt := (kc_eq (rfl : r6.toInt = r6.toInt) (rfl : x8.toInt = x8.toInt)).mp c9
            refine lv_aload_n hx hb dL_law_1096 rfl (lv_at hl 18 rfl) ?_
            refine lv_iload hx hb dL_law_1097 (lv_at hl 3 rfl) ?_
            refine kcallhI (kSthW (n := 2) (As := [.ref (z 0), .int x1]) (rest := []) F hE hNc hK hP hD hS hA (kh_carried l g e0 S1 _ (z 0) x1 _ _ hI.ob0 (c_X5_carried l hl0 g e0 z S1 _ hI x1) (fun E h => h.1)) kw_236 kw_237 kw_61 kw_238 (by decide +kernel) ⟨Nat.le_of_ble_eq_true rfl, Nat.le_of_ble_eq_true rfl⟩ rfl hl.1 rfl (Nat.le_of_ble_eq_true rfl) dL_law_1099 ⟨(by show k0 + 1 + 3 + 1 + 1 + 1 ≤ 1072639; omega), (by show n0 + 6 + 18 + 6 + 6 + 6 ≤ 5883708; omega)⟩) rfl hD hS hA (fun r10 T1 H locs hp hP hq1x hq2x hq3x hf1 hS => ?_)
            clear hq1x hq2x hq3x
            have hO := kO_keep hO hdis hf1
            obtain ⟨hT, nr10⟩ := kp_R (i := m9 % 2) (f := fun j => q1 31 j) hp nx1 (by omega) (fun j hj => (hR.2.2.2.2.2.1 j hj).2 31 (by decide)) (show q1 31 (m9 % 2) < 2 ^ 31 by omega)
            subst hT
            clear hp
            refine lv_if_le (tgt := 1150) hx hb dL_law_1102 (by decide) (fun c11 => ?_) (fun c11 => ?_)
            · have d11 : r10.toInt ≤ (0) := (kc_le (rfl : r10.toInt = r10.toInt) (by decide : (0 : Int32).toInt = 0)).mp c11
              exfalso; omega
            · have d11 : ¬ (r10.toInt ≤ (0)) := mt (kc_le (rfl : r10.toInt = r10.toInt) (by decide : (0 : Int32).toInt = 0)).mpr c11
              refine lv_aload_n hx hb dL_law_1105 rfl (lv_at hl 18 rfl) ?_
              refine lv_iload hx hb dL_law_1106 (lv_at hl 3 rfl) ?_
              refine kcallhI (kSthW (n := 2) (As := [.ref (z 0), .int x1]) (rest := []) F hE hNc hK hP hD hS hA (kh_carried l g e0 S1 _ (z 0) x1 _ _ hI.ob0 (c_X5_carried l hl0 g e0 z S1 _ hI x1) (fun E h => h.1)) kw_236 kw_237 kw_61 kw_238 (by decide +kernel) ⟨Nat.le_of_ble_eq_true rfl, Nat.le_of_ble_eq_true rfl⟩ rfl hl.1 rfl (Nat.le_of_ble_eq_true rfl) dL_law_1108 ⟨(by show k0 + 1 + 3 + 1 + 1 + 1 + 1 ≤ 1072639; omega), (by show n0 + 6 + 18 + 6 + 6 + 6 + 6 ≤ 5883708; omega)⟩) rfl hD hS hA (fun r12 T1 H locs hp hP hq1x hq2x hq3x hf1 hS => ?_)
              clear hq1x hq2x hq3x
              have hO := kO_keep hO hdis hf1
              obtain ⟨hT, nr12⟩ := kp_R (i := m9 % 2) (f := fun j => q1 31 j) hp nx1 (by omega) (fun j hj => (hR.2.2.2.2.2.1 j hj).2 31 (by decide)) (show q1 31 (m9 % 2) < 2 ^ 31 by omega)
              subst hT
              clear hp
              refine lv_bipush (v := 10) hx hb dL_law_1111 (by decide) ?_
              refine lv_icmp_gt (tgt := 1150) hx hb dL_law_1113 (by decide) (fun c13 => ?_) (fun c13 => ?_)
              · have d13 : (10) < r12.toInt := (kc_lt (by decide : (10 : Int32).toInt = 10) (rfl : r12.toInt = r12.toInt)).mp c13
                exfalso; omega
              · have d13 : ¬ ((10) < r12.toInt) := mt (kc_lt (by decide : (10 : Int32).toInt = 10) (rfl : r12.toInt = r12.toInt)).mpr c13
                refine lv_aload_n hx hb dL_law_1116 rfl (lv_at hl 18 rfl) ?_
                refine lv_iload hx hb dL_law_1117 (lv_at hl 3 rfl) ?_
                refine kcallhI (kSthW (n := 2) (As := [.ref (z 0), .int x1]) (rest := []) F hE hNc hK hP hD hS hA (kh_minutesOf l g e0 S1 _ (z 0) x1 _ _ hI.ob0 (c_X5_minutesOf l hl0 g e0 z S1 _ hI x1) (fun E h => h.1)) kw_248 kw_249 kw_61 kw_250 (by decide +kernel) ⟨Nat.le_of_ble_eq_true rfl, Nat.le_of_ble_eq_true rfl⟩ rfl hl.1 rfl (Nat.le_of_ble_eq_true rfl) dL_law_1119 ⟨(by show k0 + 1 + 3 + 1 + 1 + 1 + 1 + 1 ≤ 1072639; omega), (by show n0 + 6 + 18 + 6 + 6 + 6 + 6 + 6 ≤ 5883708; omega)⟩) rfl hD hS hA (fun r14 T1 H locs hp hP hq1x hq2x hq3x hf1 hS => ?_)
                clear hq1x hq2x hq3x
                have hO := kO_keep hO hdis hf1
                obtain ⟨hT, nr14⟩ := kp_R (i := m9 % 2) (f := fun j => q1 32 j) hp nx1 (by omega) (fun j hj => (hR.2.2.2.2.2.1 j hj).2 32 (by decide)) (show q1 32 (m9 % 2) < 2 ^ 31 by omega)
                subst hT
                clear hp
                refine lv_iload hx hb dL_law_1122 (lv_at hl 1 rfl) ?_
                refine lv_icmp_ne (tgt := 1150) hx hb dL_law_1124 (by decide) (fun c15 => ?_) (fun c15 => ?_)
                · have d15 : r14.toInt ≠ r3.toInt := mt (kc_eq (rfl : r14.toInt = r14.toInt) (rfl : r3.toInt = r3.toInt)).mpr c15
                  exfalso; omega
                · have d15 : r14.toInt = r3.toInt := (kc_eq (rfl : r14.toInt = r14.toInt) (rfl : r3.toInt = r3.toInt)).mp c15
                  refine lv_aload_n hx hb dL_law_1127 rfl (lv_at hl 18 rfl) ?_
                  refine lv_iload hx hb dL_law_1128 (lv_at hl 3 rfl) ?_
                  refine kcallhI (kSthW (n := 2) (As := [.ref (z 0), .int x1]) (rest := []) F hE hNc hK hP hD hS hA (kh_aisleOf l g e0 S1 _ (z 0) x1 _ _ hI.ob0 (c_X5_aisleOf_x l hl0 g e0 z S1 _ hI av lv q1 hR hW.1 x1) (fun E h => h.imp And.left And.left)) kw_467 kw_468 kw_61 kw_469 (by decide +kernel) ⟨Nat.le_of_ble_eq_true rfl, Nat.le_of_ble_eq_true rfl⟩ rfl hl.1 rfl (Nat.le_of_ble_eq_true rfl) dL_law_1130 ⟨(by show k0 + 1 + 3 + 1 + 1 + 1 + 1 + 1 + 2 ≤ 1072639; omega), (by show n0 + 6 + 18 + 6 + 6 + 6 + 6 + 6 + 12 ≤ 5883708; omega)⟩) rfl hD hS hA (fun r16 T1 H locs hp hP hq1x hq2x hq3x hf1 hS => ?_)
                  clear hq1x hq2x hq3x
                  have hO := kO_keep hO hdis hf1
                  obtain ⟨hT, ar16, br16⟩ := kp_I (i := m9 % 2) (k := fun j => q1 30 j) (f := fun j => q1 0 (q1 10 (q1 30 j - 1))) hp nx1 (by omega) (fun h9 => (by have h9 : q1 30 (m9 % 2) ≠ 0 := h9; show q1 0 (q1 10 (q1 30 (m9 % 2) - 1)) < 2 ^ 31; have h8 := hW.1.1.2.2.2 (q1 30 (m9 % 2) - 1) (by omega); rw [hL.2.1 _ h8]; omega))
                  subst hT
                  clear hp
                  have e30 : q1 30 (m9 % 2) - 1 = a := by omega
                  have br169 : r16.toInt = ((q1 10 a : Nat) : Int) := by have h9 := br16 (by omega); rw [e30, hL.2.1 _ (hW.1.1.2.2.2 a (by omega))] at h9; exact h9
                  refine lv_aload_n hx hb dL_law_1133 rfl (lv_at hl 17 rfl) ?_
                  refine lv_iload hx hb dL_law_1134 (lv_at hl 6 rfl) ?_
                  refine rd_I F hK hO oa (by rw [la]; exact kt_in haa (by omega) (by decide)) dL_law_1136 ?_
                  refine lv_topi (fun x17 ex17 => ?_)
                  have nx17 : x17.toInt = ((q1 10 a : Nat) : Int) := kt_nI (by rw [ex17, kt_clamp haa (by omega)]; exact (hra a (by omega)).1) (by omega)
                  refine lv_icmp_ne (tgt := 1150) hx hb dL_law_1137 (by decide) (fun c18 => ?_) (fun c18 => ?_)
                  · have d18 : r16.toInt ≠ x17.toInt := mt (kc_eq (rfl : r16.toInt = r16.toInt) (rfl : x17.toInt = x17.toInt)).mpr c18
                    exfalso; omega
                  · have d18 : r16.toInt = x17.toInt := (kc_eq (rfl : r16.toInt = r16.toInt) (rfl : x17.toInt = x17.toInt)).mp c18
                    refine lv_iload hx hb dL_law_1140 (lv_at hl 1 rfl) ?_
                    refine lv_iconst (v := 3) hx hb dL_law_1142 (by decide) ?_
                    refine lv_icmp_lt (tgt := 1150) hx hb dL_law_1143 (by decide) (fun c19 => ?_) (fun c19 => ?_)
                    · have d19 : r3.toInt < (3) := (kc_lt (rfl : r3.toInt = r3.toInt) (by decide : (3 : Int32).toInt = 3)).mp c19
                      exfalso; omega
                    · have d19 : ¬ (r3.toInt < (3)) := mt (kc_lt (rfl : r3.toInt = r3.toInt) (by decide : (3 : Int32).toInt = 3)).mpr c19
                      refine lv_iconst (v := 1) hx hb dL_law_1146 (by decide) ?_
                      refine lv_goto (tgt := 1151) hx hb dL_law_1147 (by decide) ?_
                      refine lv_istore (lv' := [(8, .int 1), (18, .int 0), (17, .int r3), (20, .int r2), (19, .int x1), (16, .int od), (15, .int mm), (14, .int aa), (13, .int kd), (11, .long bf), (10, .int nx), (9, .int kx), (7, .int on), (6, .int un), (5, .ref ri), (4, .ref rb), (3, .ref rr), (2, .ref ra), (1, .ref (z 0)), (0, .ref b)]) hx hb dL_law_1151 hl (by decide) rfl (fun ls hl => ?_)
                      refine lv_goto (tgt := 1227) hx hb dL_law_1153 (by decide) ?_
                      exact kk S1 O av lv q1 _ _ ls _ _ 0 on un ⟨⟨F, hK, hE, hNc, hX, hbl⟩, ⟨hP, hO⟩, ⟨hD, hDO⟩, hdis, hS, ⟨hI, hR, hW, hL⟩, hO9⟩ (by omega) (Or.inl rfl) (by omega) (by omega) (by omega) (by omega) (lv_sub hl [1, 9, 10, 11, 0, 12, 13, 14, 15, 16, 17, 18, 19] rfl)
      · have d4 : ¬ ((0) ≤ r3.toInt) := mt (kc_le (by decide : (0 : Int32).toInt = 0) (rfl : r3.toInt = r3.toInt)).mpr c4
        exfalso; omega
    · have hO := hO9x
      obtain ⟨hT, hrx⟩ : S = S1 ∧ r3.toInt ≤ -75 := by rcases hp with ⟨e, -, h⟩ | ⟨e, -, h⟩ | ⟨e, -, h⟩ | ⟨e, -, h⟩ <;> exact ⟨h.symm, by rw [e]; decide⟩
      subst hT
      clear hp
      refine lv_istore (lv' := [(17, .int r3), (20, .int r2), (19, .int x1), (18, .int 0), (16, .int od), (15, .int mm), (14, .int aa), (13, .int kd), (11, .long bf), (10, .int nx), (9, .int kx), (8, .int 1), (7, .int on), (6, .int un), (5, .ref ri), (4, .ref rb), (3, .ref rr), (2, .ref ra), (1, .ref (z 0)), (0, .ref b)]) hx hb dL_law_1059 hl (by decide) rfl (fun ls hl => ?_)
      refine lv_iload hx hb dL_law_1061 (lv_at hl 0 rfl) ?_
      refine lv_if_ge (tgt := 1070) hx hb dL_law_1063 (by decide) (fun c20 => ?_) (fun c20 => ?_)
      · have d20 : (0) ≤ r3.toInt := (kc_le (by decide : (0 : Int32).toInt = 0) (rfl : r3.toInt = r3.toInt)).mp c20
        exfalso; omega
      · have d20 : ¬ ((0) ≤ r3.toInt) := mt (kc_le (by decide : (0 : Int32).toInt = 0) (rfl : r3.toInt = r3.toInt)).mpr c20
        refine lv_iconst (v := 1) hx hb dL_law_1066 (by decide) ?_
        refine lv_goto (tgt := 1071) hx hb dL_law_1067 (by decide) ?_
        refine lv_istore (lv' := [(18, .int 1), (17, .int r3), (20, .int r2), (19, .int x1), (16, .int od), (15, .int mm), (14, .int aa), (13, .int kd), (11, .long bf), (10, .int nx), (9, .int kx), (8, .int 1), (7, .int on), (6, .int un), (5, .ref ri), (4, .ref rb), (3, .ref rr), (2, .ref ra), (1, .ref (z 0)), (0, .ref b)]) hx hb dL_law_1071 hl (by decide) rfl (fun ls hl => ?_)
        refine lv_iload hx hb dL_law_1073 (lv_at hl 1 rfl) ?_
        refine lv_if_lt (tgt := 1146) hx hb dL_law_1075 (by decide) (fun c21 => ?_) (fun c21 => ?_)
        · have d21 : r3.toInt < (0) := (kc_lt (rfl : r3.toInt = r3.toInt) (by decide : (0 : Int32).toInt = 0)).mp c21
          refine lv_iconst (v := 1) hx hb dL_law_1146 (by decide) ?_
          refine lv_goto (tgt := 1151) hx hb dL_law_1147 (by decide) ?_
          refine lv_istore (lv' := [(8, .int 1), (18, .int 1), (17, .int r3), (20, .int r2), (19, .int x1), (16, .int od), (15, .int mm), (14, .int aa), (13, .int kd), (11, .long bf), (10, .int nx), (9, .int kx), (7, .int on), (6, .int un), (5, .ref ri), (4, .ref rb), (3, .ref rr), (2, .ref ra), (1, .ref (z 0)), (0, .ref b)]) hx hb dL_law_1151 hl (by decide) rfl (fun ls hl => ?_)
          refine lv_goto (tgt := 1227) hx hb dL_law_1153 (by decide) ?_
          exact kk S O av lv q _ _ ls _ _ 1 on un ⟨⟨F, hK, hE, hNc, hX, hbl⟩, ⟨hP, hO⟩, ⟨hD, hDO⟩, hdis, hS, ⟨hI, hR, hW, hL⟩, hO9⟩ (by omega) (Or.inr ⟨rfl, rfl⟩) (by omega) (by omega) (by omega) (by omega) (lv_sub hl [1, 9, 10, 11, 0, 12, 13, 14, 15, 16, 17, 18, 19] rfl)
        · have d21 : ¬ (r3.toInt < (0)) := mt (kc_lt (rfl : r3.toInt = r3.toInt) (by decide : (0 : Int32).toInt = 0)).mpr c21
          exfalso; omega
  · refine lv_iload hx hb dL_law_1037 (lv_at hl 3 rfl) ?_
    refine lv_iconst (v := 2) hx hb dL_law_1039 (by decide) ?_
    refine lv_irem hx hb dL_law_1040 (by decide) ?_
    refine lv_topi (fun x22 ex22 => ?_)
    have nx22 : x22.toInt = ((m9 % 2 : Nat) : Int) := kt_rem ex22 hmm (by decide : (2 : Int32).toInt = ((2 : Nat) : Int)) (by omega) (by omega) (by omega)
    refine lv_istore (lv' := [(19, .int x22), (18, .int 0), (17, .int 0), (16, .int od), (15, .int mm), (14, .int aa), (13, .int kd), (11, .long bf), (10, .int nx), (9, .int kx), (8, .int 1), (7, .int on), (6, .int un), (5, .ref ri), (4, .ref rb), (3, .ref rr), (2, .ref ra), (1, .ref (z 0)), (0, .ref b)]) hx hb dL_law_1041 hl (by decide) rfl (fun ls hl => ?_)
    refine lv_aload_n hx hb dL_law_1043 rfl (lv_at hl 17 rfl) ?_
    refine lv_iload hx hb dL_law_1044 (lv_at hl 5 rfl) ?_
    refine kcallhI (kSthW (n := 2) (As := [.ref (z 0), .int aa]) (rest := []) F hE hNc hK hP hD hS hA (kh_reserve l g e0 S _ (z 0) aa _ _ hI.ob0 (c_X5_reserve_x l hl0 g e0 z S _ hI av lv q hR h72 aa) (fun E h => h.1)) kw_220 kw_221 kw_61 kw_222 (by decide +kernel) ⟨Nat.le_of_ble_eq_true rfl, Nat.le_of_ble_eq_true rfl⟩ rfl hl.1 rfl (Nat.le_of_ble_eq_true rfl) dL_law_1046 ⟨(by show k0 + 1 ≤ 1072639; omega), (by show n0 + 6 ≤ 5883708; omega)⟩) rfl hD hS hA (fun r23 T1 H locs hp hP hq1x hq2x hq3x hf1 hS => ?_)
    clear hq1x hq2x hq3x
    have hO := kO_keep hO hdis hf1
    obtain ⟨hT, nr23⟩ := kp_Ao (i := a) hp haa (by omega) (by omega)
    subst hT
    clear hp
    refine lv_istore (lv' := [(20, .int r23), (19, .int x22), (18, .int 0), (17, .int 0), (16, .int od), (15, .int mm), (14, .int aa), (13, .int kd), (11, .long bf), (10, .int nx), (9, .int kx), (8, .int 1), (7, .int on), (6, .int un), (5, .ref ri), (4, .ref rb), (3, .ref rr), (2, .ref ra), (1, .ref (z 0)), (0, .ref b)]) hx hb dL_law_1049 hl (by decide) rfl (fun ls hl => ?_)
    refine lv_aload_n hx hb dL_law_1051 rfl (lv_at hl 18 rfl) ?_
    refine lv_iload hx hb dL_law_1052 (lv_at hl 1 rfl) ?_
    refine lv_iload hx hb dL_law_1054 (lv_at hl 6 rfl) ?_
    refine kcallhI (kSthW (n := 3) (As := [.ref (z 0), .int x22, .int aa]) (rest := []) F hE hNc hK hP hD hS hA (kh_send l g e0 S _ (z 0) x22 aa _ _ hI.ob0 (c_X5_send_x l hl0 g e0 z S _ hI av lv q hR hW (fun a9 h9 => by have := q_U13 (q := q) (a := a9) (by omega); omega) (fun b9 h9 => by have := hL.2.2.2.1 b9 h9; omega) x22 aa) (fun E h => h)) kw_450 kw_451 kw_61 kw_452 (by decide +kernel) ⟨Nat.le_of_ble_eq_true rfl, Nat.le_of_ble_eq_true rfl⟩ rfl hl.1 rfl (Nat.le_of_ble_eq_true rfl) dL_law_1056 ⟨(by show k0 + 1 + 3 ≤ 1072639; omega), (by show n0 + 6 + 18 ≤ 5883708; omega)⟩) rfl hD hS hA (fun r24 S1 H locs hp hP hDs hD1 hq3x hf1 hS => ?_)
    clear hq3x
    have hO9x := kO_keep hO hdis hf1
    have hdis9 := kdis_keep hO hdis hDs
    rcases hp with hp | hp
    · have hO := hO9x
      have hdis := hdis9
      have hD := hD1
      obtain ⟨hI1, j2, i2, mi, ld, hj2, ej2, hi2, ei2, b1, b2, b3, b4, b5, h30, hR1, er⟩ := hp
      obtain rfl : a = i2 := nI_inj (by omega) (by omega) ((kt_of haa (by omega)).symm.trans ei2)
      obtain rfl : j2 = m9 % 2 := nI_inj (by omega) (by omega) (ej2.symm.trans (kt_of nx22 (by omega)))
      exfalso; omega
    · have hO := hO9x
      obtain ⟨hT, hrx⟩ : S = S1 ∧ r24.toInt ≤ -75 := by rcases hp with ⟨e, -, h⟩ | ⟨e, -, h⟩ | ⟨e, -, h⟩ | ⟨e, -, h⟩ <;> exact ⟨h.symm, by rw [e]; decide⟩
      subst hT
      clear hp
      refine lv_istore (lv' := [(17, .int r24), (20, .int r23), (19, .int x22), (18, .int 0), (16, .int od), (15, .int mm), (14, .int aa), (13, .int kd), (11, .long bf), (10, .int nx), (9, .int kx), (8, .int 1), (7, .int on), (6, .int un), (5, .ref ri), (4, .ref rb), (3, .ref rr), (2, .ref ra), (1, .ref (z 0)), (0, .ref b)]) hx hb dL_law_1059 hl (by decide) rfl (fun ls hl => ?_)
      refine lv_iload hx hb dL_law_1061 (lv_at hl 0 rfl) ?_
      refine lv_if_ge (tgt := 1070) hx hb dL_law_1063 (by decide) (fun c25 => ?_) (fun c25 => ?_)
      · have d25 : (0) ≤ r24.toInt := (kc_le (by decide : (0 : Int32).toInt = 0) (rfl : r24.toInt = r24.toInt)).mp c25
        exfalso; omega
      · have d25 : ¬ ((0) ≤ r24.toInt) := mt (kc_le (by decide : (0 : Int32).toInt = 0) (rfl : r24.toInt = r24.toInt)).mpr c25
        refine lv_iconst (v := 1) hx hb dL_law_1066 (by decide) ?_
        refine lv_goto (tgt := 1071) hx hb dL_law_1067 (by decide) ?_
        refine lv_istore (lv' := [(18, .int 1), (17, .int r24), (20, .int r23), (19, .int x22), (16, .int od), (15, .int mm), (14, .int aa), (13, .int kd), (11, .long bf), (10, .int nx), (9, .int kx), (8, .int 1), (7, .int on), (6, .int un), (5, .ref ri), (4, .ref rb), (3, .ref rr), (2, .ref ra), (1, .ref (z 0)), (0, .ref b)]) hx hb dL_law_1071 hl (by decide) rfl (fun ls hl => ?_)
        refine lv_iload hx hb dL_law_1073 (lv_at hl 1 rfl) ?_
        refine lv_if_lt (tgt := 1146) hx hb dL_law_1075 (by decide) (fun c26 => ?_) (fun c26 => ?_)
        · have d26 : r24.toInt < (0) := (kc_lt (rfl : r24.toInt = r24.toInt) (by decide : (0 : Int32).toInt = 0)).mp c26
          refine lv_iconst (v := 1) hx hb dL_law_1146 (by decide) ?_
          refine lv_goto (tgt := 1151) hx hb dL_law_1147 (by decide) ?_
          refine lv_istore (lv' := [(8, .int 1), (18, .int 1), (17, .int r24), (20, .int r23), (19, .int x22), (16, .int od), (15, .int mm), (14, .int aa), (13, .int kd), (11, .long bf), (10, .int nx), (9, .int kx), (7, .int on), (6, .int un), (5, .ref ri), (4, .ref rb), (3, .ref rr), (2, .ref ra), (1, .ref (z 0)), (0, .ref b)]) hx hb dL_law_1151 hl (by decide) rfl (fun ls hl => ?_)
          refine lv_goto (tgt := 1227) hx hb dL_law_1153 (by decide) ?_
          exact kk S O av lv q _ _ ls _ _ 1 on un ⟨⟨F, hK, hE, hNc, hX, hbl⟩, ⟨hP, hO⟩, ⟨hD, hDO⟩, hdis, hS, ⟨hI, hR, hW, hL⟩, hO9⟩ (by omega) (Or.inr ⟨rfl, rfl⟩) (by omega) (by omega) (by omega) (by omega) (lv_sub hl [1, 9, 10, 11, 0, 12, 13, 14, 15, 16, 17, 18, 19] rfl)
        · have d26 : ¬ (r24.toInt < (0)) := mt (kc_lt (rfl : r24.toInt = r24.toInt) (by decide : (0 : Int32).toInt = 0)).mpr c26
          exfalso; omega
