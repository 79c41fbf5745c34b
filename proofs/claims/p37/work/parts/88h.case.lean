set_option maxHeartbeats 8000000 in
set_option maxRecDepth 100000 in
theorem kcs_wave {p : Program} {l : Launch} {e : Env} {s : State} {m : MethodId} {below : List Frame} {meth : Method} {c : Code} {b L : Nat} {xs : Nat → Int32} {g : kG} {e0 : Nat} {z av lv : Nat → Nat} {S O : wPS} {q : qS} {ra rr rb ri : Nat} {H : Heap} {locs : List Loc} {k0 n0 : Nat} {Q : State → Prop} {ls : Array Slot} (hl0 : l.stackTraces = false) (hL9 : L ≤ 260) (C : kLw p s m c b L xs g e0 z av lv S O q ra rr rb ri H locs) (hU : q_U q ≤ 4000) (hk0 : k0 + 3000 ≤ 1072639) (hn0 : n0 + 20000 ≤ 5883708) {kd nx kx mm aa od on un : Int32} {bf : Int64} {a m9 o9 : Nat} (ha : a ≤ 3) (haa : aa.toInt = ((a : Nat) : Int)) (hm9 : m9 < 1000) (hmm : mm.toInt = ((m9 : Nat) : Int)) (ho9 : o9 ≤ q 73 0) (hod : od.toInt = ((o9 : Nat) : Int)) (hon : on.toInt = ((q 73 0 : Nat) : Int)) (hun : un.toInt = ((q_U q : Nat) : Int)) (hl : lv_has ls 23 [(18, .int 0), (17, .int 0), (16, .int od), (15, .int mm), (14, .int aa), (13, .int kd), (11, .long bf), (10, .int nx), (9, .int kx), (8, .int 1), (7, .int on), (6, .int un), (5, .ref ri), (4, .ref rb), (3, .ref rr), (2, .ref ra), (1, .ref (z 0)), (0, .ref b)])
    (kk : ∀ (S1 O1 : wPS) (av1 lv1 : Nat → Nat) (q1 : qS) (H1 : Heap) (locs1 : List Loc) (ls1 : Array Slot) (k1 n1 : Nat) (th on1 un1 : Int32), kLw p s m c b L xs g e0 z av1 lv1 S1 O1 q1 ra rr rb ri H1 locs1 → q_U q1 ≤ q_U q + 14 → (th = 0 ∨ (th = 1 ∧ q_sm q1 = q_sm q)) → on1.toInt = ((q1 73 0 : Nat) : Int) → un1.toInt = ((q_U q1 : Nat) : Int) → k1 ≤ k0 + 3000 → n1 ≤ n0 + 20000 → lv_has ls1 23 [(18, .int th), (11, .long bf), (10, .int nx), (9, .int kx), (8, .int 1), (7, .int on1), (6, .int un1), (5, .ref ri), (4, .ref rb), (3, .ref rr), (2, .ref ra), (1, .ref (z 0)), (0, .ref b)] → W p l e room_1 s m #[Value.ref b] below meth c H1 locs1 k1 n1 Q (F0 m 1227 ls1 [])) :
    W p l e room_1 s m #[Value.ref b] below meth c H locs k0 n0 Q (F0 m 958 ls []) := by
  obtain ⟨⟨F, hK, hE, hNc, hX, hbl⟩, ⟨hP, hO⟩, ⟨hD, hDO⟩, hdis, hS, ⟨hI, hR, hW, hL⟩, hO9⟩ := C
  have hx := F.1
  have hb := F.2.1
  have hbA : ¬ kAs s b := Nat.not_le.mpr hbl
  have hA : ∀ q : Nat, s.heap.size ≤ q → kAs s q := fun _ h => h
  have hU5 : q_U q ≤ 5000 := by omega
  have h721 : q 72 0 = 3 := hL.1
  have h72 : q 72 0 ≤ 12 := by omega
  have h73 : q 73 0 ≤ 12 := hW.1.1.2.1
  have hro : q 42 0 ≤ 504 := q_room hW.1.1 hW.1.2.2.2.1 hW.1.2.2.2.2.1
  have hroom : q 42 0 < 516 := by omega
  have h57 : q 57 0 ≤ 20 := hW.1.2.2.2.2.1.1
  have h56 : q 56 0 ≤ 1439 := hL.2.2.2.2.2.1
  have h25 : ∀ i, i < q 73 0 → q 25 i < 2 ^ 31 := fun i hi => by have := (hW.1.2.2.1 i hi).2.2.2; omega
  obtain ⟨⟨oa, la⟩, ⟨orr, lr⟩, ⟨obb, lb⟩, ⟨oi, li⟩, hne, hra, hrb, hri⟩ := id hO9
  refine lv_aload_n hx hb dL_law_958 rfl (lv_at hl 16 rfl) ?_
  refine kcallWI (kV (n := 0) (As := []) (rest := []) (b := z 0) (C := RX5) F hE hK hP hD hS hA (c_X5_waves l hl0 g e0 z S _ hI) (rr_Pickwave hK hP hI.ob0) kw_173 kw_174 kw_175 kw_2 kw_176 (by decide +kernel) ⟨Nat.le_of_ble_eq_true rfl, Nat.le_of_ble_eq_true rfl⟩ rfl hl.1 rfl (Nat.le_of_ble_eq_true rfl) dL_law_959 ⟨(by show k0 + 0 ≤ 1072639; omega), (by show n0 + 0 ≤ 5883708; omega)⟩) rfl hD hS hA (fun _ _ _ _ _ h => False.elim h) (fun r1 T1 H locs hp hP hq1x hq2x hq3x hf1 hS => ?_)
  clear hq1x hq2x hq3x
  have hO := kO_keep hO hdis hf1
  obtain ⟨hT, er1⟩ := hp
  have hT := hT.symm
  subst hT
  have vr1 : r1 = nI (q 57 0) := er1.trans (hR.2.2.2.2.2.2.1.1 57 (by decide))
  have nr1 : r1.toInt = ((q 57 0 : Nat) : Int) := kt_nI vr1 (by omega)
  refine lv_istore (lv' := [(19, .int r1), (18, .int 0), (17, .int 0), (16, .int od), (15, .int mm), (14, .int aa), (13, .int kd), (11, .long bf), (10, .int nx), (9, .int kx), (8, .int 1), (7, .int on), (6, .int un), (5, .ref ri), (4, .ref rb), (3, .ref rr), (2, .ref ra), (1, .ref (z 0)), (0, .ref b)]) hx hb dL_law_962 hl (by decide) rfl (fun ls hl => ?_)
  refine lv_aload_n hx hb dL_law_964 rfl (lv_at hl 17 rfl) ?_
  refine lv_iload hx hb dL_law_965 (lv_at hl 4 rfl) ?_
  refine lv_iconst (v := 3) hx hb dL_law_967 (by decide) ?_
  refine lv_irem hx hb dL_law_968 (by decide) ?_
  refine lv_topi (fun x2 ex2 => ?_)
  have nx2 : x2.toInt = ((m9 % 3 : Nat) : Int) := kt_rem ex2 hmm (by decide : (3 : Int32).toInt = ((3 : Nat) : Int)) (by omega) (by omega) (by omega)
  refine kcallhI (kSthW (n := 2) (As := [.ref (z 0), .int x2]) (rest := []) F hE hNc hK hP hD hS hA (kh_wave l g e0 S _ (z 0) x2 _ _ hI.ob0 (c_X5_wave_x l hl0 g e0 z S _ hI av lv q hR hW (fun i9 h9 => by have := hL.2.2.1 i9 h9; omega) x2) (fun E h => h)) kw_426 kw_427 kw_61 kw_428 (by decide +kernel) ⟨Nat.le_of_ble_eq_true rfl, Nat.le_of_ble_eq_true rfl⟩ rfl hl.1 rfl (Nat.le_of_ble_eq_true rfl) dL_law_969 ⟨(by show k0 + 0 + 2 ≤ 1072639; omega), (by show n0 + 0 + 12 ≤ 5883708; omega)⟩) rfl hD hS hA (fun r3 S1 H locs hp hP hDs hD1 hq3x hf1 hS => ?_)
  clear hq3x
  have hO9x := kO_keep hO hdis hf1
  have hdis9 := kdis_keep hO hdis hDs
  rcases hp with hp | hp
  · have hO := hO9x
    have hdis := hdis9
    have hD := hD1
    obtain ⟨hI1, j2, hj2, ej2, h20, hR1, c9, hc9, er⟩ := hp
    have hWv := q_wave_Wv (ca := j2) hW h20
    obtain ⟨q1, hq1⟩ : ∃ q9 : qS, q9 = q_wave j2 q := ⟨_, rfl⟩
    rw [← hq1] at hR1 hWv
    have hW1 : q_W q1 := q_Wv_W hWv
    have hL1 : q_L q1 := q_L_of hL (fun k hk i => by rw [hq1]; exact q_wave_o (q_mem (P := fun k => k ∉ [14, 24, 25, 42, 43, 44, 57]) hk (by decide)))
    have hU1 : q_U q1 = q_U q := q_U_of (fun k hk i => by rw [hq1]; exact q_wave_o (q_mem (P := fun k => k ∉ [14, 24, 25, 42, 43, 44, 57]) hk (by decide)))
    have hO9 := q_O_of (q' := q1) hO9 (fun k hk i => by rw [hq1]; exact q_wave_o (q_mem (P := fun k => k ∉ [14, 24, 25, 42, 43, 44, 57]) hk (by decide)))
    have f73 : q1 73 0 = q 73 0 := by rw [hq1]; exact q_wave_o (by decide)
    have f57 : q1 57 0 = q 57 0 + 1 := hWv.2.2.2.1.1
    have hlk2 : ∀ n, n < q1 73 0 → q1 25 n = q1 57 0 → q1 24 n = 112 := fun n hn h => (hWv.2.2.2.2 n hn).2.2 (h.trans f57)
    have h57p : 0 < q1 57 0 := by omega
    have nr3 : r3.toInt = ((c9 : Nat) : Int) := kt_nI er (by omega)
    have hI := hI1
    have hR := hR1
    have hW := hW1
    have hL := hL1
    clear hro hroom h57 h56
    have h721 : q1 72 0 = 3 := hL.1
    have h72 : q1 72 0 ≤ 12 := by omega
    have h73 : q1 73 0 ≤ 12 := hW.1.1.2.1
    have hro : q1 42 0 ≤ 504 := q_room hW.1.1 hW.1.2.2.2.1 hW.1.2.2.2.2.1
    have hroom : q1 42 0 < 516 := by omega
    have h57 : q1 57 0 ≤ 20 := hW.1.2.2.2.2.1.1
    have h56 : q1 56 0 ≤ 1439 := hL.2.2.2.2.2.1
    have h25 : ∀ i, i < q1 73 0 → q1 25 i < 2 ^ 31 := fun i hi => by have := (hW.1.2.2.1 i hi).2.2.2; omega
    have hU5 : q_U q1 ≤ 5000 := by omega
    refine lv_istore (lv' := [(17, .int r3), (19, .int r1), (18, .int 0), (16, .int od), (15, .int mm), (14, .int aa), (13, .int kd), (11, .long bf), (10, .int nx), (9, .int kx), (8, .int 1), (7, .int on), (6, .int un), (5, .ref ri), (4, .ref rb), (3, .ref rr), (2, .ref ra), (1, .ref (z 0)), (0, .ref b)]) hx hb dL_law_972 hl (by decide) rfl (fun ls hl => ?_)
    refine lv_iload hx hb dL_law_974 (lv_at hl 0 rfl) ?_
    refine lv_if_ge (tgt := 983) hx hb dL_law_976 (by decide) (fun c4 => ?_) (fun c4 => ?_)
    · have d4 : (0) ≤ r3.toInt := (kc_le (by decide : (0 : Int32).toInt = 0) (rfl : r3.toInt = r3.toInt)).mp c4
      refine lv_iconst (v := 0) hx hb dL_law_983 (by decide) ?_
      refine lv_istore (lv' := [(18, .int 0), (17, .int r3), (19, .int r1), (16, .int od), (15, .int mm), (14, .int aa), (13, .int kd), (11, .long bf), (10, .int nx), (9, .int kx), (8, .int 1), (7, .int on), (6, .int un), (5, .ref ri), (4, .ref rb), (3, .ref rr), (2, .ref ra), (1, .ref (z 0)), (0, .ref b)]) hx hb dL_law_984 hl (by decide) rfl (fun ls hl => ?_)
      refine lv_iload hx hb dL_law_986 (lv_at hl 1 rfl) ?_
      refine lv_if_lt (tgt := 1020) hx hb dL_law_988 (by decide) (fun c5 => ?_) (fun c5 => ?_)
      · have d5 : r3.toInt < (0) := (kc_lt (rfl : r3.toInt = r3.toInt) (by decide : (0 : Int32).toInt = 0)).mp c5
        exfalso; omega
      · have d5 : ¬ (r3.toInt < (0)) := mt (kc_lt (rfl : r3.toInt = r3.toInt) (by decide : (0 : Int32).toInt = 0)).mpr c5
        refine lv_aload_n hx hb dL_law_991 rfl (lv_at hl 17 rfl) ?_
        refine kcallWI (kV (n := 0) (As := []) (rest := []) (b := z 0) (C := RX5) F hE hK hP hD hS hA (c_X5_waves l hl0 g e0 z S1 _ hI) (rr_Pickwave hK hP hI.ob0) kw_173 kw_174 kw_175 kw_2 kw_176 (by decide +kernel) ⟨Nat.le_of_ble_eq_true rfl, Nat.le_of_ble_eq_true rfl⟩ rfl hl.1 rfl (Nat.le_of_ble_eq_true rfl) dL_law_992 ⟨(by show k0 + 0 + 2 + 0 ≤ 1072639; omega), (by show n0 + 0 + 12 + 0 ≤ 5883708; omega)⟩) rfl hD hS hA (fun _ _ _ _ _ h => False.elim h) (fun r6 T1 H locs hp hP hq1x hq2x hq3x hf1 hS => ?_)
        clear hq1x hq2x hq3x
        have hO := kO_keep hO hdis hf1
        obtain ⟨hT, er6⟩ := hp
        have hT := hT.symm
        subst hT
        have vr6 : r6 = nI (q1 57 0) := er6.trans (hR.2.2.2.2.2.2.1.1 57 (by decide))
        have nr6 : r6.toInt = ((q1 57 0 : Nat) : Int) := kt_nI vr6 (by omega)
        refine lv_iload hx hb dL_law_995 (lv_at hl 2 rfl) ?_
        refine lv_iconst (v := 1) hx hb dL_law_997 (by decide) ?_
        refine lv_iadd hx hb dL_law_998 ?_
        refine lv_topi (fun x7 ex7 => ?_)
        have tx7 : x7.toInt = r1.toInt + (1) := kt_add ex7 (rfl : r1.toInt = r1.toInt) (by decide : (1 : Int32).toInt = 1) (by omega) (by omega)
        refine lv_icmp_ne (tgt := 1024) hx hb dL_law_999 (by decide) (fun c8 => ?_) (fun c8 => ?_)
        · have d8 : r6.toInt ≠ x7.toInt := mt (kc_eq (rfl : r6.toInt = r6.toInt) (rfl : x7.toInt = x7.toInt)).mpr c8
          exfalso; omega
        · have d8 : r6.toInt = x7.toInt := (kc_eq (rfl : r6.toInt = r6.toInt) (rfl : x7.toInt = x7.toInt)).mp c8
          refine lv_aload_n hx hb dL_law_1002 rfl (lv_at hl 17 rfl) ?_
          refine lv_iload hx hb dL_law_1003 (lv_at hl 4 rfl) ?_
          refine lv_iconst (v := 3) hx hb dL_law_1005 (by decide) ?_
          refine lv_irem hx hb dL_law_1006 (by decide) ?_
          refine lv_topi (fun x9 ex9 => ?_)
          have nx9 : x9.toInt = ((m9 % 3 : Nat) : Int) := kt_rem ex9 hmm (by decide : (3 : Int32).toInt = ((3 : Nat) : Int)) (by omega) (by omega) (by omega)
          refine lv_iload hx hb dL_law_1007 (lv_at hl 11 rfl) ?_
          refine lv_aload hx hb dL_law_1009 (lv_at hl 13 rfl) ?_
          refine lv_aload_n hx hb dL_law_1011 rfl (lv_at hl 16 rfl) ?_
          refine lv_aload hx hb dL_law_1012 (lv_at hl 14 rfl) ?_
          refine kcallv (kStv (n := 6) (As := [.ref (z 0), .int x9, .int on, .ref ri, .ref ra, .ref rb]) (rest := []) F hE hNc hK hP hO hD hDO hdis hS hA (c_L_isLooked l hl0 g e0 z av lv S1 O _ q1 hI hR hW hL hU5 ra rr rb ri (m9 % 3) x9 on hO9 nx9 (by omega) (by omega : on.toInt = ((q1 73 0 : Nat) : Int)) h57p hlk2) kw_440 kw_441 kw_61 kw_442 (by decide +kernel) ⟨Nat.le_of_ble_eq_true rfl, Nat.le_of_ble_eq_true rfl⟩ rfl hl.1 rfl (Nat.le_of_ble_eq_true rfl) dL_law_1014 ⟨(by show k0 + 0 + 2 + 0 + 39 ≤ 1072639; omega), (by show n0 + 0 + 12 + 0 + 234 ≤ 5883708; omega)⟩) rfl hD hDO hS hA (fun v9 H locs hp hP hO hS => ?_)
          subst hp
          refine lv_if_eq (tgt := 1024) hx hb dL_law_1017 (by decide) (fun c10 => ?_) (fun c10 => ?_)
          · exact absurd c10 (by decide)
          · refine lv_iconst (v := 1) hx hb dL_law_1020 (by decide) ?_
            refine lv_goto (tgt := 1025) hx hb dL_law_1021 (by decide) ?_
            refine lv_istore (lv' := [(8, .int 1), (18, .int 0), (17, .int r3), (19, .int r1), (16, .int od), (15, .int mm), (14, .int aa), (13, .int kd), (11, .long bf), (10, .int nx), (9, .int kx), (7, .int on), (6, .int un), (5, .ref ri), (4, .ref rb), (3, .ref rr), (2, .ref ra), (1, .ref (z 0)), (0, .ref b)]) hx hb dL_law_1025 hl (by decide) rfl (fun ls hl => ?_)
            refine lv_goto (tgt := 1227) hx hb dL_law_1027 (by decide) ?_
            exact kk S1 O av lv q1 _ _ ls _ _ 0 on un ⟨⟨F, hK, hE, hNc, hX, hbl⟩, ⟨hP, hO⟩, ⟨hD, hDO⟩, hdis, hS, ⟨hI, hR, hW, hL⟩, hO9⟩ (by omega) (Or.inl rfl) (by omega) (by omega) (by omega) (by omega) (lv_sub hl [1, 8, 9, 10, 0, 11, 12, 13, 14, 15, 16, 17, 18] rfl)
    · have d4 : ¬ ((0) ≤ r3.toInt) := mt (kc_le (by decide : (0 : Int32).toInt = 0) (rfl : r3.toInt = r3.toInt)).mpr c4
      exfalso; omega
  · have hO := hO9x
    obtain ⟨hT, hrx⟩ : S = S1 ∧ r3.toInt ≤ -75 := by rcases hp with ⟨e, -, h⟩ | ⟨e, -, h⟩ | ⟨e, -, h⟩ <;> exact ⟨h.symm, by rw [e]; decide⟩
    subst hT
    clear hp
    refine lv_istore (lv' := [(17, .int r3), (19, .int r1), (18, .int 0), (16, .int od), (15, .int mm), (14, .int aa), (13, .int kd), (11, .long bf), (10, .int nx), (9, .int kx), (8, .int 1), (7, .int on), (6, .int un), (5, .ref ri), (4, .ref rb), (3, .ref rr), (2, .ref ra), (1, .ref (z 0)), (0, .ref b)]) hx hb dL_law_972 hl (by decide) rfl (fun ls hl => ?_)
    refine lv_iload hx hb dL_law_974 (lv_at hl 0 rfl) ?_
    refine lv_if_ge (tgt := 983) hx hb dL_law_976 (by decide) (fun c11 => ?_) (fun c11 => ?_)
    · have d11 : (0) ≤ r3.toInt := (kc_le (by decide : (0 : Int32).toInt = 0) (rfl : r3.toInt = r3.toInt)).mp c11
      exfalso; omega
    · have d11 : ¬ ((0) ≤ r3.toInt) := mt (kc_le (by decide : (0 : Int32).toInt = 0) (rfl : r3.toInt = r3.toInt)).mpr c11
      refine lv_iconst (v := 1) hx hb dL_law_979 (by decide) ?_
      refine lv_goto (tgt := 984) hx hb dL_law_980 (by decide) ?_
      refine lv_istore (lv' := [(18, .int 1), (17, .int r3), (19, .int r1), (16, .int od), (15, .int mm), (14, .int aa), (13, .int kd), (11, .long bf), (10, .int nx), (9, .int kx), (8, .int 1), (7, .int on), (6, .int un), (5, .ref ri), (4, .ref rb), (3, .ref rr), (2, .ref ra), (1, .ref (z 0)), (0, .ref b)]) hx hb dL_law_984 hl (by decide) rfl (fun ls hl => ?_)
      refine lv_iload hx hb dL_law_986 (lv_at hl 1 rfl) ?_
      refine lv_if_lt (tgt := 1020) hx hb dL_law_988 (by decide) (fun c12 => ?_) (fun c12 => ?_)
      · have d12 : r3.toInt < (0) := (kc_lt (rfl : r3.toInt = r3.toInt) (by decide : (0 : Int32).toInt = 0)).mp c12
        refine lv_iconst (v := 1) hx hb dL_law_1020 (by decide) ?_
        refine lv_goto (tgt := 1025) hx hb dL_law_1021 (by decide) ?_
        refine lv_istore (lv' := [(8, .int 1), (18, .int 1), (17, .int r3), (19, .int r1), (16, .int od), (15, .int mm), (14, .int aa), (13, .int kd), (11, .long bf), (10, .int nx), (9, .int kx), (7, .int on), (6, .int un), (5, .ref ri), (4, .ref rb), (3, .ref rr), (2, .ref ra), (1, .ref (z 0)), (0, .ref b)]) hx hb dL_law_1025 hl (by decide) rfl (fun ls hl => ?_)
        refine lv_goto (tgt := 1227) hx hb dL_law_1027 (by decide) ?_
        exact kk S O av lv q _ _ ls _ _ 1 on un ⟨⟨F, hK, hE, hNc, hX, hbl⟩, ⟨hP, hO⟩, ⟨hD, hDO⟩, hdis, hS, ⟨hI, hR, hW, hL⟩, hO9⟩ (by omega) (Or.inr ⟨rfl, rfl⟩) (by omega) (by omega) (by omega) (by omega) (lv_sub hl [1, 8, 9, 10, 0, 11, 12, 13, 14, 15, 16, 17, 18] rfl)
      · have d12 : ¬ (r3.toInt < (0)) := mt (kc_lt (rfl : r3.toInt = r3.toInt) (by decide : (0 : Int32).toInt = 0)).mpr c12
        exfalso; omega
