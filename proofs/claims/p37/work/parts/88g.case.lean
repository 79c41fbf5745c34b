set_option maxHeartbeats 8000000 in
set_option maxRecDepth 100000 in
theorem kcs_ship {p : Program} {l : Launch} {e : Env} {s : State} {m : MethodId} {below : List Frame} {meth : Method} {c : Code} {b L : Nat} {xs : Nat → Int32} {g : kG} {e0 : Nat} {z av lv : Nat → Nat} {S O : wPS} {q : qS} {ra rr rb ri : Nat} {H : Heap} {locs : List Loc} {k0 n0 : Nat} {Q : State → Prop} {ls : Array Slot} (hl0 : l.stackTraces = false) (hL9 : L ≤ 260) (C : kLw p s m c b L xs g e0 z av lv S O q ra rr rb ri H locs) (hU : q_U q ≤ 4000) (hk0 : k0 + 3000 ≤ 1072639) (hn0 : n0 + 20000 ≤ 5883708) {kd nx kx mm aa od on un : Int32} {bf : Int64} {a m9 o9 : Nat} (ha : a ≤ 3) (haa : aa.toInt = ((a : Nat) : Int)) (hm9 : m9 < 1000) (hmm : mm.toInt = ((m9 : Nat) : Int)) (ho9 : o9 ≤ q 73 0) (hod : od.toInt = ((o9 : Nat) : Int)) (hon : on.toInt = ((q 73 0 : Nat) : Int)) (hun : un.toInt = ((q_U q : Nat) : Int)) (hl : lv_has ls 23 [(18, .int 0), (17, .int 0), (16, .int od), (15, .int mm), (14, .int aa), (13, .int kd), (11, .long bf), (10, .int nx), (9, .int kx), (8, .int 1), (7, .int on), (6, .int un), (5, .ref ri), (4, .ref rb), (3, .ref rr), (2, .ref ra), (1, .ref (z 0)), (0, .ref b)])
    (kk : ∀ (S1 O1 : wPS) (av1 lv1 : Nat → Nat) (q1 : qS) (H1 : Heap) (locs1 : List Loc) (ls1 : Array Slot) (k1 n1 : Nat) (th on1 un1 : Int32), kLw p s m c b L xs g e0 z av1 lv1 S1 O1 q1 ra rr rb ri H1 locs1 → q_U q1 ≤ q_U q + 14 → (th = 0 ∨ (th = 1 ∧ q_sm q1 = q_sm q)) → on1.toInt = ((q1 73 0 : Nat) : Int) → un1.toInt = ((q_U q1 : Nat) : Int) → k1 ≤ k0 + 3000 → n1 ≤ n0 + 20000 → lv_has ls1 23 [(18, .int th), (11, .long bf), (10, .int nx), (9, .int kx), (8, .int 1), (7, .int on1), (6, .int un1), (5, .ref ri), (4, .ref rb), (3, .ref rr), (2, .ref ra), (1, .ref (z 0)), (0, .ref b)] → W p l e room_1 s m #[Value.ref b] below meth c H1 locs1 k1 n1 Q (F0 m 1227 ls1 [])) :
    W p l e room_1 s m #[Value.ref b] below meth c H locs k0 n0 Q (F0 m 894 ls []) := by
  obtain ⟨⟨F, hK, hE, hNc, hX, hbl⟩, ⟨hP, hO⟩, ⟨hD, hDO⟩, hdis, hS, ⟨hI, hR, hW, hL⟩, hO9⟩ := C
  have hx := F.1
  have hb := F.2.1
  have hbA : ¬ kAs s b := Nat.not_le.mpr hbl
  have hA : ∀ q : Nat, s.heap.size ≤ q → kAs s q := fun _ h => h
  have hU5 : q_U q ≤ 5000 := by omega
  have h721 : q 72 0 = 3 := hL.1
  have h72 : q 72 0 ≤ 12 := by omega
  have h73 : q 73 0 ≤ 12 := hW.1.1.2.1
  have hro : q 42 0 ≤ 504 := q_room hW.1.1 hW.1.2.2.2.1 hW.1.2.2.2.2.1
  have hroom : q 42 0 < 516 := by omega
  have h57 : q 57 0 ≤ 20 := hW.1.2.2.2.2.1.1
  have h56 : q 56 0 ≤ 1439 := hL.2.2.2.2.2.1
  have h25 : ∀ i, i < q 73 0 → q 25 i < 2 ^ 31 := fun i hi => by have := (hW.1.2.2.1 i hi).2.2.2; omega
  obtain ⟨⟨oa, la⟩, ⟨orr, lr⟩, ⟨obb, lb⟩, ⟨oi, li⟩, hne, hra, hrb, hri⟩ := id hO9
  refine lv_aload_n hx hb dL_law_894 rfl (lv_at hl 16 rfl) ?_
  refine kcallWL (kV (n := 0) (As := []) (rest := []) (b := z 0) (C := RX5) F hE hK hP hD hS hA (c_X5_shipped l hl0 g e0 z S _ hI) (rr_Pickwave hK hP hI.ob0) kw_183 kw_184 kw_185 kw_2 kw_186 (by decide +kernel) ⟨Nat.le_of_ble_eq_true rfl, Nat.le_of_ble_eq_true rfl⟩ rfl hl.1 rfl (Nat.le_of_ble_eq_true rfl) dL_law_895 ⟨(by show k0 + 0 ≤ 1072639; omega), (by show n0 + 0 ≤ 5883708; omega)⟩) rfl hD hS hA (fun _ _ _ _ _ h => False.elim h) (fun r1 T1 H locs hp hP hq1x hq2x hq3x hf1 hS => ?_)
  clear hq1x hq2x hq3x
  have hO := kO_keep hO hdis hf1
  obtain ⟨hT, er1⟩ := hp
  have hT := hT.symm
  subst hT
  have vr1 : r1 = lN (q 59 0) := er1.trans hR.2.2.2.2.2.2.1.2
  refine lv_lstore (lv' := [(19, .long r1), (18, .int 0), (17, .int 0), (16, .int od), (15, .int mm), (14, .int aa), (13, .int kd), (11, .long bf), (10, .int nx), (9, .int kx), (8, .int 1), (7, .int on), (6, .int un), (5, .ref ri), (4, .ref rb), (3, .ref rr), (2, .ref ra), (1, .ref (z 0)), (0, .ref b)]) hx hb dL_law_898 hl (by decide) rfl (fun ls hl => ?_)
  refine lv_aload_n hx hb dL_law_900 rfl (lv_at hl 17 rfl) ?_
  refine lv_iload hx hb dL_law_901 (lv_at hl 4 rfl) ?_
  refine lv_iconst (v := 4) hx hb dL_law_903 (by decide) ?_
  refine lv_irem hx hb dL_law_904 (by decide) ?_
  refine lv_topi (fun x2 ex2 => ?_)
  have nx2 : x2.toInt = ((m9 % 4 : Nat) : Int) := kt_rem ex2 hmm (by decide : (4 : Int32).toInt = ((4 : Nat) : Int)) (by omega) (by omega) (by omega)
  refine kcallhI (kSthW (n := 2) (As := [.ref (z 0), .int x2]) (rest := []) F hE hNc hK hP hD hS hA (kh_ship l g e0 S _ (z 0) x2 _ _ hI.ob0 (c_X5_ship_x l hl0 g e0 z S _ hI av lv q hR hW x2) (fun E h => h.1)) kw_415 kw_416 kw_61 kw_417 (by decide +kernel) ⟨Nat.le_of_ble_eq_true rfl, Nat.le_of_ble_eq_true rfl⟩ rfl hl.1 rfl (Nat.le_of_ble_eq_true rfl) dL_law_905 ⟨(by show k0 + 0 + 1 ≤ 1072639; omega), (by show n0 + 0 + 6 ≤ 5883708; omega)⟩) rfl hD hS hA (fun r3 S1 H locs hp hP hDs hD1 hq3x hf1 hS => ?_)
  clear hq3x
  have hO9x := kO_keep hO hdis hf1
  have hdis9 := kdis_keep hO hdis hDs
  rcases hp with hp | hp
  · have hO := hO9x
    have hdis := hdis9
    have hD := hD1
    obtain ⟨hk9, ca, hca, eca, hR1, c9, hc9, er, h59⟩ := hp
    have hI1 : Inv z e0 S1 := hI.keep hk9.1
    obtain ⟨q1, hq1⟩ : ∃ q9 : qS, q9 = q_ship ca (q 73 0) q := ⟨_, rfl⟩
    rw [← hq1] at hR1 h59
    have hW1 : q_W q1 := by rw [hq1]; exact q_ship_W hW (Nat.le_refl _)
    have hL1 : q_L q1 := q_L_of hL (fun k hk i => by rw [hq1]; exact q_ship_oo (q_mem (P := fun k => k ∉ [14, 24, 42, 43, 44, 59]) hk (by decide)))
    have hU1 : q_U q1 = q_U q := q_U_of (fun k hk i => by rw [hq1]; exact q_ship_oo (q_mem (P := fun k => k ∉ [14, 24, 42, 43, 44, 59]) hk (by decide)))
    have hO9 := q_O_of (q' := q1) hO9 (fun k hk i => by rw [hq1]; exact q_ship_oo (q_mem (P := fun k => k ∉ [14, 24, 42, 43, 44, 59]) hk (by decide)))
    have f73 : q1 73 0 = q 73 0 := by rw [hq1]; exact q_ship_oo (by decide)
    have nr3 : r3.toInt = ((c9 : Nat) : Int) := kt_nI er (by omega)
    have h59b : q1 59 0 ≤ 240 := by have h8 := hW1.1.2.2.2.2.2.2; have h9 := q_shp_b (q := q1) (m := q1 73 0) (fun n hn => (hW1.1.2.2.1 n hn).2.2.1); unfold q_W8 at h8; omega
    have hI := hI1
    have hR := hR1
    have hW := hW1
    have hL := hL1
    clear hro hroom h57 h56
    have h721 : q1 72 0 = 3 := hL.1
    have h72 : q1 72 0 ≤ 12 := by omega
    have h73 : q1 73 0 ≤ 12 := hW.1.1.2.1
    have hro : q1 42 0 ≤ 504 := q_room hW.1.1 hW.1.2.2.2.1 hW.1.2.2.2.2.1
    have hroom : q1 42 0 < 516 := by omega
    have h57 : q1 57 0 ≤ 20 := hW.1.2.2.2.2.1.1
    have h56 : q1 56 0 ≤ 1439 := hL.2.2.2.2.2.1
    have h25 : ∀ i, i < q1 73 0 → q1 25 i < 2 ^ 31 := fun i hi => by have := (hW.1.2.2.1 i hi).2.2.2; omega
    have hU5 : q_U q1 ≤ 5000 := by omega
    refine lv_istore (lv' := [(17, .int r3), (19, .long r1), (18, .int 0), (16, .int od), (15, .int mm), (14, .int aa), (13, .int kd), (11, .long bf), (10, .int nx), (9, .int kx), (8, .int 1), (7, .int on), (6, .int un), (5, .ref ri), (4, .ref rb), (3, .ref rr), (2, .ref ra), (1, .ref (z 0)), (0, .ref b)]) hx hb dL_law_908 hl (by decide) rfl (fun ls hl => ?_)
    refine lv_iload hx hb dL_law_910 (lv_at hl 0 rfl) ?_
    refine lv_if_ge (tgt := 919) hx hb dL_law_912 (by decide) (fun c4 => ?_) (fun c4 => ?_)
    · have d4 : (0) ≤ r3.toInt := (kc_le (by decide : (0 : Int32).toInt = 0) (rfl : r3.toInt = r3.toInt)).mp c4
      refine lv_iconst (v := 0) hx hb dL_law_919 (by decide) ?_
      refine lv_istore (lv' := [(18, .int 0), (17, .int r3), (19, .long r1), (16, .int od), (15, .int mm), (14, .int aa), (13, .int kd), (11, .long bf), (10, .int nx), (9, .int kx), (8, .int 1), (7, .int on), (6, .int un), (5, .ref ri), (4, .ref rb), (3, .ref rr), (2, .ref ra), (1, .ref (z 0)), (0, .ref b)]) hx hb dL_law_920 hl (by decide) rfl (fun ls hl => ?_)
      refine lv_iload hx hb dL_law_922 (lv_at hl 1 rfl) ?_
      refine lv_if_lt (tgt := 941) hx hb dL_law_924 (by decide) (fun c5 => ?_) (fun c5 => ?_)
      · have d5 : r3.toInt < (0) := (kc_lt (rfl : r3.toInt = r3.toInt) (by decide : (0 : Int32).toInt = 0)).mp c5
        exfalso; omega
      · have d5 : ¬ (r3.toInt < (0)) := mt (kc_lt (rfl : r3.toInt = r3.toInt) (by decide : (0 : Int32).toInt = 0)).mpr c5
        refine lv_aload_n hx hb dL_law_927 rfl (lv_at hl 17 rfl) ?_
        refine kcallWL (kV (n := 0) (As := []) (rest := []) (b := z 0) (C := RX5) F hE hK hP hD hS hA (c_X5_shipped l hl0 g e0 z S1 _ hI) (rr_Pickwave hK hP hI.ob0) kw_183 kw_184 kw_185 kw_2 kw_186 (by decide +kernel) ⟨Nat.le_of_ble_eq_true rfl, Nat.le_of_ble_eq_true rfl⟩ rfl hl.1 rfl (Nat.le_of_ble_eq_true rfl) dL_law_928 ⟨(by show k0 + 0 + 1 + 0 ≤ 1072639; omega), (by show n0 + 0 + 6 + 0 ≤ 5883708; omega)⟩) rfl hD hS hA (fun _ _ _ _ _ h => False.elim h) (fun r6 T1 H locs hp hP hq1x hq2x hq3x hf1 hS => ?_)
        clear hq1x hq2x hq3x
        have hO := kO_keep hO hdis hf1
        obtain ⟨hT, er6⟩ := hp
        have hT := hT.symm
        subst hT
        have vr6 : r6 = lN (q1 59 0) := er6.trans hR.2.2.2.2.2.2.1.2
        refine lv_lload hx hb dL_law_931 (lv_at hl 2 rfl) ?_
        refine lv_iload hx hb dL_law_933 (lv_at hl 1 rfl) ?_
        refine lv_i2l (v := r3.toInt64) hx hb dL_law_935 rfl ?_
        refine lv_ladd hx hb dL_law_936 ?_
        refine lv_topl (fun x7 ex7 => ?_)
        refine W.lcmp hx hb dL_law_937 ?_
        refine lv_if_lt (tgt := 945) hx hb dL_law_938 (by decide) (fun c8 => ?_) (fun c8 => ?_)
        · exact absurd ((lg_cmp_lt _ _).mp c8) (by rw [vr6, ex7, vr1, er, lN_addI (by omega)]; exact k_lnlt h59 (by omega))
        · refine lv_iconst (v := 1) hx hb dL_law_941 (by decide) ?_
          refine lv_goto (tgt := 946) hx hb dL_law_942 (by decide) ?_
          refine lv_istore (lv' := [(8, .int 1), (18, .int 0), (17, .int r3), (19, .long r1), (16, .int od), (15, .int mm), (14, .int aa), (13, .int kd), (11, .long bf), (10, .int nx), (9, .int kx), (7, .int on), (6, .int un), (5, .ref ri), (4, .ref rb), (3, .ref rr), (2, .ref ra), (1, .ref (z 0)), (0, .ref b)]) hx hb dL_law_946 hl (by decide) rfl (fun ls hl => ?_)
          refine lv_goto (tgt := 1227) hx hb dL_law_948 (by decide) ?_
          exact kk S1 O av lv q1 _ _ ls _ _ 0 on un ⟨⟨F, hK, hE, hNc, hX, hbl⟩, ⟨hP, hO⟩, ⟨hD, hDO⟩, hdis, hS, ⟨hI, hR, hW, hL⟩, hO9⟩ (by omega) (Or.inl rfl) (by omega) (by omega) (by omega) (by omega) (lv_sub hl [1, 8, 9, 10, 0, 11, 12, 13, 14, 15, 16, 17, 18] rfl)
    · have d4 : ¬ ((0) ≤ r3.toInt) := mt (kc_le (by decide : (0 : Int32).toInt = 0) (rfl : r3.toInt = r3.toInt)).mpr c4
      exfalso; omega
  · have hO := hO9x
    obtain ⟨hT, hrx⟩ : S = S1 ∧ r3.toInt ≤ -75 := by rcases hp with ⟨e, -, h⟩; exact ⟨h.symm, by rw [e]; decide⟩
    subst hT
    clear hp
    refine lv_istore (lv' := [(17, .int r3), (19, .long r1), (18, .int 0), (16, .int od), (15, .int mm), (14, .int aa), (13, .int kd), (11, .long bf), (10, .int nx), (9, .int kx), (8, .int 1), (7, .int on), (6, .int un), (5, .ref ri), (4, .ref rb), (3, .ref rr), (2, .ref ra), (1, .ref (z 0)), (0, .ref b)]) hx hb dL_law_908 hl (by decide) rfl (fun ls hl => ?_)
    refine lv_iload hx hb dL_law_910 (lv_at hl 0 rfl) ?_
    refine lv_if_ge (tgt := 919) hx hb dL_law_912 (by decide) (fun c9 => ?_) (fun c9 => ?_)
    · have d9 : (0) ≤ r3.toInt := (kc_le (by decide : (0 : Int32).toInt = 0) (rfl : r3.toInt = r3.toInt)).mp c9
      exfalso; omega
    · have d9 : ¬ ((0) ≤ r3.toInt) := mt (kc_le (by decide : (0 : Int32).toInt = 0) (rfl : r3.toInt = r3.toInt)).mpr c9
      refine lv_iconst (v := 1) hx hb dL_law_915 (by decide) ?_
      refine lv_goto (tgt := 920) hx hb dL_law_916 (by decide) ?_
      refine lv_istore (lv' := [(18, .int 1), (17, .int r3), (19, .long r1), (16, .int od), (15, .int mm), (14, .int aa), (13, .int kd), (11, .long bf), (10, .int nx), (9, .int kx), (8, .int 1), (7, .int on), (6, .int un), (5, .ref ri), (4, .ref rb), (3, .ref rr), (2, .ref ra), (1, .ref (z 0)), (0, .ref b)]) hx hb dL_law_920 hl (by decide) rfl (fun ls hl => ?_)
      refine lv_iload hx hb dL_law_922 (lv_at hl 1 rfl) ?_
      refine lv_if_lt (tgt := 941) hx hb dL_law_924 (by decide) (fun c10 => ?_) (fun c10 => ?_)
      · have d10 : r3.toInt < (0) := (kc_lt (rfl : r3.toInt = r3.toInt) (by decide : (0 : Int32).toInt = 0)).mp c10
        refine lv_iconst (v := 1) hx hb dL_law_941 (by decide) ?_
        refine lv_goto (tgt := 946) hx hb dL_law_942 (by decide) ?_
        refine lv_istore (lv' := [(8, .int 1), (18, .int 1), (17, .int r3), (19, .long r1), (16, .int od), (15, .int mm), (14, .int aa), (13, .int kd), (11, .long bf), (10, .int nx), (9, .int kx), (7, .int on), (6, .int un), (5, .ref ri), (4, .ref rb), (3, .ref rr), (2, .ref ra), (1, .ref (z 0)), (0, .ref b)]) hx hb dL_law_946 hl (by decide) rfl (fun ls hl => ?_)
        refine lv_goto (tgt := 1227) hx hb dL_law_948 (by decide) ?_
        exact kk S O av lv q _ _ ls _ _ 1 on un ⟨⟨F, hK, hE, hNc, hX, hbl⟩, ⟨hP, hO⟩, ⟨hD, hDO⟩, hdis, hS, ⟨hI, hR, hW, hL⟩, hO9⟩ (by omega) (Or.inr ⟨rfl, rfl⟩) (by omega) (by omega) (by omega) (by omega) (lv_sub hl [1, 8, 9, 10, 0, 11, 12, 13, 14, 15, 16, 17, 18] rfl)
      · have d10 : ¬ (r3.toInt < (0)) := mt (kc_lt (rfl : r3.toInt = r3.toInt) (by decide : (0 : Int32).toInt = 0)).mpr c10
        exfalso; omega
