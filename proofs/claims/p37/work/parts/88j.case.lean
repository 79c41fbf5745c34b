set_option maxHeartbeats 8000000 in
set_option maxRecDepth 100000 in
theorem kcs_pass {p : Program} {l : Launch} {e : Env} {s : State} {m : MethodId} {below : List Frame} {meth : Method} {c : Code} {b L : Nat} {xs : Nat → Int32} {g : kG} {e0 : Nat} {z av lv : Nat → Nat} {S O : wPS} {q : qS} {ra rr rb ri : Nat} {H : Heap} {locs : List Loc} {k0 n0 : Nat} {Q : State → Prop} {ls : Array Slot} (hl0 : l.stackTraces = false) (hL9 : L ≤ 260) (C : kLw p s m c b L xs g e0 z av lv S O q ra rr rb ri H locs) (hU : q_U q ≤ 4000) (hk0 : k0 + 3000 ≤ 1072639) (hn0 : n0 + 20000 ≤ 5883708) {kd nx kx mm aa od on un : Int32} {bf : Int64} {a m9 o9 : Nat} (ha : a ≤ 3) (haa : aa.toInt = ((a : Nat) : Int)) (hm9 : m9 < 1000) (hmm : mm.toInt = ((m9 : Nat) : Int)) (ho9 : o9 ≤ q 73 0) (hod : od.toInt = ((o9 : Nat) : Int)) (hon : on.toInt = ((q 73 0 : Nat) : Int)) (hun : un.toInt = ((q_U q : Nat) : Int)) (hl : lv_has ls 23 [(18, .int 0), (17, .int 0), (16, .int od), (15, .int mm), (14, .int aa), (13, .int kd), (11, .long bf), (10, .int nx), (9, .int kx), (8, .int 1), (7, .int on), (6, .int un), (5, .ref ri), (4, .ref rb), (3, .ref rr), (2, .ref ra), (1, .ref (z 0)), (0, .ref b)])
    (kk : ∀ (S1 O1 : wPS) (av1 lv1 : Nat → Nat) (q1 : qS) (H1 : Heap) (locs1 : List Loc) (ls1 : Array Slot) (k1 n1 : Nat) (th on1 un1 : Int32), kLw p s m c b L xs g e0 z av1 lv1 S1 O1 q1 ra rr rb ri H1 locs1 → q_U q1 ≤ q_U q + 14 → (th = 0 ∨ (th = 1 ∧ q_sm q1 = q_sm q)) → on1.toInt = ((q1 73 0 : Nat) : Int) → un1.toInt = ((q_U q1 : Nat) : Int) → k1 ≤ k0 + 3000 → n1 ≤ n0 + 20000 → lv_has ls1 23 [(18, .int th), (11, .long bf), (10, .int nx), (9, .int kx), (8, .int 1), (7, .int on1), (6, .int un1), (5, .ref ri), (4, .ref rb), (3, .ref rr), (2, .ref ra), (1, .ref (z 0)), (0, .ref b)] → W p l e room_1 s m #[Value.ref b] below meth c H1 locs1 k1 n1 Q (F0 m 1227 ls1 [])) :
    W p l e room_1 s m #[Value.ref b] below meth c H locs k0 n0 Q (F0 m 1156 ls []) := by
  obtain ⟨⟨F, hK, hE, hNc, hX, hbl⟩, ⟨hP, hO⟩, ⟨hD, hDO⟩, hdis, hS, ⟨hI, hR, hW, hL⟩, hO9⟩ := C
  have hx := F.1
  have hb := F.2.1
  have hbA : ¬ kAs s b := Nat.not_le.mpr hbl
  have hA : ∀ q : Nat, s.heap.size ≤ q → kAs s q := fun _ h => h
  have hU5 : q_U q ≤ 5000 := by omega
  have h721 : q 72 0 = 3 := hL.1
  have h72 : q 72 0 ≤ 12 := by omega
  have h73 : q 73 0 ≤ 12 := hW.1.1.2.1
  have hro : q 42 0 ≤ 504 := q_room hW.1.1 hW.1.2.2.2.1 hW.1.2.2.2.2.1
  have hroom : q 42 0 < 516 := by omega
  have h57 : q 57 0 ≤ 20 := hW.1.2.2.2.2.1.1
  have h56 : q 56 0 ≤ 1439 := hL.2.2.2.2.2.1
  have h25 : ∀ i, i < q 73 0 → q 25 i < 2 ^ 31 := fun i hi => by have := (hW.1.2.2.1 i hi).2.2.2; omega
  obtain ⟨⟨oa, la⟩, ⟨orr, lr⟩, ⟨obb, lb⟩, ⟨oi, li⟩, hne, hra, hrb, hri⟩ := id hO9
  refine lv_iload hx hb dL_law_1156 (lv_at hl 3 rfl) ?_
  refine lv_bipush (v := 29) hx hb dL_law_1158 (by decide) ?_
  refine lv_irem hx hb dL_law_1160 (by decide) ?_
  refine lv_topi (fun x1 ex1 => ?_)
  have nx1 : x1.toInt = ((m9 % 29 : Nat) : Int) := kt_rem ex1 hmm (by decide : (29 : Int32).toInt = ((29 : Nat) : Int)) (by omega) (by omega) (by omega)
  refine lv_if_ne (tgt := 1168) hx hb dL_law_1161 (by decide) (fun c2 => ?_) (fun c2 => ?_)
  · have d2 : x1.toInt ≠ (0) := mt (kc_eq (rfl : x1.toInt = x1.toInt) (by decide : (0 : Int32).toInt = 0)).mpr c2
    refine lv_iconst (v := 1) hx hb dL_law_1168 (by decide) ?_
    refine lv_iload hx hb dL_law_1169 (lv_at hl 3 rfl) ?_
    refine lv_bipush (v := 9) hx hb dL_law_1171 (by decide) ?_
    refine lv_irem hx hb dL_law_1173 (by decide) ?_
    refine lv_topi (fun x3 ex3 => ?_)
    have nx3 : x3.toInt = ((m9 % 9 : Nat) : Int) := kt_rem ex3 hmm (by decide : (9 : Int32).toInt = ((9 : Nat) : Int)) (by omega) (by omega) (by omega)
    refine lv_iadd hx hb dL_law_1174 ?_
    refine lv_topi (fun x4 ex4 => ?_)
    have tx4 : x4.toInt = (1) + x3.toInt := kt_add ex4 (by decide : (1 : Int32).toInt = 1) (rfl : x3.toInt = x3.toInt) (by omega) (by omega)
    refine lv_istore (lv' := [(19, .int x4), (18, .int 0), (17, .int 0), (16, .int od), (15, .int mm), (14, .int aa), (13, .int kd), (11, .long bf), (10, .int nx), (9, .int kx), (8, .int 1), (7, .int on), (6, .int un), (5, .ref ri), (4, .ref rb), (3, .ref rr), (2, .ref ra), (1, .ref (z 0)), (0, .ref b)]) hx hb dL_law_1175 hl (by decide) rfl (fun ls hl => ?_)
    refine lv_aload_n hx hb dL_law_1177 rfl (lv_at hl 17 rfl) ?_
    refine kcallWI (kV (n := 0) (As := []) (rest := []) (b := z 0) (C := RX5) F hE hK hP hD hS hA (c_X5_minute l hl0 g e0 z S _ hI) (rr_Pickwave hK hP hI.ob0) kw_163 kw_164 kw_165 kw_2 kw_166 (by decide +kernel) ⟨Nat.le_of_ble_eq_true rfl, Nat.le_of_ble_eq_true rfl⟩ rfl hl.1 rfl (Nat.le_of_ble_eq_true rfl) dL_law_1178 ⟨(by show k0 + 0 ≤ 1072639; omega), (by show n0 + 0 ≤ 5883708; omega)⟩) rfl hD hS hA (fun _ _ _ _ _ h => False.elim h) (fun r5 T1 H locs hp hP hq1x hq2x hq3x hf1 hS => ?_)
    clear hq1x hq2x hq3x
    have hO := kO_keep hO hdis hf1
    obtain ⟨hT, er5⟩ := hp
    have hT := hT.symm
    subst hT
    have vr5 : r5 = nI (q 56 0) := er5.trans (hR.2.2.2.2.2.2.1.1 56 (by decide))
    have nr5 : r5.toInt = ((q 56 0 : Nat) : Int) := kt_nI vr5 (by omega)
    refine lv_istore (lv' := [(20, .int r5), (19, .int x4), (18, .int 0), (17, .int 0), (16, .int od), (15, .int mm), (14, .int aa), (13, .int kd), (11, .long bf), (10, .int nx), (9, .int kx), (8, .int 1), (7, .int on), (6, .int un), (5, .ref ri), (4, .ref rb), (3, .ref rr), (2, .ref ra), (1, .ref (z 0)), (0, .ref b)]) hx hb dL_law_1181 hl (by decide) rfl (fun ls hl => ?_)
    refine lv_aload_n hx hb dL_law_1183 rfl (lv_at hl 18 rfl) ?_
    refine lv_iload hx hb dL_law_1184 (lv_at hl 1 rfl) ?_
    refine kcallhI (kSthW (n := 2) (As := [.ref (z 0), .int x4]) (rest := []) F hE hNc hK hP hD hS hA (kh_pass l g e0 S _ (z 0) x4 _ _ hI.ob0 (c_X5_pass_x l hl0 g e0 z S _ hI av lv q hR hW (1 + (m9 % 9)) x4 (kt_of (by omega : x4.toInt = ((1 + (m9 % 9) : Nat) : Int)) (by omega)) (by omega) h56 (fun r9 h9 => hL.2.2.2.2.1 r9 h9) (fun b9 h9 => by have := hL.2.2.1 b9 h9; omega)) (fun E h => h)) kw_475 kw_476 kw_61 kw_477 (by decide +kernel) ⟨Nat.le_of_ble_eq_true rfl, Nat.le_of_ble_eq_true rfl⟩ rfl hl.1 rfl (Nat.le_of_ble_eq_true rfl) dL_law_1186 ⟨(by show k0 + 0 + 1 ≤ 1072639; omega), (by show n0 + 0 + 6 ≤ 5883708; omega)⟩) rfl hD hS hA (fun r6 S1 H locs hp hP hDs hD1 hq3x hf1 hS => ?_)
    clear hq3x
    have hO9x := kO_keep hO hdis hf1
    have hdis9 := kdis_keep hO hdis hDs
    rcases hp with hp | hp
    · have hO := hO9x
      have hdis := hdis9
      have hD := hD1
      obtain ⟨hI1, b1, b2, hR1, c9, hc9, er⟩ := hp
      obtain ⟨q1, hq1⟩ : ∃ q9 : qS, q9 = q_pass (1 + (m9 % 9)) q := ⟨_, rfl⟩
      rw [← hq1] at hR1
      have hW1 : q_W q1 := by rw [hq1]; exact q_pass_W hW
      have hL1 : q_L q1 := by rw [hq1]; exact q_pass_L hW hL b2
      obtain ⟨i1, f56, -, hU1⟩ := q_pass_all (m := 1 + (m9 % 9)) hW hL.1
      rw [← hq1] at i1 f56 hU1
      have hO9 := q_O_of (q' := q1) hO9 (fun k hk i => i1 k i (q_mem (P := fun k => k ∉ [12, 13, 30, 31, 32, 56]) hk (by decide)))
      have f73 : q1 73 0 = q 73 0 := i1 73 0 (by decide)
      have nr6 : r6.toInt = ((c9 : Nat) : Int) := kt_nI er (by omega)
      have hI := hI1
      have hR := hR1
      have hW := hW1
      have hL := hL1
      clear hro hroom h57 h56
      have h721 : q1 72 0 = 3 := hL.1
      have h72 : q1 72 0 ≤ 12 := by omega
      have h73 : q1 73 0 ≤ 12 := hW.1.1.2.1
      have hro : q1 42 0 ≤ 504 := q_room hW.1.1 hW.1.2.2.2.1 hW.1.2.2.2.2.1
      have hroom : q1 42 0 < 516 := by omega
      have h57 : q1 57 0 ≤ 20 := hW.1.2.2.2.2.1.1
      have h56 : q1 56 0 ≤ 1439 := hL.2.2.2.2.2.1
      have h25 : ∀ i, i < q1 73 0 → q1 25 i < 2 ^ 31 := fun i hi => by have := (hW.1.2.2.1 i hi).2.2.2; omega
      have hU5 : q_U q1 ≤ 5000 := by omega
      refine lv_istore (lv' := [(17, .int r6), (20, .int r5), (19, .int x4), (18, .int 0), (16, .int od), (15, .int mm), (14, .int aa), (13, .int kd), (11, .long bf), (10, .int nx), (9, .int kx), (8, .int 1), (7, .int on), (6, .int un), (5, .ref ri), (4, .ref rb), (3, .ref rr), (2, .ref ra), (1, .ref (z 0)), (0, .ref b)]) hx hb dL_law_1189 hl (by decide) rfl (fun ls hl => ?_)
      refine lv_iload hx hb dL_law_1191 (lv_at hl 0 rfl) ?_
      refine lv_if_ge (tgt := 1200) hx hb dL_law_1193 (by decide) (fun c7 => ?_) (fun c7 => ?_)
      · have d7 : (0) ≤ r6.toInt := (kc_le (by decide : (0 : Int32).toInt = 0) (rfl : r6.toInt = r6.toInt)).mp c7
        refine lv_iconst (v := 0) hx hb dL_law_1200 (by decide) ?_
        refine lv_istore (lv' := [(18, .int 0), (17, .int r6), (20, .int r5), (19, .int x4), (16, .int od), (15, .int mm), (14, .int aa), (13, .int kd), (11, .long bf), (10, .int nx), (9, .int kx), (8, .int 1), (7, .int on), (6, .int un), (5, .ref ri), (4, .ref rb), (3, .ref rr), (2, .ref ra), (1, .ref (z 0)), (0, .ref b)]) hx hb dL_law_1201 hl (by decide) rfl (fun ls hl => ?_)
        refine lv_iload hx hb dL_law_1203 (lv_at hl 1 rfl) ?_
        refine lv_if_lt (tgt := 1220) hx hb dL_law_1205 (by decide) (fun c8 => ?_) (fun c8 => ?_)
        · have d8 : r6.toInt < (0) := (kc_lt (rfl : r6.toInt = r6.toInt) (by decide : (0 : Int32).toInt = 0)).mp c8
          exfalso; omega
        · have d8 : ¬ (r6.toInt < (0)) := mt (kc_lt (rfl : r6.toInt = r6.toInt) (by decide : (0 : Int32).toInt = 0)).mpr c8
          refine lv_aload_n hx hb dL_law_1208 rfl (lv_at hl 18 rfl) ?_
          refine kcallWI (kV (n := 0) (As := []) (rest := []) (b := z 0) (C := RX5) F hE hK hP hD hS hA (c_X5_minute l hl0 g e0 z S1 _ hI) (rr_Pickwave hK hP hI.ob0) kw_163 kw_164 kw_165 kw_2 kw_166 (by decide +kernel) ⟨Nat.le_of_ble_eq_true rfl, Nat.le_of_ble_eq_true rfl⟩ rfl hl.1 rfl (Nat.le_of_ble_eq_true rfl) dL_law_1209 ⟨(by show k0 + 0 + 1 + 0 ≤ 1072639; omega), (by show n0 + 0 + 6 + 0 ≤ 5883708; omega)⟩) rfl hD hS hA (fun _ _ _ _ _ h => False.elim h) (fun r9 T1 H locs hp hP hq1x hq2x hq3x hf1 hS => ?_)
          clear hq1x hq2x hq3x
          have hO := kO_keep hO hdis hf1
          obtain ⟨hT, er9⟩ := hp
          have hT := hT.symm
          subst hT
          have vr9 : r9 = nI (q1 56 0) := er9.trans (hR.2.2.2.2.2.2.1.1 56 (by decide))
          have nr9 : r9.toInt = ((q1 56 0 : Nat) : Int) := kt_nI vr9 (by omega)
          refine lv_iload hx hb dL_law_1212 (lv_at hl 2 rfl) ?_
          refine lv_iload hx hb dL_law_1214 (lv_at hl 3 rfl) ?_
          refine lv_iadd hx hb dL_law_1216 ?_
          refine lv_topi (fun x10 ex10 => ?_)
          have tx10 : x10.toInt = r5.toInt + x4.toInt := kt_add ex10 (rfl : r5.toInt = r5.toInt) (rfl : x4.toInt = x4.toInt) (by omega) (by omega)
          refine lv_icmp_ne (tgt := 1224) hx hb dL_law_1217 (by decide) (fun c11 => ?_) (fun c11 => ?_)
          · have d11 : r9.toInt ≠ x10.toInt := mt (kc_eq (rfl : r9.toInt = r9.toInt) (rfl : x10.toInt = x10.toInt)).mpr c11
            exfalso; omega
          · have d11 : r9.toInt = x10.toInt := (kc_eq (rfl : r9.toInt = r9.toInt) (rfl : x10.toInt = x10.toInt)).mp c11
            refine lv_iconst (v := 1) hx hb dL_law_1220 (by decide) ?_
            refine lv_goto (tgt := 1225) hx hb dL_law_1221 (by decide) ?_
            refine lv_istore (lv' := [(8, .int 1), (18, .int 0), (17, .int r6), (20, .int r5), (19, .int x4), (16, .int od), (15, .int mm), (14, .int aa), (13, .int kd), (11, .long bf), (10, .int nx), (9, .int kx), (7, .int on), (6, .int un), (5, .ref ri), (4, .ref rb), (3, .ref rr), (2, .ref ra), (1, .ref (z 0)), (0, .ref b)]) hx hb dL_law_1225 hl (by decide) rfl (fun ls hl => ?_)
            exact kk S1 O av lv q1 _ _ ls _ _ 0 on un ⟨⟨F, hK, hE, hNc, hX, hbl⟩, ⟨hP, hO⟩, ⟨hD, hDO⟩, hdis, hS, ⟨hI, hR, hW, hL⟩, hO9⟩ (by omega) (Or.inl rfl) (by omega) (by omega) (by omega) (by omega) (lv_sub hl [1, 9, 10, 11, 0, 12, 13, 14, 15, 16, 17, 18, 19] rfl)
      · have d7 : ¬ ((0) ≤ r6.toInt) := mt (kc_le (by decide : (0 : Int32).toInt = 0) (rfl : r6.toInt = r6.toInt)).mpr c7
        exfalso; omega
    · have hO := hO9x
      obtain ⟨hT, hrx⟩ : S = S1 ∧ r6.toInt ≤ -75 := by rcases hp with ⟨e, -, h⟩; exact ⟨h.symm, by rw [e]; decide⟩
      subst hT
      clear hp
      refine lv_istore (lv' := [(17, .int r6), (20, .int r5), (19, .int x4), (18, .int 0), (16, .int od), (15, .int mm), (14, .int aa), (13, .int kd), (11, .long bf), (10, .int nx), (9, .int kx), (8, .int 1), (7, .int on), (6, .int un), (5, .ref ri), (4, .ref rb), (3, .ref rr), (2, .ref ra), (1, .ref (z 0)), (0, .ref b)]) hx hb dL_law_1189 hl (by decide) rfl (fun ls hl => ?_)
      refine lv_iload hx hb dL_law_1191 (lv_at hl 0 rfl) ?_
      refine lv_if_ge (tgt := 1200) hx hb dL_law_1193 (by decide) (fun c12 => ?_) (fun c12 => ?_)
      · have d12 : (0) ≤ r6.toInt := (kc_le (by decide : (0 : Int32).toInt = 0) (rfl : r6.toInt = r6.toInt)).mp c12
        exfalso; omega
      · have d12 : ¬ ((0) ≤ r6.toInt) := mt (kc_le (by decide : (0 : Int32).toInt = 0) (rfl : r6.toInt = r6.toInt)).mpr c12
        refine lv_iconst (v := 1) hx hb dL_law_1196 (by decide) ?_
        refine lv_goto (tgt := 1201) hx hb dL_law_1197 (by decide) ?_
        refine lv_istore (lv' := [(18, .int 1), (17, .int r6), (20, .int r5), (19, .int x4), (16, .int od), (15, .int mm), (14, .int aa), (13, .int kd), (11, .long bf), (10, .int nx), (9, .int kx), (8, .int 1), (7, .int on), (6, .int un), (5, .ref ri), (4, .ref rb), (3, .ref rr), (2, .ref ra), (1, .ref (z 0)), (0, .ref b)]) hx hb dL_law_1201 hl (by decide) rfl (fun ls hl => ?_)
        refine lv_iload hx hb dL_law_1203 (lv_at hl 1 rfl) ?_
        refine lv_if_lt (tgt := 1220) hx hb dL_law_1205 (by decide) (fun c13 => ?_) (fun c13 => ?_)
        · have d13 : r6.toInt < (0) := (kc_lt (rfl : r6.toInt = r6.toInt) (by decide : (0 : Int32).toInt = 0)).mp c13
          refine lv_iconst (v := 1) hx hb dL_law_1220 (by decide) ?_
          refine lv_goto (tgt := 1225) hx hb dL_law_1221 (by decide) ?_
          refine lv_istore (lv' := [(8, .int 1), (18, .int 1), (17, .int r6), (20, .int r5), (19, .int x4), (16, .int od), (15, .int mm), (14, .int aa), (13, .int kd), (11, .long bf), (10, .int nx), (9, .int kx), (7, .int on), (6, .int un), (5, .ref ri), (4, .ref rb), (3, .ref rr), (2, .ref ra), (1, .ref (z 0)), (0, .ref b)]) hx hb dL_law_1225 hl (by decide) rfl (fun ls hl => ?_)
          exact kk S O av lv q _ _ ls _ _ 1 on un ⟨⟨F, hK, hE, hNc, hX, hbl⟩, ⟨hP, hO⟩, ⟨hD, hDO⟩, hdis, hS, ⟨hI, hR, hW, hL⟩, hO9⟩ (by omega) (Or.inr ⟨rfl, rfl⟩) (by omega) (by omega) (by omega) (by omega) (lv_sub hl [1, 9, 10, 11, 0, 12, 13, 14, 15, 16, 17, 18, 19] rfl)
        · have d13 : ¬ (r6.toInt < (0)) := mt (kc_lt (rfl : r6.toInt = r6.toInt) (by decide : (0 : Int32).toInt = 0)).mpr c13
          exfalso; omega
  · have d2 : x1.toInt = (0) := (kc_eq (rfl : x1.toInt = x1.toInt) (by decide : (0 : Int32).toInt = 0)).mp c2
    refine lv_iconst (v := 0) hx hb dL_law_1164 (by decide) ?_
    refine lv_goto (tgt := 1175) hx hb dL_law_1165 (by decide) ?_
    refine lv_istore (lv' := [(19, .int 0), (18, .int 0), (17, .int 0), (16, .int od), (15, .int mm), (14, .int aa), (13, .int kd), (11, .long bf), (10, .int nx), (9, .int kx), (8, .int 1), (7, .int on), (6, .int un), (5, .ref ri), (4, .ref rb), (3, .ref rr), (2, .ref ra), (1, .ref (z 0)), (0, .ref b)]) hx hb dL_law_1175 hl (by decide) rfl (fun ls hl => ?_)
    refine lv_aload_n hx hb dL_law_1177 rfl (lv_at hl 17 rfl) ?_
    refine kcallWI (kV (n := 0) (As := []) (rest := []) (b := z 0) (C := RX5) F hE hK hP hD hS hA (c_X5_minute l hl0 g e0 z S _ hI) (rr_Pickwave hK hP hI.ob0) kw_163 kw_164 kw_165 kw_2 kw_166 (by decide +kernel) ⟨Nat.le_of_ble_eq_true rfl, Nat.le_of_ble_eq_true rfl⟩ rfl hl.1 rfl (Nat.le_of_ble_eq_true rfl) dL_law_1178 ⟨(by show k0 + 0 ≤ 1072639; omega), (by show n0 + 0 ≤ 5883708; omega)⟩) rfl hD hS hA (fun _ _ _ _ _ h => False.elim h) (fun r14 T1 H locs hp hP hq1x hq2x hq3x hf1 hS => ?_)
    clear hq1x hq2x hq3x
    have hO := kO_keep hO hdis hf1
    obtain ⟨hT, er14⟩ := hp
    have hT := hT.symm
    subst hT
    have vr14 : r14 = nI (q 56 0) := er14.trans (hR.2.2.2.2.2.2.1.1 56 (by decide))
    have nr14 : r14.toInt = ((q 56 0 : Nat) : Int) := kt_nI vr14 (by omega)
    refine lv_istore (lv' := [(20, .int r14), (19, .int 0), (18, .int 0), (17, .int 0), (16, .int od), (15, .int mm), (14, .int aa), (13, .int kd), (11, .long bf), (10, .int nx), (9, .int kx), (8, .int 1), (7, .int on), (6, .int un), (5, .ref ri), (4, .ref rb), (3, .ref rr), (2, .ref ra), (1, .ref (z 0)), (0, .ref b)]) hx hb dL_law_1181 hl (by decide) rfl (fun ls hl => ?_)
    refine lv_aload_n hx hb dL_law_1183 rfl (lv_at hl 18 rfl) ?_
    refine lv_iload hx hb dL_law_1184 (lv_at hl 1 rfl) ?_
    refine kcallhI (kSthW (n := 2) (As := [.ref (z 0), .int 0]) (rest := []) F hE hNc hK hP hD hS hA (kh_pass l g e0 S _ (z 0) 0 _ _ hI.ob0 (c_X5_pass_x l hl0 g e0 z S _ hI av lv q hR hW (0) 0 rfl (by omega) h56 (fun r9 h9 => hL.2.2.2.2.1 r9 h9) (fun b9 h9 => by have := hL.2.2.1 b9 h9; omega)) (fun E h => h)) kw_475 kw_476 kw_61 kw_477 (by decide +kernel) ⟨Nat.le_of_ble_eq_true rfl, Nat.le_of_ble_eq_true rfl⟩ rfl hl.1 rfl (Nat.le_of_ble_eq_true rfl) dL_law_1186 ⟨(by show k0 + 0 + 1 ≤ 1072639; omega), (by show n0 + 0 + 6 ≤ 5883708; omega)⟩) rfl hD hS hA (fun r15 S1 H locs hp hP hDs hD1 hq3x hf1 hS => ?_)
    clear hq3x
    have hO9x := kO_keep hO hdis hf1
    have hdis9 := kdis_keep hO hdis hDs
    rcases hp with hp | hp
    · have hO := hO9x
      have hdis := hdis9
      have hD := hD1
      obtain ⟨hI1, b1, b2, hR1, c9, hc9, er⟩ := hp
      exfalso; omega
    · have hO := hO9x
      obtain ⟨hT, hrx⟩ : S = S1 ∧ r15.toInt ≤ -75 := by rcases hp with ⟨e, -, h⟩; exact ⟨h.symm, by rw [e]; decide⟩
      subst hT
      clear hp
      refine lv_istore (lv' := [(17, .int r15), (20, .int r14), (19, .int 0), (18, .int 0), (16, .int od), (15, .int mm), (14, .int aa), (13, .int kd), (11, .long bf), (10, .int nx), (9, .int kx), (8, .int 1), (7, .int on), (6, .int un), (5, .ref ri), (4, .ref rb), (3, .ref rr), (2, .ref ra), (1, .ref (z 0)), (0, .ref b)]) hx hb dL_law_1189 hl (by decide) rfl (fun ls hl => ?_)
      refine lv_iload hx hb dL_law_1191 (lv_at hl 0 rfl) ?_
      refine lv_if_ge (tgt := 1200) hx hb dL_law_1193 (by decide) (fun c16 => ?_) (fun c16 => ?_)
      · have d16 : (0) ≤ r15.toInt := (kc_le (by decide : (0 : Int32).toInt = 0) (rfl : r15.toInt = r15.toInt)).mp c16
        exfalso; omega
      · have d16 : ¬ ((0) ≤ r15.toInt) := mt (kc_le (by decide : (0 : Int32).toInt = 0) (rfl : r15.toInt = r15.toInt)).mpr c16
        refine lv_iconst (v := 1) hx hb dL_law_1196 (by decide) ?_
        refine lv_goto (tgt := 1201) hx hb dL_law_1197 (by decide) ?_
        refine lv_istore (lv' := [(18, .int 1), (17, .int r15), (20, .int r14), (19, .int 0), (16, .int od), (15, .int mm), (14, .int aa), (13, .int kd), (11, .long bf), (10, .int nx), (9, .int kx), (8, .int 1), (7, .int on), (6, .int un), (5, .ref ri), (4, .ref rb), (3, .ref rr), (2, .ref ra), (1, .ref (z 0)), (0, .ref b)]) hx hb dL_law_1201 hl (by decide) rfl (fun ls hl => ?_)
        refine lv_iload hx hb dL_law_1203 (lv_at hl 1 rfl) ?_
        refine lv_if_lt (tgt := 1220) hx hb dL_law_1205 (by decide) (fun c17 => ?_) (fun c17 => ?_)
        · have d17 : r15.toInt < (0) := (kc_lt (rfl : r15.toInt = r15.toInt) (by decide : (0 : Int32).toInt = 0)).mp c17
          refine lv_iconst (v := 1) hx hb dL_law_1220 (by decide) ?_
          refine lv_goto (tgt := 1225) hx hb dL_law_1221 (by decide) ?_
          refine lv_istore (lv' := [(8, .int 1), (18, .int 1), (17, .int r15), (20, .int r14), (19, .int 0), (16, .int od), (15, .int mm), (14, .int aa), (13, .int kd), (11, .long bf), (10, .int nx), (9, .int kx), (7, .int on), (6, .int un), (5, .ref ri), (4, .ref rb), (3, .ref rr), (2, .ref ra), (1, .ref (z 0)), (0, .ref b)]) hx hb dL_law_1225 hl (by decide) rfl (fun ls hl => ?_)
          exact kk S O av lv q _ _ ls _ _ 1 on un ⟨⟨F, hK, hE, hNc, hX, hbl⟩, ⟨hP, hO⟩, ⟨hD, hDO⟩, hdis, hS, ⟨hI, hR, hW, hL⟩, hO9⟩ (by omega) (Or.inr ⟨rfl, rfl⟩) (by omega) (by omega) (by omega) (by omega) (lv_sub hl [1, 9, 10, 11, 0, 12, 13, 14, 15, 16, 17, 18, 19] rfl)
        · have d17 : ¬ (r15.toInt < (0)) := mt (kc_lt (rfl : r15.toInt = r15.toInt) (by decide : (0 : Int32).toInt = 0)).mpr c17
          exfalso; omega
