set_option maxHeartbeats 8000000 in
set_option maxRecDepth 100000 in
theorem kcs_order {p : Program} {l : Launch} {e : Env} {s : State} {m : MethodId} {below : List Frame} {meth : Method} {c : Code} {b L : Nat} {xs : Nat → Int32} {g : kG} {e0 : Nat} {z av lv : Nat → Nat} {S O : wPS} {q : qS} {ra rr rb ri : Nat} {H : Heap} {locs : List Loc} {k0 n0 : Nat} {Q : State → Prop} {ls : Array Slot} (hl0 : l.stackTraces = false) (hL9 : L ≤ 260) (C : kLw p s m c b L xs g e0 z av lv S O q ra rr rb ri H locs) (hU : q_U q ≤ 4000) (hk0 : k0 + 3000 ≤ 1072639) (hn0 : n0 + 20000 ≤ 5883708) {kd nx kx mm aa od on un : Int32} {bf : Int64} {a m9 o9 : Nat} (ha : a ≤ 3) (haa : aa.toInt = ((a : Nat) : Int)) (hm9 : m9 < 1000) (hmm : mm.toInt = ((m9 : Nat) : Int)) (ho9 : o9 ≤ q 73 0) (hod : od.toInt = ((o9 : Nat) : Int)) (hon : on.toInt = ((q 73 0 : Nat) : Int)) (hun : un.toInt = ((q_U q : Nat) : Int)) (hl : lv_has ls 23 [(18, .int 0), (17, .int 0), (16, .int od), (15, .int mm), (14, .int aa), (13, .int kd), (11, .long bf), (10, .int nx), (9, .int kx), (8, .int 1), (7, .int on), (6, .int un), (5, .ref ri), (4, .ref rb), (3, .ref rr), (2, .ref ra), (1, .ref (z 0)), (0, .ref b)])
    (kk : ∀ (S1 O1 : wPS) (av1 lv1 : Nat → Nat) (q1 : qS) (H1 : Heap) (locs1 : List Loc) (ls1 : Array Slot) (k1 n1 : Nat) (th on1 un1 : Int32), kLw p s m c b L xs g e0 z av1 lv1 S1 O1 q1 ra rr rb ri H1 locs1 → q_U q1 ≤ q_U q + 14 → (th = 0 ∨ (th = 1 ∧ q_sm q1 = q_sm q)) → on1.toInt = ((q1 73 0 : Nat) : Int) → un1.toInt = ((q_U q1 : Nat) : Int) → k1 ≤ k0 + 3000 → n1 ≤ n0 + 20000 → lv_has ls1 23 [(18, .int th), (11, .long bf), (10, .int nx), (9, .int kx), (8, .int 1), (7, .int on1), (6, .int un1), (5, .ref ri), (4, .ref rb), (3, .ref rr), (2, .ref ra), (1, .ref (z 0)), (0, .ref b)] → W p l e room_1 s m #[Value.ref b] below meth c H1 locs1 k1 n1 Q (F0 m 1227 ls1 [])) :
    W p l e room_1 s m #[Value.ref b] below meth c H locs k0 n0 Q (F0 m 260 ls []) := by
  obtain ⟨⟨F, hK, hE, hNc, hX, hbl⟩, ⟨hP, hO⟩, ⟨hD, hDO⟩, hdis, hS, ⟨hI, hR, hW, hL⟩, hO9⟩ := C
  have hx := F.1
  have hb := F.2.1
  have hbA : ¬ kAs s b := Nat.not_le.mpr hbl
  have hA : ∀ q : Nat, s.heap.size ≤ q → kAs s q := fun _ h => h
  have hU5 : q_U q ≤ 5000 := by omega
  have h721 : q 72 0 = 3 := hL.1
  have h72 : q 72 0 ≤ 12 := by omega
  have h73 : q 73 0 ≤ 12 := hW.1.1.2.1
  have hro : q 42 0 ≤ 504 := q_room hW.1.1 hW.1.2.2.2.1 hW.1.2.2.2.2.1
  have hroom : q 42 0 < 516 := by omega
  have h57 : q 57 0 ≤ 20 := hW.1.2.2.2.2.1.1
  have h56 : q 56 0 ≤ 1439 := hL.2.2.2.2.2.1
  have h25 : ∀ i, i < q 73 0 → q 25 i < 2 ^ 31 := fun i hi => by have := (hW.1.2.2.1 i hi).2.2.2; omega
  obtain ⟨⟨oa, la⟩, ⟨orr, lr⟩, ⟨obb, lb⟩, ⟨oi, li⟩, hne, hra, hrb, hri⟩ := id hO9
  refine lv_iload hx hb dL_law_260 (lv_at hl 3 rfl) ?_
  refine lv_bipush (v := 9) hx hb dL_law_262 (by decide) ?_
  refine lv_irem hx hb dL_law_264 (by decide) ?_
  refine lv_topi (fun x1 ex1 => ?_)
  have nx1 : x1.toInt = ((m9 % 9 : Nat) : Int) := kt_rem ex1 hmm (by decide : (9 : Int32).toInt = ((9 : Nat) : Int)) (by omega) (by omega) (by omega)
  refine lv_istore (lv' := [(19, .int x1), (18, .int 0), (17, .int 0), (16, .int od), (15, .int mm), (14, .int aa), (13, .int kd), (11, .long bf), (10, .int nx), (9, .int kx), (8, .int 1), (7, .int on), (6, .int un), (5, .ref ri), (4, .ref rb), (3, .ref rr), (2, .ref ra), (1, .ref (z 0)), (0, .ref b)]) hx hb dL_law_265 hl (by decide) rfl (fun ls hl => ?_)
  refine lv_aload_n hx hb dL_law_267 rfl (lv_at hl 17 rfl) ?_
  refine lv_iload hx hb dL_law_268 (lv_at hl 5 rfl) ?_
  refine lv_iload hx hb dL_law_270 (lv_at hl 0 rfl) ?_
  refine lv_iload hx hb dL_law_272 (lv_at hl 4 rfl) ?_
  refine lv_iconst (v := 3) hx hb dL_law_274 (by decide) ?_
  refine lv_irem hx hb dL_law_275 (by decide) ?_
  refine lv_topi (fun x2 ex2 => ?_)
  have nx2 : x2.toInt = ((m9 % 3 : Nat) : Int) := kt_rem ex2 hmm (by decide : (3 : Int32).toInt = ((3 : Nat) : Int)) (by omega) (by omega) (by omega)
  refine kcallhI (kSthW (n := 4) (As := [.ref (z 0), .int aa, .int x1, .int x2]) (rest := []) F hE hNc hK hP hD hS hA (kh_order l g e0 S _ (z 0) aa x1 x2 _ _ hI.ob0 (c_X5_order_x l hl0 g e0 z S _ hI av lv q hR hW (m9 % 9) (m9 % 3) aa x1 x2 (kt_of nx1 (by omega)) (kt_of nx2 (by omega)) (by omega) (by omega)) (fun E h => h)) kw_292 kw_293 kw_61 kw_294 (by decide +kernel) ⟨Nat.le_of_ble_eq_true rfl, Nat.le_of_ble_eq_true rfl⟩ rfl hl.1 rfl (Nat.le_of_ble_eq_true rfl) dL_law_276 ⟨(by show k0 + 3 ≤ 1072639; omega), (by show n0 + 27 ≤ 5883708; omega)⟩) rfl hD hS hA (fun r3 S1 H locs hp hP hDs hD1 hq3x hf1 hS => ?_)
  clear hq3x
  have hO9x := kO_keep hO hdis hf1
  have hdis9 := kdis_keep hO hdis hDs
  rcases hp with hp | hp
  · have hO := hO9x
    have hdis := hdis9
    have hD := hD1
    obtain ⟨hI1, a2, ha2, ea2, b1, b2, b3, b4, hx9, er⟩ := hp
    obtain rfl : a = a2 := nI_inj (by omega) (by omega) ((kt_of haa (by omega)).symm.trans ea2)
    obtain ⟨lv, hR1⟩ : ∃ l9 : Nat → Nat, Rq z av l9 S1 (q_come a (m9 % 9) (m9 % 3) q) := hx9.elim fun x h => ⟨_, h⟩
    clear hx9
    obtain ⟨q1, hq1⟩ : ∃ q9 : qS, q9 = q_come a (m9 % 9) (m9 % 3) q := ⟨_, rfl⟩
    rw [← hq1] at hR1
    have hW1 : q_W q1 := by rw [hq1]; exact q_come_W hW ha2 b3 b1 b2 b4
    have hL1 : q_L q1 := q_L_of hL (fun k hk i => by rw [hq1]; exact q_come_o (q_mem (P := fun k => k ∉ [14, 21, 22, 23, 24, 25, 42, 43, 44, 73]) hk (by decide)))
    have hU1 : q_U q1 = q_U q := q_U_of (fun k hk i => by rw [hq1]; exact q_come_o (q_mem (P := fun k => k ∉ [14, 21, 22, 23, 24, 25, 42, 43, 44, 73]) hk (by decide)))
    have f73 : q1 73 0 = q 73 0 + 1 := by rw [hq1]; exact q_come_73
    have f24 : q1 24 (q 73 0) = 111 := by rw [hq1]; exact q_come_24
    have f23 : q1 23 (q 73 0) = m9 % 9 := by rw [hq1]; exact q_come_23
    have f25 : q1 25 (q 73 0) = 0 := by rw [hq1]; exact q_come_25
    have f21n : q1 21 (q 73 0) = a := by rw [hq1]; exact q_come_21
    have f21 : ∀ n, n ≠ q 73 0 → q1 21 n = q 21 n := fun n hn => by rw [hq1]; exact q_come_i (Or.inl rfl) hn
    have fk : ∀ k, k ∈ [10, 11, 1] → ∀ i, q1 k i = q k i := fun k hk i => by rw [hq1]; exact q_come_o (q_mem (P := fun k => k ∉ [14, 21, 22, 23, 24, 25, 42, 43, 44, 73]) hk (by decide))
    have nr3 : r3.toInt = ((q 73 0 : Nat) : Int) := kt_nI er (by omega)
    have hI := hI1
    have hR := hR1
    have hW := hW1
    have hL := hL1
    clear hro hroom h57 h56
    have h721 : q1 72 0 = 3 := hL.1
    have h72 : q1 72 0 ≤ 12 := by omega
    have h73 : q1 73 0 ≤ 12 := hW.1.1.2.1
    have hro : q1 42 0 ≤ 504 := q_room hW.1.1 hW.1.2.2.2.1 hW.1.2.2.2.2.1
    have hroom : q1 42 0 < 516 := by omega
    have h57 : q1 57 0 ≤ 20 := hW.1.2.2.2.2.1.1
    have h56 : q1 56 0 ≤ 1439 := hL.2.2.2.2.2.1
    have h25 : ∀ i, i < q1 73 0 → q1 25 i < 2 ^ 31 := fun i hi => by have := (hW.1.2.2.1 i hi).2.2.2; omega
    have hU5 : q_U q1 ≤ 5000 := by omega
    refine lv_istore (lv' := [(17, .int r3), (19, .int x1), (18, .int 0), (16, .int od), (15, .int mm), (14, .int aa), (13, .int kd), (11, .long bf), (10, .int nx), (9, .int kx), (8, .int 1), (7, .int on), (6, .int un), (5, .ref ri), (4, .ref rb), (3, .ref rr), (2, .ref ra), (1, .ref (z 0)), (0, .ref b)]) hx hb dL_law_279 hl (by decide) rfl (fun ls hl => ?_)
    refine lv_iload hx hb dL_law_281 (lv_at hl 0 rfl) ?_
    refine lv_if_ge (tgt := 290) hx hb dL_law_283 (by decide) (fun c4 => ?_) (fun c4 => ?_)
    · have d4 : (0) ≤ r3.toInt := (kc_le (by decide : (0 : Int32).toInt = 0) (rfl : r3.toInt = r3.toInt)).mp c4
      refine lv_iconst (v := 0) hx hb dL_law_290 (by decide) ?_
      refine lv_istore (lv' := [(18, .int 0), (17, .int r3), (19, .int x1), (16, .int od), (15, .int mm), (14, .int aa), (13, .int kd), (11, .long bf), (10, .int nx), (9, .int kx), (8, .int 1), (7, .int on), (6, .int un), (5, .ref ri), (4, .ref rb), (3, .ref rr), (2, .ref ra), (1, .ref (z 0)), (0, .ref b)]) hx hb dL_law_291 hl (by decide) rfl (fun ls hl => ?_)
      refine lv_iload hx hb dL_law_293 (lv_at hl 1 rfl) ?_
      refine lv_if_lt (tgt := 355) hx hb dL_law_295 (by decide) (fun c5 => ?_) (fun c5 => ?_)
      · have d5 : r3.toInt < (0) := (kc_lt (rfl : r3.toInt = r3.toInt) (by decide : (0 : Int32).toInt = 0)).mp c5
        exfalso; omega
      · have d5 : ¬ (r3.toInt < (0)) := mt (kc_lt (rfl : r3.toInt = r3.toInt) (by decide : (0 : Int32).toInt = 0)).mpr c5
        refine lv_aload hx hb dL_law_298 (lv_at hl 13 rfl) ?_
        refine lv_iload hx hb dL_law_300 (lv_at hl 1 rfl) ?_
        refine lv_iload hx hb dL_law_302 (lv_at hl 5 rfl) ?_
        refine rt2_I F hK hP hO hD hDO hdis hS oi (by rw [li]; exact kt_in nr3 (by omega) (by decide)) dL_law_304 (fun H locs hP hO hDO hS => ?_)
        rw [kt_clamp nr3 (by omega)] at hO hDO
        have hdis : kdis S1 (setX O ri (upd (pX O ri) (q 73 0) aa)) := hdis
        have hO9 := q_O_item hO9 fk rfl f73 f21 f21n (kt_of haa (by omega))
        obtain ⟨⟨oa, la⟩, ⟨orr, lr⟩, ⟨obb, lb⟩, ⟨oi, li⟩, hne, hra, hrb, hri⟩ := id hO9
        refine lv_iload hx hb dL_law_305 (lv_at hl 1 rfl) ?_
        refine lv_iload hx hb dL_law_307 (lv_at hl 11 rfl) ?_
        refine lv_icmp_ne (tgt := 349) hx hb dL_law_309 (by decide) (fun c6 => ?_) (fun c6 => ?_)
        · have d6 : r3.toInt ≠ on.toInt := mt (kc_eq (rfl : r3.toInt = r3.toInt) (rfl : on.toInt = on.toInt)).mpr c6
          exfalso; omega
        · have d6 : r3.toInt = on.toInt := (kc_eq (rfl : r3.toInt = r3.toInt) (rfl : on.toInt = on.toInt)).mp c6
          refine lv_aload_n hx hb dL_law_312 rfl (lv_at hl 17 rfl) ?_
          refine lv_iload hx hb dL_law_313 (lv_at hl 1 rfl) ?_
          refine kcallhI (kSthW (n := 2) (As := [.ref (z 0), .int r3]) (rest := []) F hE hNc hK hP hD hS hA (kh_state l g e0 S1 _ (z 0) r3 _ _ hI.ob0 (c_X5_state_x l hl0 g e0 z S1 _ hI av lv q1 hR h73 r3) (fun E h => h.1)) kw_260 kw_261 kw_61 kw_262 (by decide +kernel) ⟨Nat.le_of_ble_eq_true rfl, Nat.le_of_ble_eq_true rfl⟩ rfl hl.1 rfl (Nat.le_of_ble_eq_true rfl) dL_law_315 ⟨(by show k0 + 3 + 1 ≤ 1072639; omega), (by show n0 + 27 + 6 ≤ 5883708; omega)⟩) rfl hD hS hA (fun r7 T1 H locs hp hP hq1x hq2x hq3x hf1 hS => ?_)
          clear hq1x hq2x hq3x
          have hO := kO_keep hO hdis hf1
          obtain ⟨hT, nr7⟩ := kp_Ac (i := q 73 0) hp nr3 (by omega) (by omega) (by omega)
          subst hT
          clear hp
          refine lv_bipush (v := 111) hx hb dL_law_318 (by decide) ?_
          refine lv_icmp_ne (tgt := 349) hx hb dL_law_320 (by decide) (fun c8 => ?_) (fun c8 => ?_)
          · have d8 : r7.toInt ≠ (111) := mt (kc_eq (rfl : r7.toInt = r7.toInt) (by decide : (111 : Int32).toInt = 111)).mpr c8
            exfalso; omega
          · have d8 : r7.toInt = (111) := (kc_eq (rfl : r7.toInt = r7.toInt) (by decide : (111 : Int32).toInt = 111)).mp c8
            refine lv_aload_n hx hb dL_law_323 rfl (lv_at hl 17 rfl) ?_
            refine lv_iload hx hb dL_law_324 (lv_at hl 1 rfl) ?_
            refine kcallhI (kSthW (n := 2) (As := [.ref (z 0), .int r3]) (rest := []) F hE hNc hK hP hD hS hA (kh_amount l g e0 S1 _ (z 0) r3 _ _ hI.ob0 (c_X5_amount_x l hl0 g e0 z S1 _ hI av lv q1 hR h73 r3) (fun E h => h.1)) kw_273 kw_274 kw_61 kw_275 (by decide +kernel) ⟨Nat.le_of_ble_eq_true rfl, Nat.le_of_ble_eq_true rfl⟩ rfl hl.1 rfl (Nat.le_of_ble_eq_true rfl) dL_law_326 ⟨(by show k0 + 3 + 1 + 1 ≤ 1072639; omega), (by show n0 + 27 + 6 + 6 ≤ 5883708; omega)⟩) rfl hD hS hA (fun r9 T1 H locs hp hP hq1x hq2x hq3x hf1 hS => ?_)
            clear hq1x hq2x hq3x
            have hO := kO_keep hO hdis hf1
            obtain ⟨hT, nr9⟩ := kp_A (i := q 73 0) hp nr3 (by omega) (by omega) (by omega)
            subst hT
            clear hp
            refine lv_iload hx hb dL_law_329 (lv_at hl 2 rfl) ?_
            refine lv_icmp_ne (tgt := 349) hx hb dL_law_331 (by decide) (fun c10 => ?_) (fun c10 => ?_)
            · have d10 : r9.toInt ≠ x1.toInt := mt (kc_eq (rfl : r9.toInt = r9.toInt) (rfl : x1.toInt = x1.toInt)).mpr c10
              exfalso; omega
            · have d10 : r9.toInt = x1.toInt := (kc_eq (rfl : r9.toInt = r9.toInt) (rfl : x1.toInt = x1.toInt)).mp c10
              refine lv_aload_n hx hb dL_law_334 rfl (lv_at hl 17 rfl) ?_
              refine lv_iload hx hb dL_law_335 (lv_at hl 1 rfl) ?_
              refine kcallhI (kSthW (n := 2) (As := [.ref (z 0), .int r3]) (rest := []) F hE hNc hK hP hD hS hA (kh_waveOf l g e0 S1 _ (z 0) r3 _ _ hI.ob0 (c_X5_waveOf_x l hl0 g e0 z S1 _ hI av lv q1 hR h73 h25 r3) (fun E h => h.imp And.left And.left)) kw_281 kw_282 kw_61 kw_283 (by decide +kernel) ⟨Nat.le_of_ble_eq_true rfl, Nat.le_of_ble_eq_true rfl⟩ rfl hl.1 rfl (Nat.le_of_ble_eq_true rfl) dL_law_337 ⟨(by show k0 + 3 + 1 + 1 + 2 ≤ 1072639; omega), (by show n0 + 27 + 6 + 6 + 12 ≤ 5883708; omega)⟩) rfl hD hS hA (fun r11 T1 H locs hp hP hq1x hq2x hq3x hf1 hS => ?_)
              clear hq1x hq2x hq3x
              have hO := kO_keep hO hdis hf1
              obtain ⟨hT, vr11, ar11, br11⟩ := kp_W (i := q 73 0) hp nr3 (by omega) (by omega) (by omega)
              subst hT
              clear hp
              refine lv_bipush (v := (-75)) hx hb dL_law_340 (by decide) ?_
              refine lv_icmp_ne (tgt := 349) hx hb dL_law_342 (by decide) (fun c12 => ?_) (fun c12 => ?_)
              · have d12 : r11.toInt ≠ (-75) := mt (kc_eq (rfl : r11.toInt = r11.toInt) (by decide : (-75 : Int32).toInt = -75)).mpr c12
                exfalso; omega
              · have d12 : r11.toInt = (-75) := (kc_eq (rfl : r11.toInt = r11.toInt) (by decide : (-75 : Int32).toInt = -75)).mp c12
                refine lv_iconst (v := 1) hx hb dL_law_345 (by decide) ?_
                refine lv_goto (tgt := 350) hx hb dL_law_346 (by decide) ?_
                refine lv_istore (lv' := [(8, .int 1), (18, .int 0), (17, .int r3), (19, .int x1), (16, .int od), (15, .int mm), (14, .int aa), (13, .int kd), (11, .long bf), (10, .int nx), (9, .int kx), (7, .int on), (6, .int un), (5, .ref ri), (4, .ref rb), (3, .ref rr), (2, .ref ra), (1, .ref (z 0)), (0, .ref b)]) hx hb dL_law_350 hl (by decide) rfl (fun ls hl => ?_)
                obtain ⟨x13, ex13⟩ : ∃ y : Int32, y = on + 1 := ⟨_, rfl⟩
                refine lv_iinc (v := x13) (lv' := [(7, .int x13), (8, .int 1), (18, .int 0), (17, .int r3), (19, .int x1), (16, .int od), (15, .int mm), (14, .int aa), (13, .int kd), (11, .long bf), (10, .int nx), (9, .int kx), (6, .int un), (5, .ref ri), (4, .ref rb), (3, .ref rr), (2, .ref ra), (1, .ref (z 0)), (0, .ref b)]) hx hb dL_law_352 hl (k := 11) rfl (by rw [ex13]; rfl) (by decide) rfl (fun ls hl => ?_)
                have tx13 : x13.toInt = on.toInt + 1 := kt_add ex13 (rfl : on.toInt = on.toInt) (by decide) (by omega) (by omega)
                refine lv_goto (tgt := 1227) hx hb dL_law_355 (by decide) ?_
                exact kk S1 (setX O ri (upd (pX O ri) (q 73 0) aa)) av lv q1 _ _ ls _ _ 0 x13 un ⟨⟨F, hK, hE, hNc, hX, hbl⟩, ⟨hP, hO⟩, ⟨hD, hDO⟩, hdis, hS, ⟨hI, hR, hW, hL⟩, hO9⟩ (by omega) (Or.inl rfl) (by omega) (by omega) (by omega) (by omega) (lv_sub hl [2, 9, 10, 11, 1, 0, 12, 13, 14, 15, 16, 17, 18] rfl)
    · have d4 : ¬ ((0) ≤ r3.toInt) := mt (kc_le (by decide : (0 : Int32).toInt = 0) (rfl : r3.toInt = r3.toInt)).mpr c4
      exfalso; omega
  · have hO := hO9x
    obtain ⟨hT, hrx⟩ : S = S1 ∧ r3.toInt ≤ -75 := by rcases hp with ⟨e, -, h⟩ | ⟨e, -, h⟩ | ⟨e, -, h⟩ <;> exact ⟨h.symm, by rw [e]; decide⟩
    subst hT
    clear hp
    refine lv_istore (lv' := [(17, .int r3), (19, .int x1), (18, .int 0), (16, .int od), (15, .int mm), (14, .int aa), (13, .int kd), (11, .long bf), (10, .int nx), (9, .int kx), (8, .int 1), (7, .int on), (6, .int un), (5, .ref ri), (4, .ref rb), (3, .ref rr), (2, .ref ra), (1, .ref (z 0)), (0, .ref b)]) hx hb dL_law_279 hl (by decide) rfl (fun ls hl => ?_)
    refine lv_iload hx hb dL_law_281 (lv_at hl 0 rfl) ?_
    refine lv_if_ge (tgt := 290) hx hb dL_law_283 (by decide) (fun c14 => ?_) (fun c14 => ?_)
    · have d14 : (0) ≤ r3.toInt := (kc_le (by decide : (0 : Int32).toInt = 0) (rfl : r3.toInt = r3.toInt)).mp c14
      exfalso; omega
    · have d14 : ¬ ((0) ≤ r3.toInt) := mt (kc_le (by decide : (0 : Int32).toInt = 0) (rfl : r3.toInt = r3.toInt)).mpr c14
      refine lv_iconst (v := 1) hx hb dL_law_286 (by decide) ?_
      refine lv_goto (tgt := 291) hx hb dL_law_287 (by decide) ?_
      refine lv_istore (lv' := [(18, .int 1), (17, .int r3), (19, .int x1), (16, .int od), (15, .int mm), (14, .int aa), (13, .int kd), (11, .long bf), (10, .int nx), (9, .int kx), (8, .int 1), (7, .int on), (6, .int un), (5, .ref ri), (4, .ref rb), (3, .ref rr), (2, .ref ra), (1, .ref (z 0)), (0, .ref b)]) hx hb dL_law_291 hl (by decide) rfl (fun ls hl => ?_)
      refine lv_iload hx hb dL_law_293 (lv_at hl 1 rfl) ?_
      refine lv_if_lt (tgt := 355) hx hb dL_law_295 (by decide) (fun c15 => ?_) (fun c15 => ?_)
      · have d15 : r3.toInt < (0) := (kc_lt (rfl : r3.toInt = r3.toInt) (by decide : (0 : Int32).toInt = 0)).mp c15
        refine lv_goto (tgt := 1227) hx hb dL_law_355 (by decide) ?_
        exact kk S O av lv q _ _ ls _ _ 1 on un ⟨⟨F, hK, hE, hNc, hX, hbl⟩, ⟨hP, hO⟩, ⟨hD, hDO⟩, hdis, hS, ⟨hI, hR, hW, hL⟩, hO9⟩ (by omega) (Or.inr ⟨rfl, rfl⟩) (by omega) (by omega) (by omega) (by omega) (lv_sub hl [0, 7, 8, 9, 10, 11, 12, 13, 14, 15, 16, 17, 18] rfl)
      · have d15 : ¬ (r3.toInt < (0)) := mt (kc_lt (rfl : r3.toInt = r3.toInt) (by decide : (0 : Int32).toInt = 0)).mpr c15
        exfalso; omega
