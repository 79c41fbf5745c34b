set_option maxHeartbeats 8000000 in
set_option maxRecDepth 100000 in
theorem kjoin {p : Program} {l : Launch} {e : Env} {s : State} {m : MethodId} {below : List Frame} {meth : Method} {c : Code} {b L : Nat} {xs : Nat → Int32} {g : kG} {e0 : Nat} {z av lv : Nat → Nat} {S O : wPS} {q : qS} {ra rr rb ri : Nat} {H : Heap} {locs : List Loc} {k0 n0 : Nat} {Q : State → Prop} {ls : Array Slot} (hl0 : l.stackTraces = false) (hL9 : L ≤ 260) (C : kLw p s m c b L xs g e0 z av lv S O q ra rr rb ri H locs) (hU : q_U q ≤ 4000) (hk0 : k0 + 1000 ≤ 1072639) (hn0 : n0 + 6000 ≤ 5883708) {th nx kx on un : Int32} {bf : Int64} {n ki : Nat} (hth : th = 0 ∨ (th = 1 ∧ q_sm q = bf)) (hon : on.toInt = ((q 73 0 : Nat) : Int)) (hun : un.toInt = ((q_U q : Nat) : Int)) (hkx : kx.toInt = ((ki : Nat) : Int)) (hki : ki ≤ 10000) (hnx : nx.toInt = ((n : Nat) : Int)) (hn : n ≤ 10000) (hl : lv_has ls 23 [(18, .int th), (11, .long bf), (10, .int nx), (9, .int kx), (8, .int 1), (7, .int on), (6, .int un), (5, .ref ri), (4, .ref rb), (3, .ref rr), (2, .ref ra), (1, .ref (z 0)), (0, .ref b)])
    (kk : ∀ (H1 : Heap) (locs1 : List Loc) (ls1 : Array Slot) (k1 n1 : Nat) (kx1 nx1 : Int32), kLw p s m c b L xs g e0 z av lv S O q ra rr rb ri H1 locs1 → kx1.toInt = ((ki + 3 : Nat) : Int) → nx1.toInt = ((n + 1 : Nat) : Int) → k1 ≤ k0 + 1000 → n1 ≤ n0 + 6000 → lv_has ls1 23 [(10, .int nx1), (9, .int kx1), (8, .int 1), (7, .int on), (6, .int un), (5, .ref ri), (4, .ref rb), (3, .ref rr), (2, .ref ra), (1, .ref (z 0)), (0, .ref b)] → W p l e room_1 s m #[Value.ref b] below meth c H1 locs1 k1 n1 Q (F0 m 153 ls1 [])) :
    W p l e room_1 s m #[Value.ref b] below meth c H locs k0 n0 Q (F0 m 1227 ls []) := by
  obtain ⟨⟨F, hK, hE, hNc, hX, hbl⟩, ⟨hP, hO⟩, ⟨hD, hDO⟩, hdis, hS, ⟨hI, hR, hW, hL⟩, hO9⟩ := C
  have hx := F.1
  have hb := F.2.1
  have hbA : ¬ kAs s b := Nat.not_le.mpr hbl
  have hA : ∀ q : Nat, s.heap.size ≤ q → kAs s q := fun _ h => h
  have hU5 : q_U q ≤ 5000 := by omega
  have h721 : q 72 0 = 3 := hL.1
  have h72 : q 72 0 ≤ 12 := by omega
  have h73 : q 73 0 ≤ 12 := hW.1.1.2.1
  have hro : q 42 0 ≤ 504 := q_room hW.1.1 hW.1.2.2.2.1 hW.1.2.2.2.2.1
  have hroom : q 42 0 < 516 := by omega
  have h57 : q 57 0 ≤ 20 := hW.1.2.2.2.2.1.1
  have h56 : q 56 0 ≤ 1439 := hL.2.2.2.2.2.1
  have h25 : ∀ i, i < q 73 0 → q 25 i < 2 ^ 31 := fun i hi => by have := (hW.1.2.2.1 i hi).2.2.2; omega
  obtain ⟨⟨oa, la⟩, ⟨orr, lr⟩, ⟨obb, lb⟩, ⟨oi, li⟩, hne, hra, hrb, hri⟩ := id hO9
  rcases hth with rfl | ⟨rfl, hsm⟩
  · obtain ⟨x1, ex1⟩ : ∃ y : Int32, y = kx + 3 := ⟨_, rfl⟩
    refine lv_iinc (v := x1) (lv' := [(9, .int x1), (18, .int 0), (11, .long bf), (10, .int nx), (8, .int 1), (7, .int on), (6, .int un), (5, .ref ri), (4, .ref rb), (3, .ref rr), (2, .ref ra), (1, .ref (z 0)), (0, .ref b)]) hx hb dL_law_1227 hl (k := 3) rfl (by rw [ex1]; rfl) (by decide) rfl (fun ls hl => ?_)
    have tx1 : x1.toInt = kx.toInt + 3 := kt_add ex1 (rfl : kx.toInt = kx.toInt) (by decide) (by omega) (by omega)
    refine lv_iload hx hb dL_law_1230 (lv_at hl 4 rfl) ?_
    refine lv_iload hx hb dL_law_1232 (lv_at hl 1 rfl) ?_
    refine lv_if_eq (tgt := 1247) hx hb dL_law_1234 (by decide) (fun c2 => ?_) (fun c2 => ?_)
    · refine lv_iconst (v := 1) hx hb dL_law_1247 (by decide) ?_
      refine lv_goto (tgt := 1252) hx hb dL_law_1248 (by decide) ?_
      refine lv_iand hx hb dL_law_1252 ?_
      refine lv_topi (fun x3 e3 => ?_)
      obtain rfl : x3 = 1 := e3.trans (by decide)
      refine lv_istore (lv' := [(8, .int 1), (9, .int x1), (18, .int 0), (11, .long bf), (10, .int nx), (7, .int on), (6, .int un), (5, .ref ri), (4, .ref rb), (3, .ref rr), (2, .ref ra), (1, .ref (z 0)), (0, .ref b)]) hx hb dL_law_1253 hl (by decide) rfl (fun ls hl => ?_)
      refine lv_iload hx hb dL_law_1255 (lv_at hl 0 rfl) ?_
      refine lv_aload_n hx hb dL_law_1257 rfl (lv_at hl 11 rfl) ?_
      refine lv_iload hx hb dL_law_1258 (lv_at hl 6 rfl) ?_
      refine lv_aload_n hx hb dL_law_1260 rfl (lv_at hl 9 rfl) ?_
      refine kcallv (kStv (n := 3) (As := [.ref (z 0), .int un, .ref rr]) (rest := [.int 1]) F hE hNc hK hP hO hD hDO hdis hS hA (c_L_areStocks l hl0 g e0 z av lv S O _ q hI hR hW hL hU5 ra rr rb ri un hO9 hun) kw_485 kw_486 kw_61 kw_487 (by decide +kernel) ⟨Nat.le_of_ble_eq_true rfl, Nat.le_of_ble_eq_true rfl⟩ rfl hl.1 rfl (Nat.le_of_ble_eq_true rfl) dL_law_1261 ⟨(by show k0 + 45 ≤ 1072639; omega), (by show n0 + 270 ≤ 5883708; omega)⟩) rfl hD hDO hS hA (fun v9 H locs hp hP hO hS => ?_)
      subst hp
      refine lv_if_eq (tgt := 1285) hx hb dL_law_1264 (by decide) (fun c4 => ?_) (fun c4 => ?_)
      · exact absurd c4 (by decide)
      · refine lv_aload_n hx hb dL_law_1267 rfl (lv_at hl 11 rfl) ?_
        refine lv_iload hx hb dL_law_1268 (lv_at hl 5 rfl) ?_
        refine lv_aload hx hb dL_law_1270 (lv_at hl 7 rfl) ?_
        refine lv_aload_n hx hb dL_law_1272 rfl (lv_at hl 10 rfl) ?_
        refine lv_aload hx hb dL_law_1273 (lv_at hl 8 rfl) ?_
        refine kcallv (kStv (n := 5) (As := [.ref (z 0), .int on, .ref ri, .ref ra, .ref rb]) (rest := [.int 1]) F hE hNc hK hP hO hD hDO hdis hS hA (c_L_areOrders l hl0 g e0 z av lv S O _ q hI hR hW hL hU5 ra rr rb ri on hO9 hon) kw_504 kw_505 kw_61 kw_506 (by decide +kernel) ⟨Nat.le_of_ble_eq_true rfl, Nat.le_of_ble_eq_true rfl⟩ rfl hl.1 rfl (Nat.le_of_ble_eq_true rfl) dL_law_1275 ⟨(by show k0 + 45 + 79 ≤ 1072639; omega), (by show n0 + 270 + 471 ≤ 5883708; omega)⟩) rfl hD hDO hS hA (fun v9 H locs hp hP hO hS => ?_)
        subst hp
        refine lv_if_eq (tgt := 1285) hx hb dL_law_1278 (by decide) (fun c5 => ?_) (fun c5 => ?_)
        · exact absurd c5 (by decide)
        · refine lv_iconst (v := 1) hx hb dL_law_1281 (by decide) ?_
          refine lv_goto (tgt := 1286) hx hb dL_law_1282 (by decide) ?_
          refine lv_iand hx hb dL_law_1286 ?_
          refine lv_topi (fun x6 e6 => ?_)
          obtain rfl : x6 = 1 := e6.trans (by decide)
          refine lv_istore (lv' := [(8, .int 1), (9, .int x1), (18, .int 0), (11, .long bf), (10, .int nx), (7, .int on), (6, .int un), (5, .ref ri), (4, .ref rb), (3, .ref rr), (2, .ref ra), (1, .ref (z 0)), (0, .ref b)]) hx hb dL_law_1287 hl (by decide) rfl (fun ls hl => ?_)
          obtain ⟨x7, ex7⟩ : ∃ y : Int32, y = nx + 1 := ⟨_, rfl⟩
          refine lv_iinc (v := x7) (lv' := [(10, .int x7), (8, .int 1), (9, .int x1), (18, .int 0), (11, .long bf), (7, .int on), (6, .int un), (5, .ref ri), (4, .ref rb), (3, .ref rr), (2, .ref ra), (1, .ref (z 0)), (0, .ref b)]) hx hb dL_law_1289 hl (k := 4) rfl (by rw [ex7]; rfl) (by decide) rfl (fun ls hl => ?_)
          have tx7 : x7.toInt = nx.toInt + 1 := kt_add ex7 (rfl : nx.toInt = nx.toInt) (by decide) (by omega) (by omega)
          refine lv_goto (tgt := 153) hx hb dL_law_1292 (by decide) ?_
          exact kk _ _ ls _ _ x1 x7 ⟨⟨F, hK, hE, hNc, hX, hbl⟩, ⟨hP, hO⟩, ⟨hD, hDO⟩, hdis, hS, ⟨hI, hR, hW, hL⟩, hO9⟩ (by omega) (by omega) (by omega) (by omega) (lv_sub hl [0, 2, 1, 5, 6, 7, 8, 9, 10, 11, 12] rfl)
    · exact absurd (by decide) c2
  · obtain ⟨x8, ex8⟩ : ∃ y : Int32, y = kx + 3 := ⟨_, rfl⟩
    refine lv_iinc (v := x8) (lv' := [(9, .int x8), (18, .int 1), (11, .long bf), (10, .int nx), (8, .int 1), (7, .int on), (6, .int un), (5, .ref ri), (4, .ref rb), (3, .ref rr), (2, .ref ra), (1, .ref (z 0)), (0, .ref b)]) hx hb dL_law_1227 hl (k := 3) rfl (by rw [ex8]; rfl) (by decide) rfl (fun ls hl => ?_)
    have tx8 : x8.toInt = kx.toInt + 3 := kt_add ex8 (rfl : kx.toInt = kx.toInt) (by decide) (by omega) (by omega)
    refine lv_iload hx hb dL_law_1230 (lv_at hl 4 rfl) ?_
    refine lv_iload hx hb dL_law_1232 (lv_at hl 1 rfl) ?_
    refine lv_if_eq (tgt := 1247) hx hb dL_law_1234 (by decide) (fun c9 => ?_) (fun c9 => ?_)
    · exact absurd c9 (by decide)
    · refine lv_aload_n hx hb dL_law_1237 rfl (lv_at hl 11 rfl) ?_
      refine kcallv (kStv (n := 1) (As := [.ref (z 0)]) (rest := [.int 1]) F hE hNc hK hP hO hD hDO hdis hS hA (c_L_sum l hl0 g e0 z av lv S O _ q hI hR hW hL hU5) kw_155 kw_156 kw_61 kw_157 (by decide +kernel) ⟨Nat.le_of_ble_eq_true rfl, Nat.le_of_ble_eq_true rfl⟩ rfl hl.1 rfl (Nat.le_of_ble_eq_true rfl) dL_law_1238 ⟨(by show k0 + 65 ≤ 1072639; omega), (by show n0 + 390 ≤ 5883708; omega)⟩) rfl hD hDO hS hA (fun v9 H locs hp hP hO hS => ?_)
      subst hp
      refine lv_lload hx hb dL_law_1241 (lv_at hl 2 rfl) ?_
      refine W.lcmp hx hb dL_law_1243 ?_
      refine lv_if_ne (tgt := 1251) hx hb dL_law_1244 (by decide) (fun c10 => ?_) (fun c10 => ?_)
      · exact absurd ((lg_cmp_eq _ _).mpr hsm) c10
      · refine lv_iconst (v := 1) hx hb dL_law_1247 (by decide) ?_
        refine lv_goto (tgt := 1252) hx hb dL_law_1248 (by decide) ?_
        refine lv_iand hx hb dL_law_1252 ?_
        refine lv_topi (fun x11 e11 => ?_)
        obtain rfl : x11 = 1 := e11.trans (by decide)
        refine lv_istore (lv' := [(8, .int 1), (9, .int x8), (18, .int 1), (11, .long bf), (10, .int nx), (7, .int on), (6, .int un), (5, .ref ri), (4, .ref rb), (3, .ref rr), (2, .ref ra), (1, .ref (z 0)), (0, .ref b)]) hx hb dL_law_1253 hl (by decide) rfl (fun ls hl => ?_)
        refine lv_iload hx hb dL_law_1255 (lv_at hl 0 rfl) ?_
        refine lv_aload_n hx hb dL_law_1257 rfl (lv_at hl 11 rfl) ?_
        refine lv_iload hx hb dL_law_1258 (lv_at hl 6 rfl) ?_
        refine lv_aload_n hx hb dL_law_1260 rfl (lv_at hl 9 rfl) ?_
        refine kcallv (kStv (n := 3) (As := [.ref (z 0), .int un, .ref rr]) (rest := [.int 1]) F hE hNc hK hP hO hD hDO hdis hS hA (c_L_areStocks l hl0 g e0 z av lv S O _ q hI hR hW hL hU5 ra rr rb ri un hO9 hun) kw_485 kw_486 kw_61 kw_487 (by decide +kernel) ⟨Nat.le_of_ble_eq_true rfl, Nat.le_of_ble_eq_true rfl⟩ rfl hl.1 rfl (Nat.le_of_ble_eq_true rfl) dL_law_1261 ⟨(by show k0 + 65 + 45 ≤ 1072639; omega), (by show n0 + 390 + 270 ≤ 5883708; omega)⟩) rfl hD hDO hS hA (fun v9 H locs hp hP hO hS => ?_)
        subst hp
        refine lv_if_eq (tgt := 1285) hx hb dL_law_1264 (by decide) (fun c12 => ?_) (fun c12 => ?_)
        · exact absurd c12 (by decide)
        · refine lv_aload_n hx hb dL_law_1267 rfl (lv_at hl 11 rfl) ?_
          refine lv_iload hx hb dL_law_1268 (lv_at hl 5 rfl) ?_
          refine lv_aload hx hb dL_law_1270 (lv_at hl 7 rfl) ?_
          refine lv_aload_n hx hb dL_law_1272 rfl (lv_at hl 10 rfl) ?_
          refine lv_aload hx hb dL_law_1273 (lv_at hl 8 rfl) ?_
          refine kcallv (kStv (n := 5) (As := [.ref (z 0), .int on, .ref ri, .ref ra, .ref rb]) (rest := [.int 1]) F hE hNc hK hP hO hD hDO hdis hS hA (c_L_areOrders l hl0 g e0 z av lv S O _ q hI hR hW hL hU5 ra rr rb ri on hO9 hon) kw_504 kw_505 kw_61 kw_506 (by decide +kernel) ⟨Nat.le_of_ble_eq_true rfl, Nat.le_of_ble_eq_true rfl⟩ rfl hl.1 rfl (Nat.le_of_ble_eq_true rfl) dL_law_1275 ⟨(by show k0 + 65 + 45 + 79 ≤ 1072639; omega), (by show n0 + 390 + 270 + 471 ≤ 5883708; omega)⟩) rfl hD hDO hS hA (fun v9 H locs hp hP hO hS => ?_)
          subst hp
          refine lv_if_eq (tgt := 1285) hx hb dL_law_1278 (by decide) (fun c13 => ?_) (fun c13 => ?_)
          · exact absurd c13 (by decide)
          · refine lv_iconst (v := 1) hx hb dL_law_1281 (by decide) ?_
            refine lv_goto (tgt := 1286) hx hb dL_law_1282 (by decide) ?_
            refine lv_iand hx hb dL_law_1286 ?_
            refine lv_topi (fun x14 e14 => ?_)
            obtain rfl : x14 = 1 := e14.trans (by decide)
            refine lv_istore (lv' := [(8, .int 1), (9, .int x8), (18, .int 1), (11, .long bf), (10, .int nx), (7, .int on), (6, .int un), (5, .ref ri), (4, .ref rb), (3, .ref rr), (2, .ref ra), (1, .ref (z 0)), (0, .ref b)]) hx hb dL_law_1287 hl (by decide) rfl (fun ls hl => ?_)
            obtain ⟨x15, ex15⟩ : ∃ y : Int32, y = nx + 1 := ⟨_, rfl⟩
            refine lv_iinc (v := x15) (lv' := [(10, .int x15), (8, .int 1), (9, .int x8), (18, .int 1), (11, .long bf), (7, .int on), (6, .int un), (5, .ref ri), (4, .ref rb), (3, .ref rr), (2, .ref ra), (1, .ref (z 0)), (0, .ref b)]) hx hb dL_law_1289 hl (k := 4) rfl (by rw [ex15]; rfl) (by decide) rfl (fun ls hl => ?_)
            have tx15 : x15.toInt = nx.toInt + 1 := kt_add ex15 (rfl : nx.toInt = nx.toInt) (by decide) (by omega) (by omega)
            refine lv_goto (tgt := 153) hx hb dL_law_1292 (by decide) ?_
            exact kk _ _ ls _ _ x8 x15 ⟨⟨F, hK, hE, hNc, hX, hbl⟩, ⟨hP, hO⟩, ⟨hD, hDO⟩, hdis, hS, ⟨hI, hR, hW, hL⟩, hO9⟩ (by omega) (by omega) (by omega) (by omega) (lv_sub hl [0, 2, 1, 5, 6, 7, 8, 9, 10, 11, 12] rfl)
