/-- a loop over a list: within it, the count is a place of the list -/
theorem klp {T : wPS} {e0 q kd n i : Nat} {x r : Int32} (hL : LI T e0 q kd n) (hn : n ≤ 12 ∧ i ≤ n) (hi : x = nI i) (hr : r = pF T 72 q) (c : ¬ r ≤ x) : i < n ∧ ¬ x < 0 ∧ x < pF T 72 q := by
  rw [hL.1] at hr ⊢
  subst hi hr
  have h : i < n := by
    rcases Nat.lt_or_ge i n with h | h
    · exact h
    · exact absurd (nI_le h (by omega)) c
  exact ⟨h, Int32.not_lt.mpr (nI_le (a := 0) (Nat.zero_le i) (by omega)), nI_lt h (by omega)⟩
theorem dX5_stock_0 : decode cX5_stock 0 = .ok (.aload_n 0, 1) := by decide +kernel
theorem dX5_stock_1 : decode cX5_stock 1 = .ok (.iload_n 1, 1) := by decide +kernel
theorem dX5_stock_2 : decode cX5_stock 2 = .ok (.invokevirtual 83, 3) := by decide +kernel
theorem dX5_stock_5 : decode cX5_stock 5 = .ok (.getfield 87, 3) := by decide +kernel
theorem dX5_stock_8 : decode cX5_stock 8 = .ok (.ireturn, 1) := by decide +kernel
set_option maxHeartbeats 4000000 in
set_option maxRecDepth 100000 in
theorem c_X5_stock (l : Launch) (hl0 : l.stackTraces = false) (g : kG) (e0 : Nat) (z : Nat → Nat) (S : wPS) (sz : Nat) (hI : Inv z e0 S) (n : Int32) : kM l g e0 yX5_stock cX5_stock 2 (some .int) 7 103 1 6 [.ref (z 0), .int n] S sz (pI (fun r T => T = S ∧ ¬ n < 0 ∧ n < pF S 72 (z 10))) (fun E => E = xI ∧ (n < 0 ∨ ¬ n < pF S 72 (z 10))) := by
  refine kM.of (by decide) (Nat.le_of_ble_eq_true rfl) ?_
  intro p e s m below meth c ls B hin
  obtain ⟨F, hr, hlk, hte, hP, hK, hD, hE, hS, hA, hl, hsz⟩ := B
  subst hsz
  have hx := F.1
  have hb := F.2.1
  have hl : lv_has ls 2 [(0, .ref (z 0)), (1, .int n)] := hl
  refine lv_aload_n hx hb dX5_stock_0 rfl (lv_at hl 0 rfl) ?_
  refine lv_iload_n hx hb dX5_stock_1 rfl (lv_at hl 1 rfl) ?_
  refine kcallR (kV (n := 1) (As := [.int n]) (rest := []) (b := (z 0)) (C := RX5) F hE hK hP hD hS hA (c_X5_findArticle l hl0 g e0 z S _ hI n) (rr_Pickwave hK hP (hI.1.1 0 (by decide))) kw_196 kw_197 kw_198 kw_2 kw_199 (by decide +kernel) ⟨Nat.le_of_ble_eq_true rfl, Nat.le_of_ble_eq_true rfl⟩ rfl hl.1 rfl (Nat.le_of_ble_eq_true rfl) dX5_stock_2 ⟨Nat.le_of_ble_eq_true rfl, Nat.le_of_ble_eq_true rfl⟩) rfl hD hS hA (fun E ce q9 H1 locs1 hex hP1 hS1 hce hcv hcl => kthru hte hlk (hex) hP1 hS1 hce hcv hcl (Nat.le_of_ble_eq_true rfl) (Nat.le_of_ble_eq_true rfl)) (fun b1 T1 H locs hp hP hD hS => ?_)
  obtain ⟨hT, hp2⟩ := hp
  have hT := hT.symm
  subst hT
  refine rg_Article_stock F hK hP hp2.1 kw_195 dX5_stock_5 ?_
  refine lv_topi (fun x3 ex3 => ?_)
  exact kEndI F hr rfl hlk hP hD hS (Nat.le_of_ble_eq_true rfl) (Nat.le_of_ble_eq_true rfl) dX5_stock_8 ⟨_, rfl, ⟨rfl, hp2.2⟩⟩
theorem dX5_reserve_0 : decode cX5_reserve 0 = .ok (.aload_n 0, 1) := by decide +kernel
theorem dX5_reserve_1 : decode cX5_reserve 1 = .ok (.iload_n 1, 1) := by decide +kernel
theorem dX5_reserve_2 : decode cX5_reserve 2 = .ok (.invokevirtual 83, 3) := by decide +kernel
theorem dX5_reserve_5 : decode cX5_reserve 5 = .ok (.getfield 91, 3) := by decide +kernel
theorem dX5_reserve_8 : decode cX5_reserve 8 = .ok (.ireturn, 1) := by decide +kernel
set_option maxHeartbeats 4000000 in
set_option maxRecDepth 100000 in
theorem c_X5_reserve (l : Launch) (hl0 : l.stackTraces = false) (g : kG) (e0 : Nat) (z : Nat → Nat) (S : wPS) (sz : Nat) (hI : Inv z e0 S) (n : Int32) : kM l g e0 yX5_reserve cX5_reserve 2 (some .int) 7 103 1 6 [.ref (z 0), .int n] S sz (pI (fun r T => T = S ∧ ¬ n < 0 ∧ n < pF S 72 (z 10))) (fun E => E = xI ∧ (n < 0 ∨ ¬ n < pF S 72 (z 10))) := by
  refine kM.of (by decide) (Nat.le_of_ble_eq_true rfl) ?_
  intro p e s m below meth c ls B hin
  obtain ⟨F, hr, hlk, hte, hP, hK, hD, hE, hS, hA, hl, hsz⟩ := B
  subst hsz
  have hx := F.1
  have hb := F.2.1
  have hl : lv_has ls 2 [(0, .ref (z 0)), (1, .int n)] := hl
  refine lv_aload_n hx hb dX5_reserve_0 rfl (lv_at hl 0 rfl) ?_
  refine lv_iload_n hx hb dX5_reserve_1 rfl (lv_at hl 1 rfl) ?_
  refine kcallR (kV (n := 1) (As := [.int n]) (rest := []) (b := (z 0)) (C := RX5) F hE hK hP hD hS hA (c_X5_findArticle l hl0 g e0 z S _ hI n) (rr_Pickwave hK hP (hI.1.1 0 (by decide))) kw_196 kw_197 kw_198 kw_2 kw_199 (by decide +kernel) ⟨Nat.le_of_ble_eq_true rfl, Nat.le_of_ble_eq_true rfl⟩ rfl hl.1 rfl (Nat.le_of_ble_eq_true rfl) dX5_reserve_2 ⟨Nat.le_of_ble_eq_true rfl, Nat.le_of_ble_eq_true rfl⟩) rfl hD hS hA (fun E ce q9 H1 locs1 hex hP1 hS1 hce hcv hcl => kthru hte hlk (hex) hP1 hS1 hce hcv hcl (Nat.le_of_ble_eq_true rfl) (Nat.le_of_ble_eq_true rfl)) (fun b1 T1 H locs hp hP hD hS => ?_)
  obtain ⟨hT, hp2⟩ := hp
  have hT := hT.symm
  subst hT
  refine rg_Article_reserve F hK hP hp2.1 kw_234 dX5_reserve_5 ?_
  refine lv_topi (fun x3 ex3 => ?_)
  exact kEndI F hr rfl hlk hP hD hS (Nat.le_of_ble_eq_true rfl) (Nat.le_of_ble_eq_true rfl) dX5_reserve_8 ⟨_, rfl, ⟨rfl, hp2.2⟩⟩
theorem dX5_promised_0 : decode cX5_promised 0 = .ok (.aload_n 0, 1) := by decide +kernel
theorem dX5_promised_1 : decode cX5_promised 1 = .ok (.iload_n 1, 1) := by decide +kernel
theorem dX5_promised_2 : decode cX5_promised 2 = .ok (.invokevirtual 83, 3) := by decide +kernel
theorem dX5_promised_5 : decode cX5_promised 5 = .ok (.getfield 97, 3) := by decide +kernel
theorem dX5_promised_8 : decode cX5_promised 8 = .ok (.ireturn, 1) := by decide +kernel
set_option maxHeartbeats 4000000 in
set_option maxRecDepth 100000 in
theorem c_X5_promised (l : Launch) (hl0 : l.stackTraces = false) (g : kG) (e0 : Nat) (z : Nat → Nat) (S : wPS) (sz : Nat) (hI : Inv z e0 S) (n : Int32) : kM l g e0 yX5_promised cX5_promised 2 (some .int) 7 103 1 6 [.ref (z 0), .int n] S sz (pI (fun r T => T = S ∧ ¬ n < 0 ∧ n < pF S 72 (z 10))) (fun E => E = xI ∧ (n < 0 ∨ ¬ n < pF S 72 (z 10))) := by
  refine kM.of (by decide) (Nat.le_of_ble_eq_true rfl) ?_
  intro p e s m below meth c ls B hin
  obtain ⟨F, hr, hlk, hte, hP, hK, hD, hE, hS, hA, hl, hsz⟩ := B
  subst hsz
  have hx := F.1
  have hb := F.2.1
  have hl : lv_has ls 2 [(0, .ref (z 0)), (1, .int n)] := hl
  refine lv_aload_n hx hb dX5_promised_0 rfl (lv_at hl 0 rfl) ?_
  refine lv_iload_n hx hb dX5_promised_1 rfl (lv_at hl 1 rfl) ?_
  refine kcallR (kV (n := 1) (As := [.int n]) (rest := []) (b := (z 0)) (C := RX5) F hE hK hP hD hS hA (c_X5_findArticle l hl0 g e0 z S _ hI n) (rr_Pickwave hK hP (hI.1.1 0 (by decide))) kw_196 kw_197 kw_198 kw_2 kw_199 (by decide +kernel) ⟨Nat.le_of_ble_eq_true rfl, Nat.le_of_ble_eq_true rfl⟩ rfl hl.1 rfl (Nat.le_of_ble_eq_true rfl) dX5_promised_2 ⟨Nat.le_of_ble_eq_true rfl, Nat.le_of_ble_eq_true rfl⟩) rfl hD hS hA (fun E ce q9 H1 locs1 hex hP1 hS1 hce hcv hcl => kthru hte hlk (hex) hP1 hS1 hce hcv hcl (Nat.le_of_ble_eq_true rfl) (Nat.le_of_ble_eq_true rfl)) (fun b1 T1 H locs hp hP hD hS => ?_)
  obtain ⟨hT, hp2⟩ := hp
  have hT := hT.symm
  subst hT
  refine rg_Article_promisedUnits F hK hP hp2.1 kw_271 dX5_promised_5 ?_
  refine lv_topi (fun x3 ex3 => ?_)
  exact kEndI F hr rfl hlk hP hD hS (Nat.le_of_ble_eq_true rfl) (Nat.le_of_ble_eq_true rfl) dX5_promised_8 ⟨_, rfl, ⟨rfl, hp2.2⟩⟩
theorem dX5_free_0 : decode cX5_free 0 = .ok (.aload_n 0, 1) := by decide +kernel
theorem dX5_free_1 : decode cX5_free 1 = .ok (.iload_n 1, 1) := by decide +kernel
theorem dX5_free_2 : decode cX5_free 2 = .ok (.invokevirtual 83, 3) := by decide +kernel
theorem dX5_free_5 : decode cX5_free 5 = .ok (.invokevirtual 94, 3) := by decide +kernel
theorem dX5_free_8 : decode cX5_free 8 = .ok (.ireturn, 1) := by decide +kernel
set_option maxHeartbeats 4000000 in
set_option maxRecDepth 100000 in
theorem c_X5_free (l : Launch) (hl0 : l.stackTraces = false) (g : kG) (e0 : Nat) (z : Nat → Nat) (S : wPS) (sz : Nat) (hI : Inv z e0 S) (n : Int32) : kM l g e0 yX5_free cX5_free 2 (some .int) 7 103 1 6 [.ref (z 0), .int n] S sz (pI (fun r T => T = S ∧ ¬ n < 0 ∧ n < pF S 72 (z 10))) (fun E => E = xI ∧ (n < 0 ∨ ¬ n < pF S 72 (z 10))) := by
  refine kM.of (by decide) (Nat.le_of_ble_eq_true rfl) ?_
  intro p e s m below meth c ls B hin
  obtain ⟨F, hr, hlk, hte, hP, hK, hD, hE, hS, hA, hl, hsz⟩ := B
  subst hsz
  have hx := F.1
  have hb := F.2.1
  have hl : lv_has ls 2 [(0, .ref (z 0)), (1, .int n)] := hl
  refine lv_aload_n hx hb dX5_free_0 rfl (lv_at hl 0 rfl) ?_
  refine lv_iload_n hx hb dX5_free_1 rfl (lv_at hl 1 rfl) ?_
  refine kcallR (kV (n := 1) (As := [.int n]) (rest := []) (b := (z 0)) (C := RX5) F hE hK hP hD hS hA (c_X5_findArticle l hl0 g e0 z S _ hI n) (rr_Pickwave hK hP (hI.1.1 0 (by decide))) kw_196 kw_197 kw_198 kw_2 kw_199 (by decide +kernel) ⟨Nat.le_of_ble_eq_true rfl, Nat.le_of_ble_eq_true rfl⟩ rfl hl.1 rfl (Nat.le_of_ble_eq_true rfl) dX5_free_2 ⟨Nat.le_of_ble_eq_true rfl, Nat.le_of_ble_eq_true rfl⟩) rfl hD hS hA (fun E ce q9 H1 locs1 hex hP1 hS1 hce hcv hcl => kthru hte hlk (hex) hP1 hS1 hce hcv hcl (Nat.le_of_ble_eq_true rfl) (Nat.le_of_ble_eq_true rfl)) (fun b1 T1 H locs hp hP hD hS => ?_)
  obtain ⟨hT, hp2⟩ := hp
  have hT := hT.symm
  subst hT
  refine kcallI (kV (n := 0) (As := []) (rest := []) (b := b1) (C := RX1) F hE hK hP hD hS hA (c_X1_freeUnits l hl0 g e0 S _ b1 hp2.1) (rr_Article hK hP hp2.1) kw_246 kw_247 kw_248 kw_101 kw_249 (by decide +kernel) ⟨Nat.le_of_ble_eq_true rfl, Nat.le_of_ble_eq_true rfl⟩ rfl hl.1 rfl (Nat.le_of_ble_eq_true rfl) dX5_free_5 ⟨Nat.le_of_ble_eq_true rfl, Nat.le_of_ble_eq_true rfl⟩) rfl hD hS hA (fun _ _ _ _ _ h => False.elim h) (fun r3 T3 H locs hp hP hD hS => ?_)
  obtain ⟨hT, hp4⟩ := hp
  have hT := hT.symm
  subst hT
  exact kEndI F hr rfl hlk hP hD hS (Nat.le_of_ble_eq_true rfl) (Nat.le_of_ble_eq_true rfl) dX5_free_8 ⟨_, rfl, ⟨rfl, hp2.2⟩⟩
theorem dX5_amount_0 : decode cX5_amount 0 = .ok (.aload_n 0, 1) := by decide +kernel
theorem dX5_amount_1 : decode cX5_amount 1 = .ok (.iload_n 1, 1) := by decide +kernel
theorem dX5_amount_2 : decode cX5_amount 2 = .ok (.invokevirtual 169, 3) := by decide +kernel
theorem dX5_amount_5 : decode cX5_amount 5 = .ok (.getfield 114, 3) := by decide +kernel
theorem dX5_amount_8 : decode cX5_amount 8 = .ok (.ireturn, 1) := by decide +kernel
set_option maxHeartbeats 4000000 in
set_option maxRecDepth 100000 in
theorem c_X5_amount (l : Launch) (hl0 : l.stackTraces = false) (g : kG) (e0 : Nat) (z : Nat → Nat) (S : wPS) (sz : Nat) (hI : Inv z e0 S) (n : Int32) : kM l g e0 yX5_amount cX5_amount 2 (some .int) 7 103 1 6 [.ref (z 0), .int n] S sz (pI (fun r T => T = S ∧ ¬ n < 0 ∧ n < pF S 72 (z 11))) (fun E => E = xI ∧ (n < 0 ∨ ¬ n < pF S 72 (z 11))) := by
  refine kM.of (by decide) (Nat.le_of_ble_eq_true rfl) ?_
  intro p e s m below meth c ls B hin
  obtain ⟨F, hr, hlk, hte, hP, hK, hD, hE, hS, hA, hl, hsz⟩ := B
  subst hsz
  have hx := F.1
  have hb := F.2.1
  have hl : lv_has ls 2 [(0, .ref (z 0)), (1, .int n)] := hl
  refine lv_aload_n hx hb dX5_amount_0 rfl (lv_at hl 0 rfl) ?_
  refine lv_iload_n hx hb dX5_amount_1 rfl (lv_at hl 1 rfl) ?_
  refine kcallR (kV (n := 1) (As := [.int n]) (rest := []) (b := (z 0)) (C := RX5) F hE hK hP hD hS hA (c_X5_findLine l hl0 g e0 z S _ hI n) (rr_Pickwave hK hP (hI.1.1 0 (by decide))) kw_439 kw_440 kw_441 kw_2 kw_442 (by decide +kernel) ⟨Nat.le_of_ble_eq_true rfl, Nat.le_of_ble_eq_true rfl⟩ rfl hl.1 rfl (Nat.le_of_ble_eq_true rfl) dX5_amount_2 ⟨Nat.le_of_ble_eq_true rfl, Nat.le_of_ble_eq_true rfl⟩) rfl hD hS hA (fun E ce q9 H1 locs1 hex hP1 hS1 hce hcv hcl => kthru hte hlk (hex) hP1 hS1 hce hcv hcl (Nat.le_of_ble_eq_true rfl) (Nat.le_of_ble_eq_true rfl)) (fun b1 T1 H locs hp hP hD hS => ?_)
  obtain ⟨hT, hp2⟩ := hp
  have hT := hT.symm
  subst hT
  refine rg_Line_amount F hK hP hp2.1 kw_285 dX5_amount_5 ?_
  refine lv_topi (fun x3 ex3 => ?_)
  exact kEndI F hr rfl hlk hP hD hS (Nat.le_of_ble_eq_true rfl) (Nat.le_of_ble_eq_true rfl) dX5_amount_8 ⟨_, rfl, ⟨rfl, hp2.2⟩⟩
theorem dX5_state_0 : decode cX5_state 0 = .ok (.aload_n 0, 1) := by decide +kernel
theorem dX5_state_1 : decode cX5_state 1 = .ok (.iload_n 1, 1) := by decide +kernel
theorem dX5_state_2 : decode cX5_state 2 = .ok (.invokevirtual 169, 3) := by decide +kernel
theorem dX5_state_5 : decode cX5_state 5 = .ok (.getfield 173, 3) := by decide +kernel
theorem dX5_state_8 : decode cX5_state 8 = .ok (.ireturn, 1) := by decide +kernel
set_option maxHeartbeats 4000000 in
set_option maxRecDepth 100000 in
theorem c_X5_state (l : Launch) (hl0 : l.stackTraces = false) (g : kG) (e0 : Nat) (z : Nat → Nat) (S : wPS) (sz : Nat) (hI : Inv z e0 S) (n : Int32) : kM l g e0 yX5_state cX5_state 2 (some .char) 7 103 1 6 [.ref (z 0), .int n] S sz (pI (fun r T => T = S ∧ kCh r ∧ ¬ n < 0 ∧ n < pF S 72 (z 11))) (fun E => E = xI ∧ (n < 0 ∨ ¬ n < pF S 72 (z 11))) := by
  refine kM.of (by decide) (Nat.le_of_ble_eq_true rfl) ?_
  intro p e s m below meth c ls B hin
  obtain ⟨F, hr, hlk, hte, hP, hK, hD, hE, hS, hA, hl, hsz⟩ := B
  subst hsz
  have hx := F.1
  have hb := F.2.1
  have hl : lv_has ls 2 [(0, .ref (z 0)), (1, .int n)] := hl
  refine lv_aload_n hx hb dX5_state_0 rfl (lv_at hl 0 rfl) ?_
  refine lv_iload_n hx hb dX5_state_1 rfl (lv_at hl 1 rfl) ?_
  refine kcallR (kV (n := 1) (As := [.int n]) (rest := []) (b := (z 0)) (C := RX5) F hE hK hP hD hS hA (c_X5_findLine l hl0 g e0 z S _ hI n) (rr_Pickwave hK hP (hI.1.1 0 (by decide))) kw_439 kw_440 kw_441 kw_2 kw_442 (by decide +kernel) ⟨Nat.le_of_ble_eq_true rfl, Nat.le_of_ble_eq_true rfl⟩ rfl hl.1 rfl (Nat.le_of_ble_eq_true rfl) dX5_state_2 ⟨Nat.le_of_ble_eq_true rfl, Nat.le_of_ble_eq_true rfl⟩) rfl hD hS hA (fun E ce q9 H1 locs1 hex hP1 hS1 hce hcv hcl => kthru hte hlk (hex) hP1 hS1 hce hcv hcl (Nat.le_of_ble_eq_true rfl) (Nat.le_of_ble_eq_true rfl)) (fun b1 T1 H locs hp hP hD hS => ?_)
  obtain ⟨hT, hp2⟩ := hp
  have hT := hT.symm
  subst hT
  refine rg_Line_state F hK hP hp2.1 kw_322 dX5_state_5 ?_
  refine lv_topi (fun x3 ex3 => ?_)
  exact kEndI F hr (by rw [ex3]; exact (hI.ch hp2.1).1) hlk hP hD hS (Nat.le_of_ble_eq_true rfl) (Nat.le_of_ble_eq_true rfl) dX5_state_8 ⟨_, rfl, ⟨rfl, by rw [ex3]; exact hI.ch hp2.1, hp2.2⟩⟩
theorem dX5_orders_0 : decode cX5_orders 0 = .ok (.aload_n 0, 1) := by decide +kernel
theorem dX5_orders_1 : decode cX5_orders 1 = .ok (.getfield 36, 3) := by decide +kernel
theorem dX5_orders_4 : decode cX5_orders 4 = .ok (.invokevirtual 65, 3) := by decide +kernel
theorem dX5_orders_7 : decode cX5_orders 7 = .ok (.ireturn, 1) := by decide +kernel
set_option maxHeartbeats 4000000 in
set_option maxRecDepth 100000 in
theorem c_X5_orders (l : Launch) (hl0 : l.stackTraces = false) (g : kG) (e0 : Nat) (z : Nat → Nat) (S : wPS) (sz : Nat) (hI : Inv z e0 S)  : kM l g e0 yX5_orders cX5_orders 1 (some .int) 1 20 0 0 [.ref (z 0)] S sz (pI (fun r T => T = S ∧ r = pF S 72 (z 11))) (fun E => False) := by
  refine kM.of (by decide) (Nat.le_of_ble_eq_true rfl) ?_
  intro p e s m below meth c ls B hin
  obtain ⟨F, hr, hlk, hte, hP, hK, hD, hE, hS, hA, hl, hsz⟩ := B
  subst hsz
  have hx := F.1
  have hb := F.2.1
  have hl : lv_has ls 1 [(0, .ref (z 0))] := hl
  refine lv_aload_n hx hb dX5_orders_0 rfl (lv_at hl 0 rfl) ?_
  refine rs_Pickwave_lines (b := z 11) F hK hP (hI.1.1 0 (by decide)) hI.2.1.2.2.2.2.1 kw_28 dX5_orders_1 ?_
  refine kcallI (kV (n := 0) (As := []) (rest := []) (b := (z 11)) (C := RJx4a65c) F hE hK hP hD hS hA (c_Jx4a65c_size_8abf5 l hl0 g e0 S _ (z 11) (hI.1.1 11 (by decide))) (rr_ArrayList hK hP (hI.1.1 11 (by decide))) kw_109 kw_110 kw_111 kw_26 kw_112 (by decide +kernel) ⟨Nat.le_of_ble_eq_true rfl, Nat.le_of_ble_eq_true rfl⟩ rfl hl.1 rfl (Nat.le_of_ble_eq_true rfl) dX5_orders_4 ⟨Nat.le_of_ble_eq_true rfl, Nat.le_of_ble_eq_true rfl⟩) rfl hD hS hA (fun _ _ _ _ _ h => False.elim h) (fun r1 T1 H locs hp hP hD hS => ?_)
  obtain ⟨hT, hp2⟩ := hp
  have hT := hT.symm
  subst hT
  exact kEndI F hr rfl hlk hP hD hS (Nat.le_of_ble_eq_true rfl) (Nat.le_of_ble_eq_true rfl) dX5_orders_7 ⟨_, rfl, ⟨rfl, hp2⟩⟩
theorem dX5_writtenOff_0 : decode cX5_writtenOff 0 = .ok (.aload_n 0, 1) := by decide +kernel
theorem dX5_writtenOff_1 : decode cX5_writtenOff 1 = .ok (.getfield 149, 3) := by decide +kernel
theorem dX5_writtenOff_4 : decode cX5_writtenOff 4 = .ok (.ireturn, 1) := by decide +kernel
set_option maxHeartbeats 4000000 in
set_option maxRecDepth 100000 in
theorem c_X5_writtenOff (l : Launch) (hl0 : l.stackTraces = false) (g : kG) (e0 : Nat) (z : Nat → Nat) (S : wPS) (sz : Nat) (hI : Inv z e0 S)  : kM l g e0 yX5_writtenOff cX5_writtenOff 1 (some .int) 0 0 0 0 [.ref (z 0)] S sz (pI (fun r T => T = S ∧ r = pF S 58 (z 0))) (fun E => False) := by
  refine kM.of (by decide) (Nat.le_of_ble_eq_true rfl) ?_
  intro p e s m below meth c ls B hin
  obtain ⟨F, hr, hlk, hte, hP, hK, hD, hE, hS, hA, hl, hsz⟩ := B
  subst hsz
  have hx := F.1
  have hb := F.2.1
  have hl : lv_has ls 1 [(0, .ref (z 0))] := hl
  refine lv_aload_n hx hb dX5_writtenOff_0 rfl (lv_at hl 0 rfl) ?_
  refine rg_Pickwave_badUnits F hK hP (hI.1.1 0 (by decide)) kw_368 dX5_writtenOff_1 ?_
  refine lv_topi (fun x1 ex1 => ?_)
  exact kEndI F hr rfl hlk hP hD hS (Nat.le_of_ble_eq_true rfl) (Nat.le_of_ble_eq_true rfl) dX5_writtenOff_4 ⟨_, rfl, ⟨rfl, ex1⟩⟩
theorem dX5_waves_0 : decode cX5_waves 0 = .ok (.aload_n 0, 1) := by decide +kernel
theorem dX5_waves_1 : decode cX5_waves 1 = .ok (.getfield 217, 3) := by decide +kernel
theorem dX5_waves_4 : decode cX5_waves 4 = .ok (.ireturn, 1) := by decide +kernel
set_option maxHeartbeats 4000000 in
set_option maxRecDepth 100000 in
theorem c_X5_waves (l : Launch) (hl0 : l.stackTraces = false) (g : kG) (e0 : Nat) (z : Nat → Nat) (S : wPS) (sz : Nat) (hI : Inv z e0 S)  : kM l g e0 yX5_waves cX5_waves 1 (some .int) 0 0 0 0 [.ref (z 0)] S sz (pI (fun r T => T = S ∧ r = pF S 57 (z 0))) (fun E => False) := by
  refine kM.of (by decide) (Nat.le_of_ble_eq_true rfl) ?_
  intro p e s m below meth c ls B hin
  obtain ⟨F, hr, hlk, hte, hP, hK, hD, hE, hS, hA, hl, hsz⟩ := B
  subst hsz
  have hx := F.1
  have hb := F.2.1
  have hl : lv_has ls 1 [(0, .ref (z 0))] := hl
  refine lv_aload_n hx hb dX5_waves_0 rfl (lv_at hl 0 rfl) ?_
  refine rg_Pickwave_waveCount F hK hP (hI.1.1 0 (by decide)) kw_555 dX5_waves_1 ?_
  refine lv_topi (fun x1 ex1 => ?_)
  exact kEndI F hr rfl hlk hP hD hS (Nat.le_of_ble_eq_true rfl) (Nat.le_of_ble_eq_true rfl) dX5_waves_4 ⟨_, rfl, ⟨rfl, ex1⟩⟩
theorem dX5_minute_0 : decode cX5_minute 0 = .ok (.aload_n 0, 1) := by decide +kernel
theorem dX5_minute_1 : decode cX5_minute 1 = .ok (.getfield 212, 3) := by decide +kernel
theorem dX5_minute_4 : decode cX5_minute 4 = .ok (.ireturn, 1) := by decide +kernel
set_option maxHeartbeats 4000000 in
set_option maxRecDepth 100000 in
theorem c_X5_minute (l : Launch) (hl0 : l.stackTraces = false) (g : kG) (e0 : Nat) (z : Nat → Nat) (S : wPS) (sz : Nat) (hI : Inv z e0 S)  : kM l g e0 yX5_minute cX5_minute 1 (some .int) 0 0 0 0 [.ref (z 0)] S sz (pI (fun r T => T = S ∧ r = pF S 56 (z 0))) (fun E => False) := by
  refine kM.of (by decide) (Nat.le_of_ble_eq_true rfl) ?_
  intro p e s m below meth c ls B hin
  obtain ⟨F, hr, hlk, hte, hP, hK, hD, hE, hS, hA, hl, hsz⟩ := B
  subst hsz
  have hx := F.1
  have hb := F.2.1
  have hl : lv_has ls 1 [(0, .ref (z 0))] := hl
  refine lv_aload_n hx hb dX5_minute_0 rfl (lv_at hl 0 rfl) ?_
  refine rg_Pickwave_presentMinute F hK hP (hI.1.1 0 (by decide)) kw_554 dX5_minute_1 ?_
  refine lv_topi (fun x1 ex1 => ?_)
  exact kEndI F hr rfl hlk hP hD hS (Nat.le_of_ble_eq_true rfl) (Nat.le_of_ble_eq_true rfl) dX5_minute_4 ⟨_, rfl, ⟨rfl, ex1⟩⟩
theorem dX5_scans_0 : decode cX5_scans 0 = .ok (.aload_n 0, 1) := by decide +kernel
theorem dX5_scans_1 : decode cX5_scans 1 = .ok (.getfield 42, 3) := by decide +kernel
theorem dX5_scans_4 : decode cX5_scans 4 = .ok (.getfield 269, 3) := by decide +kernel
theorem dX5_scans_7 : decode cX5_scans 7 = .ok (.ireturn, 1) := by decide +kernel
set_option maxHeartbeats 4000000 in
set_option maxRecDepth 100000 in
theorem c_X5_scans (l : Launch) (hl0 : l.stackTraces = false) (g : kG) (e0 : Nat) (z : Nat → Nat) (S : wPS) (sz : Nat) (hI : Inv z e0 S)  : kM l g e0 yX5_scans cX5_scans 1 (some .int) 0 0 0 0 [.ref (z 0)] S sz (pI (fun r T => T = S ∧ r = pF S 42 (z 12))) (fun E => False) := by
  refine kM.of (by decide) (Nat.le_of_ble_eq_true rfl) ?_
  intro p e s m below meth c ls B hin
  obtain ⟨F, hr, hlk, hte, hP, hK, hD, hE, hS, hA, hl, hsz⟩ := B
  subst hsz
  have hx := F.1
  have hb := F.2.1
  have hl : lv_has ls 1 [(0, .ref (z 0))] := hl
  refine lv_aload_n hx hb dX5_scans_0 rfl (lv_at hl 0 rfl) ?_
  refine rs_Pickwave_log (b := z 12) F hK hP (hI.1.1 0 (by decide)) hI.2.1.2.2.2.2.2.1 kw_32 dX5_scans_1 ?_
  refine rg_ScanLog_count F hK hP (hI.1.1 12 (by decide)) kw_694 dX5_scans_4 ?_
  refine lv_topi (fun x1 ex1 => ?_)
  exact kEndI F hr rfl hlk hP hD hS (Nat.le_of_ble_eq_true rfl) (Nat.le_of_ble_eq_true rfl) dX5_scans_7 ⟨_, rfl, ⟨rfl, ex1⟩⟩
theorem dX5_shipped_0 : decode cX5_shipped 0 = .ok (.aload_n 0, 1) := by decide +kernel
theorem dX5_shipped_1 : decode cX5_shipped 1 = .ok (.getfield 206, 3) := by decide +kernel
theorem dX5_shipped_4 : decode cX5_shipped 4 = .ok (.lreturn, 1) := by decide +kernel
set_option maxHeartbeats 4000000 in
set_option maxRecDepth 100000 in
theorem c_X5_shipped (l : Launch) (hl0 : l.stackTraces = false) (g : kG) (e0 : Nat) (z : Nat → Nat) (S : wPS) (sz : Nat) (hI : Inv z e0 S)  : kM l g e0 yX5_shipped cX5_shipped 1 (some .long) 0 0 0 0 [.ref (z 0)] S sz (pLo (fun r T => T = S ∧ r = pJ S (z 0))) (fun E => False) := by
  refine kM.of (by decide) (Nat.le_of_ble_eq_true rfl) ?_
  intro p e s m below meth c ls B hin
  obtain ⟨F, hr, hlk, hte, hP, hK, hD, hE, hS, hA, hl, hsz⟩ := B
  subst hsz
  have hx := F.1
  have hb := F.2.1
  have hl : lv_has ls 1 [(0, .ref (z 0))] := hl
  refine lv_aload_n hx hb dX5_shipped_0 rfl (lv_at hl 0 rfl) ?_
  refine rg_Pickwave_shippedUnits F hK hP (hI.1.1 0 (by decide)) kw_523 dX5_shipped_1 ?_
  refine lv_topl (fun x1 ex1 => ?_)
  exact kEndL F hr hlk hP hD hS (Nat.le_of_ble_eq_true rfl) (Nat.le_of_ble_eq_true rfl) dX5_shipped_4 ⟨_, rfl, ⟨rfl, ex1⟩⟩
theorem dX5_carried_0 : decode cX5_carried 0 = .ok (.aload_n 0, 1) := by decide +kernel
theorem dX5_carried_1 : decode cX5_carried 1 = .ok (.iload_n 1, 1) := by decide +kernel
theorem dX5_carried_2 : decode cX5_carried 2 = .ok (.invokevirtual 234, 3) := by decide +kernel
theorem dX5_carried_5 : decode cX5_carried 5 = .ok (.getfield 253, 3) := by decide +kernel
theorem dX5_carried_8 : decode cX5_carried 8 = .ok (.ireturn, 1) := by decide +kernel
set_option maxHeartbeats 4000000 in
set_option maxRecDepth 100000 in
theorem c_X5_carried (l : Launch) (hl0 : l.stackTraces = false) (g : kG) (e0 : Nat) (z : Nat → Nat) (S : wPS) (sz : Nat) (hI : Inv z e0 S) (n : Int32) : kM l g e0 yX5_carried cX5_carried 2 (some .int) 7 103 1 6 [.ref (z 0), .int n] S sz (pI (fun r T => T = S ∧ ∃ j, j < 2 ∧ n = nI j ∧ r = pF S 31 (z (8 + j)))) (fun E => E = xI ∧ (n < 0 ∨ ¬ n < 2)) := by
  refine kM.of (by decide) (Nat.le_of_ble_eq_true rfl) ?_
  intro p e s m below meth c ls B hin
  obtain ⟨F, hr, hlk, hte, hP, hK, hD, hE, hS, hA, hl, hsz⟩ := B
  subst hsz
  have hx := F.1
  have hb := F.2.1
  have hl : lv_has ls 2 [(0, .ref (z 0)), (1, .int n)] := hl
  refine lv_aload_n hx hb dX5_carried_0 rfl (lv_at hl 0 rfl) ?_
  refine lv_iload_n hx hb dX5_carried_1 rfl (lv_at hl 1 rfl) ?_
  refine kcallR (kV (n := 1) (As := [.int n]) (rest := []) (b := (z 0)) (C := RX5) F hE hK hP hD hS hA (c_X5_findRobot l hl0 g e0 z S _ hI n) (rr_Pickwave hK hP (hI.1.1 0 (by decide))) kw_614 kw_615 kw_616 kw_2 kw_617 (by decide +kernel) ⟨Nat.le_of_ble_eq_true rfl, Nat.le_of_ble_eq_true rfl⟩ rfl hl.1 rfl (Nat.le_of_ble_eq_true rfl) dX5_carried_2 ⟨Nat.le_of_ble_eq_true rfl, Nat.le_of_ble_eq_true rfl⟩) rfl hD hS hA (fun E ce q9 H1 locs1 hex hP1 hS1 hce hcv hcl => kthru hte hlk (hex) hP1 hS1 hce hcv hcl (Nat.le_of_ble_eq_true rfl) (Nat.le_of_ble_eq_true rfl)) (fun b1 T1 H locs hp hP hD hS => ?_)
  obtain ⟨hT, hp2⟩ := hp
  have hT := hT.symm
  subst hT
  obtain ⟨j3, hj3, hn3, rfl⟩ := hp2
  refine rg_Robot_load F hK hP (hI.or hj3) kw_613 dX5_carried_5 ?_
  refine lv_topi (fun x4 ex4 => ?_)
  exact kEndI F hr rfl hlk hP hD hS (Nat.le_of_ble_eq_true rfl) (Nat.le_of_ble_eq_true rfl) dX5_carried_8 ⟨_, rfl, ⟨rfl, _, hj3, hn3, ex4⟩⟩
theorem dX5_minutesOf_0 : decode cX5_minutesOf 0 = .ok (.aload_n 0, 1) := by decide +kernel
theorem dX5_minutesOf_1 : decode cX5_minutesOf 1 = .ok (.iload_n 1, 1) := by decide +kernel
theorem dX5_minutesOf_2 : decode cX5_minutesOf 2 = .ok (.invokevirtual 234, 3) := by decide +kernel
theorem dX5_minutesOf_5 : decode cX5_minutesOf 5 = .ok (.getfield 250, 3) := by decide +kernel
theorem dX5_minutesOf_8 : decode cX5_minutesOf 8 = .ok (.ireturn, 1) := by decide +kernel
set_option maxHeartbeats 4000000 in
set_option maxRecDepth 100000 in
theorem c_X5_minutesOf (l : Launch) (hl0 : l.stackTraces = false) (g : kG) (e0 : Nat) (z : Nat → Nat) (S : wPS) (sz : Nat) (hI : Inv z e0 S) (n : Int32) : kM l g e0 yX5_minutesOf cX5_minutesOf 2 (some .int) 7 103 1 6 [.ref (z 0), .int n] S sz (pI (fun r T => T = S ∧ ∃ j, j < 2 ∧ n = nI j ∧ r = pF S 32 (z (8 + j)))) (fun E => E = xI ∧ (n < 0 ∨ ¬ n < 2)) := by
  refine kM.of (by decide) (Nat.le_of_ble_eq_true rfl) ?_
  intro p e s m below meth c ls B hin
  obtain ⟨F, hr, hlk, hte, hP, hK, hD, hE, hS, hA, hl, hsz⟩ := B
  subst hsz
  have hx := F.1
  have hb := F.2.1
  have hl : lv_has ls 2 [(0, .ref (z 0)), (1, .int n)] := hl
  refine lv_aload_n hx hb dX5_minutesOf_0 rfl (lv_at hl 0 rfl) ?_
  refine lv_iload_n hx hb dX5_minutesOf_1 rfl (lv_at hl 1 rfl) ?_
  refine kcallR (kV (n := 1) (As := [.int n]) (rest := []) (b := (z 0)) (C := RX5) F hE hK hP hD hS hA (c_X5_findRobot l hl0 g e0 z S _ hI n) (rr_Pickwave hK hP (hI.1.1 0 (by decide))) kw_614 kw_615 kw_616 kw_2 kw_617 (by decide +kernel) ⟨Nat.le_of_ble_eq_true rfl, Nat.le_of_ble_eq_true rfl⟩ rfl hl.1 rfl (Nat.le_of_ble_eq_true rfl) dX5_minutesOf_2 ⟨Nat.le_of_ble_eq_true rfl, Nat.le_of_ble_eq_true rfl⟩) rfl hD hS hA (fun E ce q9 H1 locs1 hex hP1 hS1 hce hcv hcl => kthru hte hlk (hex) hP1 hS1 hce hcv hcl (Nat.le_of_ble_eq_true rfl) (Nat.le_of_ble_eq_true rfl)) (fun b1 T1 H locs hp hP hD hS => ?_)
  obtain ⟨hT, hp2⟩ := hp
  have hT := hT.symm
  subst hT
  obtain ⟨j3, hj3, hn3, rfl⟩ := hp2
  refine rg_Robot_minutes F hK hP (hI.or hj3) kw_612 dX5_minutesOf_5 ?_
  refine lv_topi (fun x4 ex4 => ?_)
  exact kEndI F hr rfl hlk hP hD hS (Nat.le_of_ble_eq_true rfl) (Nat.le_of_ble_eq_true rfl) dX5_minutesOf_8 ⟨_, rfl, ⟨rfl, _, hj3, hn3, ex4⟩⟩
theorem dX5_aisleOf_0 : decode cX5_aisleOf 0 = .ok (.aload_n 0, 1) := by decide +kernel
theorem dX5_aisleOf_1 : decode cX5_aisleOf 1 = .ok (.iload_n 1, 1) := by decide +kernel
theorem dX5_aisleOf_2 : decode cX5_aisleOf 2 = .ok (.invokevirtual 234, 3) := by decide +kernel
theorem dX5_aisleOf_5 : decode cX5_aisleOf 5 = .ok (.getfield 238, 3) := by decide +kernel
theorem dX5_aisleOf_8 : decode cX5_aisleOf 8 = .ok (.astore_n 2, 1) := by decide +kernel
theorem dX5_aisleOf_9 : decode cX5_aisleOf 9 = .ok (.aload_n 2, 1) := by decide +kernel
theorem dX5_aisleOf_10 : decode cX5_aisleOf 10 = .ok (.ifnonnull 14, 3) := by decide +kernel
theorem dX5_aisleOf_13 : decode cX5_aisleOf 13 = .ok (.new 229, 3) := by decide +kernel
theorem dX5_aisleOf_16 : decode cX5_aisleOf 16 = .ok (.dup, 1) := by decide +kernel
theorem dX5_aisleOf_17 : decode cX5_aisleOf 17 = .ok (.ldc_w 256, 3) := by decide +kernel
theorem dX5_aisleOf_20 : decode cX5_aisleOf 20 = .ok (.invokespecial 233, 3) := by decide +kernel
theorem dX5_aisleOf_23 : decode cX5_aisleOf 23 = .ok (.athrow, 1) := by decide +kernel
theorem dX5_aisleOf_24 : decode cX5_aisleOf 24 = .ok (.aload_n 2, 1) := by decide +kernel
theorem dX5_aisleOf_25 : decode cX5_aisleOf 25 = .ok (.getfield 185, 3) := by decide +kernel
theorem dX5_aisleOf_28 : decode cX5_aisleOf 28 = .ok (.getfield 258, 3) := by decide +kernel
theorem dX5_aisleOf_31 : decode cX5_aisleOf 31 = .ok (.ireturn, 1) := by decide +kernel
set_option maxHeartbeats 4000000 in
set_option maxRecDepth 100000 in
theorem c_X5_aisleOf (l : Launch) (hl0 : l.stackTraces = false) (g : kG) (e0 : Nat) (z : Nat → Nat) (S : wPS) (sz : Nat) (hI : Inv z e0 S) (n : Int32) : kM l g e0 yX5_aisleOf cX5_aisleOf 3 (some .int) 7 103 2 12 [.ref (z 0), .int n] S sz (pI (fun r T => T = S ∧ ∃ j, j < 2 ∧ n = nI j ∧ pG S 30 (z (8 + j)) ≠ none)) (fun E => (E = xI ∧ (n < 0 ∨ ¬ n < 2)) ∨ (E = xN ∧ ∃ j, j < 2 ∧ n = nI j)) := by
  refine kM.of (by decide) (Nat.le_of_ble_eq_true rfl) ?_
  intro p e s m below meth c ls B hin
  obtain ⟨F, hr, hlk, hte, hP, hK, hD, hE, hS, hA, hl, hsz⟩ := B
  subst hsz
  have hx := F.1
  have hb := F.2.1
  have hl : lv_has ls 3 [(0, .ref (z 0)), (1, .int n)] := hl
  refine lv_aload_n hx hb dX5_aisleOf_0 rfl (lv_at hl 0 rfl) ?_
  refine lv_iload_n hx hb dX5_aisleOf_1 rfl (lv_at hl 1 rfl) ?_
  refine kcallR (kV (n := 1) (As := [.int n]) (rest := []) (b := (z 0)) (C := RX5) F hE hK hP hD hS hA (c_X5_findRobot l hl0 g e0 z S _ hI n) (rr_Pickwave hK hP (hI.1.1 0 (by decide))) kw_614 kw_615 kw_616 kw_2 kw_617 (by decide +kernel) ⟨Nat.le_of_ble_eq_true rfl, Nat.le_of_ble_eq_true rfl⟩ rfl hl.1 rfl (Nat.le_of_ble_eq_true rfl) dX5_aisleOf_2 ⟨Nat.le_of_ble_eq_true rfl, Nat.le_of_ble_eq_true rfl⟩) rfl hD hS hA (fun E ce q9 H1 locs1 hex hP1 hS1 hce hcv hcl => kthru hte hlk (Or.inl hex) hP1 hS1 hce hcv hcl (Nat.le_of_ble_eq_true rfl) (Nat.le_of_ble_eq_true rfl)) (fun b1 T1 H locs hp hP hD hS => ?_)
  obtain ⟨hT, hp2⟩ := hp
  have hT := hT.symm
  subst hT
  obtain ⟨j3, hj3, hn3, rfl⟩ := hp2
  rcases (hI.2.2.2.2.2.2.2 _ (hI.or hj3)) with ha | ⟨b, ha, ob⟩
  · refine rz_Robot_article F hK hP (hI.or hj3) ha kw_610 dX5_aisleOf_5 ?_
    refine lv_astore_nN (lv' := [(2, .null), (0, .ref (z 0)), (1, .int n)]) hx hb dX5_aisleOf_8 rfl hl (by decide) rfl (fun ls hl => ?_)
    refine lv_aload_nN hx hb dX5_aisleOf_9 rfl (lv_at hl 0 rfl) ?_
    refine lv_ifnonnullN hx hb dX5_aisleOf_10 ?_
    exact kth_NSEEW hl0 F hE hlk hte hP hS hl.1 (List.mem_of_getElem? (i := 21) rfl) dX5_aisleOf_13 dX5_aisleOf_16 dX5_aisleOf_17 dX5_aisleOf_20 dX5_aisleOf_23 ⟨Nat.le_of_ble_eq_true rfl, Nat.le_of_ble_eq_true rfl, Nat.le_of_ble_eq_true rfl, Nat.le_of_ble_eq_true rfl⟩ (Nat.le_of_ble_eq_true rfl) (Nat.le_of_ble_eq_true rfl) (Or.inr ⟨rfl, _, hj3, hn3⟩)
  · refine rs_Robot_article (b := b) F hK hP (hI.or hj3) ha kw_610 dX5_aisleOf_5 ?_
    refine lv_astore_n (lv' := [(2, .ref b), (0, .ref (z 0)), (1, .int n)]) hx hb dX5_aisleOf_8 rfl hl (by decide) rfl (fun ls hl => ?_)
    refine lv_aload_n hx hb dX5_aisleOf_9 rfl (lv_at hl 0 rfl) ?_
    refine lv_ifnonnull (tgt := 24) hx hb dX5_aisleOf_10 (by decide) ?_
    refine lv_aload_n hx hb dX5_aisleOf_24 rfl (lv_at hl 0 rfl) ?_
    obtain ⟨j4, hj4, hb4⟩ := hI.2.2.2.2.2.1 b ob
    refine rs_Article_aisle (b := z (2 + j4)) F hK hP ob hb4 kw_321 dX5_aisleOf_25 ?_
    refine rg_Aisle_number F hK hP (hI.oa hj4) kw_663 dX5_aisleOf_28 ?_
    refine lv_topi (fun x5 ex5 => ?_)
    exact kEndI F hr rfl hlk hP hD hS (Nat.le_of_ble_eq_true rfl) (Nat.le_of_ble_eq_true rfl) dX5_aisleOf_31 ⟨_, rfl, ⟨rfl, _, hj3, hn3, by rw [ha]; exact Option.some_ne_none _⟩⟩
theorem dX5_minutesLeft_0 : decode cX5_minutesLeft 0 = .ok (.aload_n 0, 1) := by decide +kernel
theorem dX5_minutesLeft_1 : decode cX5_minutesLeft 1 = .ok (.iload_n 1, 1) := by decide +kernel
theorem dX5_minutesLeft_2 : decode cX5_minutesLeft 2 = .ok (.invokevirtual 200, 3) := by decide +kernel
theorem dX5_minutesLeft_5 : decode cX5_minutesLeft 5 = .ok (.aload_n 0, 1) := by decide +kernel
theorem dX5_minutesLeft_6 : decode cX5_minutesLeft 6 = .ok (.getfield 18, 3) := by decide +kernel
theorem dX5_minutesLeft_9 : decode cX5_minutesLeft 9 = .ok (.iload_n 1, 1) := by decide +kernel
theorem dX5_minutesLeft_10 : decode cX5_minutesLeft 10 = .ok (.iaload, 1) := by decide +kernel
theorem dX5_minutesLeft_11 : decode cX5_minutesLeft 11 = .ok (.aload_n 0, 1) := by decide +kernel
theorem dX5_minutesLeft_12 : decode cX5_minutesLeft 12 = .ok (.getfield 212, 3) := by decide +kernel
theorem dX5_minutesLeft_15 : decode cX5_minutesLeft 15 = .ok (.isub, 1) := by decide +kernel
theorem dX5_minutesLeft_16 : decode cX5_minutesLeft 16 = .ok (.istore_n 2, 1) := by decide +kernel
theorem dX5_minutesLeft_17 : decode cX5_minutesLeft 17 = .ok (.iload_n 2, 1) := by decide +kernel
theorem dX5_minutesLeft_18 : decode cX5_minutesLeft 18 = .ok (.ifCond .ge 7, 3) := by decide +kernel
theorem dX5_minutesLeft_21 : decode cX5_minutesLeft 21 = .ok (.iconst (-1), 1) := by decide +kernel
theorem dX5_minutesLeft_22 : decode cX5_minutesLeft 22 = .ok (.goto 4, 3) := by decide +kernel
theorem dX5_minutesLeft_25 : decode cX5_minutesLeft 25 = .ok (.iload_n 2, 1) := by decide +kernel
theorem dX5_minutesLeft_26 : decode cX5_minutesLeft 26 = .ok (.ireturn, 1) := by decide +kernel
set_option maxHeartbeats 4000000 in
set_option maxRecDepth 100000 in
theorem c_X5_minutesLeft (l : Launch) (hl0 : l.stackTraces = false) (g : kG) (e0 : Nat) (z : Nat → Nat) (S : wPS) (sz : Nat) (hI : Inv z e0 S) (n : Int32) : kM l g e0 yX5_minutesLeft cX5_minutesLeft 3 (some .int) 7 103 1 6 [.ref (z 0), .int n] S sz (pI (fun r T => T = S ∧ ∃ j, j < 3 ∧ n = nI j ∧ r = if pX S (z 6) j - pF S 56 (z 0) < 0 then -1 else pX S (z 6) j - pF S 56 (z 0))) (fun E => E = xI ∧ (n < 0 ∨ 3 ≤ n)) := by
  refine kM.of (by decide) (Nat.le_of_ble_eq_true rfl) ?_
  intro p e s m below meth c ls B hin
  obtain ⟨F, hr, hlk, hte, hP, hK, hD, hE, hS, hA, hl, hsz⟩ := B
  subst hsz
  have hx := F.1
  have hb := F.2.1
  have hl : lv_has ls 3 [(0, .ref (z 0)), (1, .int n)] := hl
  refine lv_aload_n hx hb dX5_minutesLeft_0 rfl (lv_at hl 0 rfl) ?_
  refine lv_iload_n hx hb dX5_minutesLeft_1 rfl (lv_at hl 1 rfl) ?_
  refine kcallU (kV (n := 1) (As := [.int n]) (rest := []) (b := (z 0)) (C := RX5) F hE hK hP hD hS hA (c_X5_checkCarrier l hl0 g e0 z S _ hI n) (rr_Pickwave hK hP (hI.1.1 0 (by decide))) kw_524 kw_525 kw_526 kw_2 kw_527 (by decide +kernel) ⟨Nat.le_of_ble_eq_true rfl, Nat.le_of_ble_eq_true rfl⟩ rfl hl.1 rfl (Nat.le_of_ble_eq_true rfl) dX5_minutesLeft_2 ⟨Nat.le_of_ble_eq_true rfl, Nat.le_of_ble_eq_true rfl⟩) rfl hD hS hA (fun E ce q9 H1 locs1 hex hP1 hS1 hce hcv hcl => kthru hte hlk (hex) hP1 hS1 hce hcv hcl (Nat.le_of_ble_eq_true rfl) (Nat.le_of_ble_eq_true rfl)) (fun T1 H locs hp hP hD hS => ?_)
  obtain ⟨hT, hp2⟩ := hp
  have hT := hT.symm
  subst hT
  obtain ⟨j, hj, hn⟩ := kix (M := 3) (N := 3) rfl (by decide) hp2.1 hp2.2
  refine lv_aload_n hx hb dX5_minutesLeft_5 rfl (lv_at hl 0 rfl) ?_
  refine rs_Pickwave_cutOffs (b := z 6) F hK hP (hI.1.1 0 (by decide)) hI.2.1.2.1 kw_19 dX5_minutesLeft_6 ?_
  refine lv_iload_n hx hb dX5_minutesLeft_9 rfl (lv_at hl 1 rfl) ?_
  refine rd_I F hK hP (hI.1.1 6 (by decide)) (by rw [hn, hI.2.2.1.2.2.1]; exact vp_in_nI hj (by decide)) dX5_minutesLeft_10 ?_
  refine lv_topi (fun x3 ex3 => ?_)
  refine lv_aload_n hx hb dX5_minutesLeft_11 rfl (lv_at hl 0 rfl) ?_
  refine rg_Pickwave_presentMinute F hK hP (hI.1.1 0 (by decide)) kw_554 dX5_minutesLeft_12 ?_
  refine lv_topi (fun x4 ex4 => ?_)
  refine lv_isub hx hb dX5_minutesLeft_15 ?_
  refine lv_topi (fun x5 ex5 => ?_)
  have hx9 : x5 = pX S (z 6) j - pF S 56 (z 0) := by rw [ex5, ex3, ex4, hn, nI_clamp (by omega)]
  refine lv_istore_n (lv' := [(2, .int x5), (0, .ref (z 0)), (1, .int n)]) hx hb dX5_minutesLeft_16 rfl hl (by decide) rfl (fun ls hl => ?_)
  refine lv_iload_n hx hb dX5_minutesLeft_17 rfl (lv_at hl 0 rfl) ?_
  refine lv_if_ge (tgt := 25) hx hb dX5_minutesLeft_18 (by decide) (fun c6 => ?_) (fun c6 => ?_)
  · refine lv_iload_n hx hb dX5_minutesLeft_25 rfl (lv_at hl 0 rfl) ?_
    exact kEndI F hr rfl hlk hP hD hS (Nat.le_of_ble_eq_true rfl) (Nat.le_of_ble_eq_true rfl) dX5_minutesLeft_26 ⟨_, rfl, ⟨rfl, j, hj, hn, by rw [← hx9, if_neg (Int32.not_lt.mpr c6)]⟩⟩
  · refine lv_iconst (v := (-1)) hx hb dX5_minutesLeft_21 (by decide) ?_
    refine lv_goto (tgt := 26) hx hb dX5_minutesLeft_22 (by decide) ?_
    exact kEndI F hr rfl hlk hP hD hS (Nat.le_of_ble_eq_true rfl) (Nat.le_of_ble_eq_true rfl) dX5_minutesLeft_26 ⟨_, rfl, ⟨rfl, j, hj, hn, by rw [← hx9, if_pos (Int32.not_le.mp c6)]⟩⟩
theorem dX5_scanOrder_0 : decode cX5_scanOrder 0 = .ok (.aload_n 0, 1) := by decide +kernel
theorem dX5_scanOrder_1 : decode cX5_scanOrder 1 = .ok (.getfield 42, 3) := by decide +kernel
theorem dX5_scanOrder_4 : decode cX5_scanOrder 4 = .ok (.iload_n 1, 1) := by decide +kernel
theorem dX5_scanOrder_5 : decode cX5_scanOrder 5 = .ok (.invokevirtual 272, 3) := by decide +kernel
theorem dX5_scanOrder_8 : decode cX5_scanOrder 8 = .ok (.ifCond .ne 14, 3) := by decide +kernel
theorem dX5_scanOrder_11 : decode cX5_scanOrder 11 = .ok (.new 275, 3) := by decide +kernel
theorem dX5_scanOrder_14 : decode cX5_scanOrder 14 = .ok (.dup, 1) := by decide +kernel
theorem dX5_scanOrder_15 : decode cX5_scanOrder 15 = .ok (.ldc_w 277, 3) := by decide +kernel
theorem dX5_scanOrder_18 : decode cX5_scanOrder 18 = .ok (.invokespecial 279, 3) := by decide +kernel
theorem dX5_scanOrder_21 : decode cX5_scanOrder 21 = .ok (.athrow, 1) := by decide +kernel
theorem dX5_scanOrder_22 : decode cX5_scanOrder 22 = .ok (.aload_n 0, 1) := by decide +kernel
theorem dX5_scanOrder_23 : decode cX5_scanOrder 23 = .ok (.getfield 42, 3) := by decide +kernel
theorem dX5_scanOrder_26 : decode cX5_scanOrder 26 = .ok (.getfield 280, 3) := by decide +kernel
theorem dX5_scanOrder_29 : decode cX5_scanOrder 29 = .ok (.iload_n 1, 1) := by decide +kernel
theorem dX5_scanOrder_30 : decode cX5_scanOrder 30 = .ok (.iaload, 1) := by decide +kernel
theorem dX5_scanOrder_31 : decode cX5_scanOrder 31 = .ok (.ireturn, 1) := by decide +kernel
set_option maxHeartbeats 4000000 in
set_option maxRecDepth 100000 in
theorem c_X5_scanOrder (l : Launch) (hl0 : l.stackTraces = false) (g : kG) (e0 : Nat) (z : Nat → Nat) (S : wPS) (sz : Nat) (hI : Inv z e0 S) (n : Int32) : kM l g e0 yX5_scanOrder cX5_scanOrder 2 (some .int) 6 82 1 6 [.ref (z 0), .int n] S sz (pI (fun r T => T = S ∧ ¬ n < 0 ∧ n < pF S 42 (z 12))) (fun E => E = xI) := by
  refine kM.of (by decide) (Nat.le_of_ble_eq_true rfl) ?_
  intro p e s m below meth c ls B hin
  obtain ⟨F, hr, hlk, hte, hP, hK, hD, hE, hS, hA, hl, hsz⟩ := B
  subst hsz
  have hx := F.1
  have hb := F.2.1
  have hl : lv_has ls 2 [(0, .ref (z 0)), (1, .int n)] := hl
  refine lv_aload_n hx hb dX5_scanOrder_0 rfl (lv_at hl 0 rfl) ?_
  refine rs_Pickwave_log (b := z 12) F hK hP (hI.1.1 0 (by decide)) hI.2.1.2.2.2.2.2.1 kw_32 dX5_scanOrder_1 ?_
  refine lv_iload_n hx hb dX5_scanOrder_4 rfl (lv_at hl 1 rfl) ?_
  refine kcallI (kV (n := 1) (As := [.int n]) (rest := []) (b := (z 12)) (C := RX4) F hE hK hP hD hS hA (c_X4_has l hl0 g e0 z S _ hI n) (rr_ScanLog hK hP (hI.1.1 12 (by decide))) kw_707 kw_708 kw_709 kw_31 kw_710 (by decide +kernel) ⟨Nat.le_of_ble_eq_true rfl, Nat.le_of_ble_eq_true rfl⟩ rfl hl.1 rfl (Nat.le_of_ble_eq_true rfl) dX5_scanOrder_5 ⟨Nat.le_of_ble_eq_true rfl, Nat.le_of_ble_eq_true rfl⟩) rfl hD hS hA (fun _ _ _ _ _ h => False.elim h) (fun r1 T1 H locs hp hP hD hS => ?_)
  obtain ⟨hT, hp2⟩ := hp
  have hT := hT.symm
  subst hT
  refine lv_if_ne (tgt := 22) hx hb dX5_scanOrder_8 (by decide) (fun c3 => ?_) (fun c3 => ?_)
  · have hh : ¬ n < 0 ∧ n < pF S 42 (z 12) ∧ n < 516 := by
      rcases hp2 with h | ⟨-, h⟩
      · exact absurd h c3
      · exact h
    obtain ⟨j, hj, hn⟩ := kixlt (M := 516) (N := 516) rfl (by decide) hh.1 hh.2.2
    refine lv_aload_n hx hb dX5_scanOrder_22 rfl (lv_at hl 0 rfl) ?_
    refine rs_Pickwave_log (b := z 12) F hK hP (hI.1.1 0 (by decide)) hI.2.1.2.2.2.2.2.1 kw_32 dX5_scanOrder_23 ?_
    refine rs_ScanLog_numbers (b := z 13) F hK hP (hI.1.1 12 (by decide)) hI.2.1.2.2.2.2.2.2.1 kw_706 dX5_scanOrder_26 ?_
    refine lv_iload_n hx hb dX5_scanOrder_29 rfl (lv_at hl 1 rfl) ?_
    refine rd_I F hK hP (hI.1.1 13 (by decide)) (by rw [hn, hI.2.2.1.2.2.2.2.2.1]; exact vp_in_nI hj (by decide)) dX5_scanOrder_30 ?_
    refine lv_topi (fun x4 ex4 => ?_)
    exact kEndI F hr rfl hlk hP hD hS (Nat.le_of_ble_eq_true rfl) (Nat.le_of_ble_eq_true rfl) dX5_scanOrder_31 ⟨_, rfl, ⟨rfl, hh.1, hh.2.1⟩⟩
  · exact kth_IOOBEW hl0 F hE hlk hte hP hS hl.1 (List.mem_of_getElem? (i := 24) rfl) dX5_scanOrder_11 dX5_scanOrder_14 dX5_scanOrder_15 dX5_scanOrder_18 dX5_scanOrder_21 ⟨Nat.le_of_ble_eq_true rfl, Nat.le_of_ble_eq_true rfl, Nat.le_of_ble_eq_true rfl, Nat.le_of_ble_eq_true rfl⟩ (Nat.le_of_ble_eq_true rfl) (Nat.le_of_ble_eq_true rfl) rfl
theorem dX5_scanSign_0 : decode cX5_scanSign 0 = .ok (.aload_n 0, 1) := by decide +kernel
theorem dX5_scanSign_1 : decode cX5_scanSign 1 = .ok (.getfield 42, 3) := by decide +kernel
theorem dX5_scanSign_4 : decode cX5_scanSign 4 = .ok (.iload_n 1, 1) := by decide +kernel
theorem dX5_scanSign_5 : decode cX5_scanSign 5 = .ok (.invokevirtual 272, 3) := by decide +kernel
theorem dX5_scanSign_8 : decode cX5_scanSign 8 = .ok (.ifCond .ne 14, 3) := by decide +kernel
theorem dX5_scanSign_11 : decode cX5_scanSign 11 = .ok (.new 275, 3) := by decide +kernel
theorem dX5_scanSign_14 : decode cX5_scanSign 14 = .ok (.dup, 1) := by decide +kernel
theorem dX5_scanSign_15 : decode cX5_scanSign 15 = .ok (.ldc_w 277, 3) := by decide +kernel
theorem dX5_scanSign_18 : decode cX5_scanSign 18 = .ok (.invokespecial 279, 3) := by decide +kernel
theorem dX5_scanSign_21 : decode cX5_scanSign 21 = .ok (.athrow, 1) := by decide +kernel
theorem dX5_scanSign_22 : decode cX5_scanSign 22 = .ok (.aload_n 0, 1) := by decide +kernel
theorem dX5_scanSign_23 : decode cX5_scanSign 23 = .ok (.getfield 42, 3) := by decide +kernel
theorem dX5_scanSign_26 : decode cX5_scanSign 26 = .ok (.getfield 283, 3) := by decide +kernel
theorem dX5_scanSign_29 : decode cX5_scanSign 29 = .ok (.iload_n 1, 1) := by decide +kernel
theorem dX5_scanSign_30 : decode cX5_scanSign 30 = .ok (.caload, 1) := by decide +kernel
theorem dX5_scanSign_31 : decode cX5_scanSign 31 = .ok (.ireturn, 1) := by decide +kernel
set_option maxHeartbeats 4000000 in
set_option maxRecDepth 100000 in
theorem c_X5_scanSign (l : Launch) (hl0 : l.stackTraces = false) (g : kG) (e0 : Nat) (z : Nat → Nat) (S : wPS) (sz : Nat) (hI : Inv z e0 S) (n : Int32) : kM l g e0 yX5_scanSign cX5_scanSign 2 (some .char) 6 82 1 6 [.ref (z 0), .int n] S sz (pI (fun r T => T = S ∧ kCh r ∧ ¬ n < 0 ∧ n < pF S 42 (z 12))) (fun E => E = xI) := by
  refine kM.of (by decide) (Nat.le_of_ble_eq_true rfl) ?_
  intro p e s m below meth c ls B hin
  obtain ⟨F, hr, hlk, hte, hP, hK, hD, hE, hS, hA, hl, hsz⟩ := B
  subst hsz
  have hx := F.1
  have hb := F.2.1
  have hl : lv_has ls 2 [(0, .ref (z 0)), (1, .int n)] := hl
  refine lv_aload_n hx hb dX5_scanSign_0 rfl (lv_at hl 0 rfl) ?_
  refine rs_Pickwave_log (b := z 12) F hK hP (hI.1.1 0 (by decide)) hI.2.1.2.2.2.2.2.1 kw_32 dX5_scanSign_1 ?_
  refine lv_iload_n hx hb dX5_scanSign_4 rfl (lv_at hl 1 rfl) ?_
  refine kcallI (kV (n := 1) (As := [.int n]) (rest := []) (b := (z 12)) (C := RX4) F hE hK hP hD hS hA (c_X4_has l hl0 g e0 z S _ hI n) (rr_ScanLog hK hP (hI.1.1 12 (by decide))) kw_707 kw_708 kw_709 kw_31 kw_710 (by decide +kernel) ⟨Nat.le_of_ble_eq_true rfl, Nat.le_of_ble_eq_true rfl⟩ rfl hl.1 rfl (Nat.le_of_ble_eq_true rfl) dX5_scanSign_5 ⟨Nat.le_of_ble_eq_true rfl, Nat.le_of_ble_eq_true rfl⟩) rfl hD hS hA (fun _ _ _ _ _ h => False.elim h) (fun r1 T1 H locs hp hP hD hS => ?_)
  obtain ⟨hT, hp2⟩ := hp
  have hT := hT.symm
  subst hT
  refine lv_if_ne (tgt := 22) hx hb dX5_scanSign_8 (by decide) (fun c3 => ?_) (fun c3 => ?_)
  · have hh : ¬ n < 0 ∧ n < pF S 42 (z 12) ∧ n < 516 := by
      rcases hp2 with h | ⟨-, h⟩
      · exact absurd h c3
      · exact h
    obtain ⟨j, hj, hn⟩ := kixlt (M := 516) (N := 516) rfl (by decide) hh.1 hh.2.2
    refine lv_aload_n hx hb dX5_scanSign_22 rfl (lv_at hl 0 rfl) ?_
    refine rs_Pickwave_log (b := z 12) F hK hP (hI.1.1 0 (by decide)) hI.2.1.2.2.2.2.2.1 kw_32 dX5_scanSign_23 ?_
    refine rs_ScanLog_signs (b := z 14) F hK hP (hI.1.1 12 (by decide)) hI.2.1.2.2.2.2.2.2.2 kw_722 dX5_scanSign_26 ?_
    refine lv_iload_n hx hb dX5_scanSign_29 rfl (lv_at hl 1 rfl) ?_
    refine rd_C F hK hP (hI.1.1 14 (by decide)) (by rw [hn, hI.2.2.1.2.2.2.2.2.2]; exact vp_in_nI hj (by decide)) dX5_scanSign_30 ?_
    refine lv_topi (fun x4 ex4 => ?_)
    exact kEndI F hr (by rw [ex4]; exact (hI.sg _).1) hlk hP hD hS (Nat.le_of_ble_eq_true rfl) (Nat.le_of_ble_eq_true rfl) dX5_scanSign_31 ⟨_, rfl, ⟨rfl, (by rw [ex4]; exact hI.sg _), hh.1, hh.2.1⟩⟩
  · exact kth_IOOBEW hl0 F hE hlk hte hP hS hl.1 (List.mem_of_getElem? (i := 24) rfl) dX5_scanSign_11 dX5_scanSign_14 dX5_scanSign_15 dX5_scanSign_18 dX5_scanSign_21 ⟨Nat.le_of_ble_eq_true rfl, Nat.le_of_ble_eq_true rfl, Nat.le_of_ble_eq_true rfl, Nat.le_of_ble_eq_true rfl⟩ (Nat.le_of_ble_eq_true rfl) (Nat.le_of_ble_eq_true rfl) rfl
theorem dX5_waveOf_0 : decode cX5_waveOf 0 = .ok (.aload_n 0, 1) := by decide +kernel
theorem dX5_waveOf_1 : decode cX5_waveOf 1 = .ok (.iload_n 1, 1) := by decide +kernel
theorem dX5_waveOf_2 : decode cX5_waveOf 2 = .ok (.invokevirtual 169, 3) := by decide +kernel
theorem dX5_waveOf_5 : decode cX5_waveOf 5 = .ok (.astore_n 2, 1) := by decide +kernel
theorem dX5_waveOf_6 : decode cX5_waveOf 6 = .ok (.aload_n 2, 1) := by decide +kernel
theorem dX5_waveOf_7 : decode cX5_waveOf 7 = .ok (.getfield 226, 3) := by decide +kernel
theorem dX5_waveOf_10 : decode cX5_waveOf 10 = .ok (.iconst (-1), 1) := by decide +kernel
theorem dX5_waveOf_11 : decode cX5_waveOf 11 = .ok (.if_icmp .ne 13, 3) := by decide +kernel
theorem dX5_waveOf_14 : decode cX5_waveOf 14 = .ok (.new 229, 3) := by decide +kernel
theorem dX5_waveOf_17 : decode cX5_waveOf 17 = .ok (.dup, 1) := by decide +kernel
theorem dX5_waveOf_18 : decode cX5_waveOf 18 = .ok (.ldc 231, 2) := by decide +kernel
theorem dX5_waveOf_20 : decode cX5_waveOf 20 = .ok (.invokespecial 233, 3) := by decide +kernel
theorem dX5_waveOf_23 : decode cX5_waveOf 23 = .ok (.athrow, 1) := by decide +kernel
theorem dX5_waveOf_24 : decode cX5_waveOf 24 = .ok (.aload_n 2, 1) := by decide +kernel
theorem dX5_waveOf_25 : decode cX5_waveOf 25 = .ok (.getfield 226, 3) := by decide +kernel
theorem dX5_waveOf_28 : decode cX5_waveOf 28 = .ok (.ireturn, 1) := by decide +kernel
set_option maxHeartbeats 4000000 in
set_option maxRecDepth 100000 in
theorem c_X5_waveOf (l : Launch) (hl0 : l.stackTraces = false) (g : kG) (e0 : Nat) (z : Nat → Nat) (S : wPS) (sz : Nat) (hI : Inv z e0 S) (n : Int32) : kM l g e0 yX5_waveOf cX5_waveOf 3 (some .int) 7 103 2 12 [.ref (z 0), .int n] S sz (pI (fun r T => T = S ∧ ¬ n < 0 ∧ n < pF S 72 (z 11))) (fun E => (E = xI ∧ (n < 0 ∨ ¬ n < pF S 72 (z 11))) ∨ (E = xN ∧ ¬ n < 0 ∧ n < pF S 72 (z 11))) := by
  refine kM.of (by decide) (Nat.le_of_ble_eq_true rfl) ?_
  intro p e s m below meth c ls B hin
  obtain ⟨F, hr, hlk, hte, hP, hK, hD, hE, hS, hA, hl, hsz⟩ := B
  subst hsz
  have hx := F.1
  have hb := F.2.1
  have hl : lv_has ls 3 [(0, .ref (z 0)), (1, .int n)] := hl
  refine lv_aload_n hx hb dX5_waveOf_0 rfl (lv_at hl 0 rfl) ?_
  refine lv_iload_n hx hb dX5_waveOf_1 rfl (lv_at hl 1 rfl) ?_
  refine kcallR (kV (n := 1) (As := [.int n]) (rest := []) (b := (z 0)) (C := RX5) F hE hK hP hD hS hA (c_X5_findLine l hl0 g e0 z S _ hI n) (rr_Pickwave hK hP (hI.1.1 0 (by decide))) kw_439 kw_440 kw_441 kw_2 kw_442 (by decide +kernel) ⟨Nat.le_of_ble_eq_true rfl, Nat.le_of_ble_eq_true rfl⟩ rfl hl.1 rfl (Nat.le_of_ble_eq_true rfl) dX5_waveOf_2 ⟨Nat.le_of_ble_eq_true rfl, Nat.le_of_ble_eq_true rfl⟩) rfl hD hS hA (fun E ce q9 H1 locs1 hex hP1 hS1 hce hcv hcl => kthru hte hlk (Or.inl hex) hP1 hS1 hce hcv hcl (Nat.le_of_ble_eq_true rfl) (Nat.le_of_ble_eq_true rfl)) (fun b1 T1 H locs hp hP hD hS => ?_)
  obtain ⟨hT, hp2⟩ := hp
  have hT := hT.symm
  subst hT
  refine lv_astore_n (lv' := [(2, .ref b1), (0, .ref (z 0)), (1, .int n)]) hx hb dX5_waveOf_5 rfl hl (by decide) rfl (fun ls hl => ?_)
  refine lv_aload_n hx hb dX5_waveOf_6 rfl (lv_at hl 0 rfl) ?_
  refine rg_Line_lastWave F hK hP hp2.1 kw_560 dX5_waveOf_7 ?_
  refine lv_topi (fun x3 ex3 => ?_)
  refine lv_iconst (v := (-1)) hx hb dX5_waveOf_10 (by decide) ?_
  refine lv_icmp_ne (tgt := 24) hx hb dX5_waveOf_11 (by decide) (fun c4 => ?_) (fun c4 => ?_)
  · refine lv_aload_n hx hb dX5_waveOf_24 rfl (lv_at hl 0 rfl) ?_
    refine rg_Line_lastWave F hK hP hp2.1 kw_560 dX5_waveOf_25 ?_
    refine lv_topi (fun x5 ex5 => ?_)
    exact kEndI F hr rfl hlk hP hD hS (Nat.le_of_ble_eq_true rfl) (Nat.le_of_ble_eq_true rfl) dX5_waveOf_28 ⟨_, rfl, ⟨rfl, hp2.2⟩⟩
  · exact kth_NSEE hl0 F hE hlk hte hP hS hl.1 (List.mem_of_getElem? (i := 18) rfl) dX5_waveOf_14 dX5_waveOf_17 dX5_waveOf_18 dX5_waveOf_20 dX5_waveOf_23 ⟨Nat.le_of_ble_eq_true rfl, Nat.le_of_ble_eq_true rfl, Nat.le_of_ble_eq_true rfl, Nat.le_of_ble_eq_true rfl⟩ (Nat.le_of_ble_eq_true rfl) (Nat.le_of_ble_eq_true rfl) (Or.inr ⟨rfl, hp2.2⟩)
theorem dX5_lastScannedState_0 : decode cX5_lastScannedState 0 = .ok (.aload_n 0, 1) := by decide +kernel
theorem dX5_lastScannedState_1 : decode cX5_lastScannedState 1 = .ok (.getfield 42, 3) := by decide +kernel
theorem dX5_lastScannedState_4 : decode cX5_lastScannedState 4 = .ok (.aload_n 1, 1) := by decide +kernel
theorem dX5_lastScannedState_5 : decode cX5_lastScannedState 5 = .ok (.getfield 298, 3) := by decide +kernel
theorem dX5_lastScannedState_8 : decode cX5_lastScannedState 8 = .ok (.invokevirtual 307, 3) := by decide +kernel
theorem dX5_lastScannedState_11 : decode cX5_lastScannedState 11 = .ok (.invokestatic 299, 3) := by decide +kernel
theorem dX5_lastScannedState_14 : decode cX5_lastScannedState 14 = .ok (.ireturn, 1) := by decide +kernel
set_option maxHeartbeats 4000000 in
set_option maxRecDepth 100000 in
theorem c_X5_lastScannedState (l : Launch) (hl0 : l.stackTraces = false) (g : kG) (e0 : Nat) (z : Nat → Nat) (S : wPS) (sz : Nat) (hI : Inv z e0 S) (x : Nat) (ox : Ob S 2 x) : kM l g e0 yX5_lastScannedState cX5_lastScannedState 2 (some .char) 2 38 0 0 [.ref (z 0), .ref x] S sz (pI (fun r T => T = S ∧ kCh r)) (fun E => False) := by
  refine kM.of (by decide) (Nat.le_of_ble_eq_true rfl) ?_
  intro p e s m below meth c ls B hin
  obtain ⟨F, hr, hlk, hte, hP, hK, hD, hE, hS, hA, hl, hsz⟩ := B
  subst hsz
  have hx := F.1
  have hb := F.2.1
  have hl : lv_has ls 2 [(0, .ref (z 0)), (1, .ref x)] := hl
  refine lv_aload_n hx hb dX5_lastScannedState_0 rfl (lv_at hl 0 rfl) ?_
  refine rs_Pickwave_log (b := z 12) F hK hP (hI.1.1 0 (by decide)) hI.2.1.2.2.2.2.2.1 kw_32 dX5_lastScannedState_1 ?_
  refine lv_aload_n hx hb dX5_lastScannedState_4 rfl (lv_at hl 1 rfl) ?_
  refine rg_Line_number F hK hP ox kw_290 dX5_lastScannedState_5 ?_
  refine lv_topi (fun x1 ex1 => ?_)
  refine kcallI (kV (n := 1) (As := [.int x1]) (rest := []) (b := (z 12)) (C := RX4) F hE hK hP hD hS hA (c_X4_lastSignOf l hl0 g e0 z S _ hI x1) (rr_ScanLog hK hP (hI.1.1 12 (by decide))) kw_291 kw_292 kw_293 kw_31 kw_294 (by decide +kernel) ⟨Nat.le_of_ble_eq_true rfl, Nat.le_of_ble_eq_true rfl⟩ rfl hl.1 rfl (Nat.le_of_ble_eq_true rfl) dX5_lastScannedState_8 ⟨Nat.le_of_ble_eq_true rfl, Nat.le_of_ble_eq_true rfl⟩) rfl hD hS hA (fun _ _ _ _ _ h => False.elim h) (fun r2 T2 H locs hp hP hD hS => ?_)
  obtain ⟨hT, hp3⟩ := hp
  have hT := hT.symm
  subst hT
  refine kcallI (kSt (n := 1) (As := [.int r2]) (rest := []) F hE hK hP hD hS hA (c_X5_stateAfter l hl0 g e0 S _ r2 hp3) kw_297 kw_298 kw_2 kw_299 (by decide +kernel) ⟨Nat.le_of_ble_eq_true rfl, Nat.le_of_ble_eq_true rfl⟩ rfl hl.1 rfl (Nat.le_of_ble_eq_true rfl) dX5_lastScannedState_11 ⟨Nat.le_of_ble_eq_true rfl, Nat.le_of_ble_eq_true rfl⟩) rfl hD hS hA (fun _ _ _ _ _ h => False.elim h) (fun r4 T4 H locs hp hP hD hS => ?_)
  obtain ⟨hT, hp5⟩ := hp
  have hT := hT.symm
  subst hT
  exact kEndI F hr hp5.1 hlk hP hD hS (Nat.le_of_ble_eq_true rfl) (Nat.le_of_ble_eq_true rfl) dX5_lastScannedState_14 ⟨_, rfl, ⟨rfl, hp5⟩⟩
theorem dX5_stateByScans_0 : decode cX5_stateByScans 0 = .ok (.aload_n 0, 1) := by decide +kernel
theorem dX5_stateByScans_1 : decode cX5_stateByScans 1 = .ok (.aload_n 0, 1) := by decide +kernel
theorem dX5_stateByScans_2 : decode cX5_stateByScans 2 = .ok (.iload_n 1, 1) := by decide +kernel
theorem dX5_stateByScans_3 : decode cX5_stateByScans 3 = .ok (.invokevirtual 169, 3) := by decide +kernel
theorem dX5_stateByScans_6 : decode cX5_stateByScans 6 = .ok (.invokevirtual 110, 3) := by decide +kernel
theorem dX5_stateByScans_9 : decode cX5_stateByScans 9 = .ok (.ireturn, 1) := by decide +kernel
set_option maxHeartbeats 4000000 in
set_option maxRecDepth 100000 in
theorem c_X5_stateByScans (l : Launch) (hl0 : l.stackTraces = false) (g : kG) (e0 : Nat) (z : Nat → Nat) (S : wPS) (sz : Nat) (hI : Inv z e0 S) (n : Int32) : kM l g e0 yX5_stateByScans cX5_stateByScans 2 (some .char) 7 103 1 6 [.ref (z 0), .int n] S sz (pI (fun r T => T = S ∧ kCh r ∧ ¬ n < 0 ∧ n < pF S 72 (z 11))) (fun E => E = xI ∧ (n < 0 ∨ ¬ n < pF S 72 (z 11))) := by
  refine kM.of (by decide) (Nat.le_of_ble_eq_true rfl) ?_
  intro p e s m below meth c ls B hin
  obtain ⟨F, hr, hlk, hte, hP, hK, hD, hE, hS, hA, hl, hsz⟩ := B
  subst hsz
  have hx := F.1
  have hb := F.2.1
  have hl : lv_has ls 2 [(0, .ref (z 0)), (1, .int n)] := hl
  refine lv_aload_n hx hb dX5_stateByScans_0 rfl (lv_at hl 0 rfl) ?_
  refine lv_aload_n hx hb dX5_stateByScans_1 rfl (lv_at hl 0 rfl) ?_
  refine lv_iload_n hx hb dX5_stateByScans_2 rfl (lv_at hl 1 rfl) ?_
  refine kcallR (kV (n := 1) (As := [.int n]) (rest := [.ref (z 0)]) (b := (z 0)) (C := RX5) F hE hK hP hD hS hA (c_X5_findLine l hl0 g e0 z S _ hI n) (rr_Pickwave hK hP (hI.1.1 0 (by decide))) kw_439 kw_440 kw_441 kw_2 kw_442 (by decide +kernel) ⟨Nat.le_of_ble_eq_true rfl, Nat.le_of_ble_eq_true rfl⟩ rfl hl.1 rfl (Nat.le_of_ble_eq_true rfl) dX5_stateByScans_3 ⟨Nat.le_of_ble_eq_true rfl, Nat.le_of_ble_eq_true rfl⟩) rfl hD hS hA (fun E ce q9 H1 locs1 hex hP1 hS1 hce hcv hcl => kthru hte hlk (hex) hP1 hS1 hce hcv hcl (Nat.le_of_ble_eq_true rfl) (Nat.le_of_ble_eq_true rfl)) (fun b1 T1 H locs hp hP hD hS => ?_)
  obtain ⟨hT, hp2⟩ := hp
  have hT := hT.symm
  subst hT
  refine kcallI (kV (n := 1) (As := [.ref b1]) (rest := []) (b := (z 0)) (C := RX5) F hE hK hP hD hS hA (c_X5_lastScannedState l hl0 g e0 z S _ hI b1 hp2.1) (rr_Pickwave hK hP (hI.1.1 0 (by decide))) kw_286 kw_287 kw_288 kw_2 kw_289 (by decide +kernel) ⟨Nat.le_of_ble_eq_true rfl, Nat.le_of_ble_eq_true rfl⟩ rfl hl.1 rfl (Nat.le_of_ble_eq_true rfl) dX5_stateByScans_6 ⟨Nat.le_of_ble_eq_true rfl, Nat.le_of_ble_eq_true rfl⟩) rfl hD hS hA (fun _ _ _ _ _ h => False.elim h) (fun r3 T3 H locs hp hP hD hS => ?_)
  obtain ⟨hT, hp4⟩ := hp
  have hT := hT.symm
  subst hT
  exact kEndI F hr hp4.1 hlk hP hD hS (Nat.le_of_ble_eq_true rfl) (Nat.le_of_ble_eq_true rfl) dX5_stateByScans_9 ⟨_, rfl, ⟨rfl, hp4, hp2.2⟩⟩
theorem dX5_promisedByScans_0 : decode cX5_promisedByScans 0 = .ok (.aload_n 0, 1) := by decide +kernel
theorem dX5_promisedByScans_1 : decode cX5_promisedByScans 1 = .ok (.iload_n 1, 1) := by decide +kernel
theorem dX5_promisedByScans_2 : decode cX5_promisedByScans 2 = .ok (.invokevirtual 83, 3) := by decide +kernel
theorem dX5_promisedByScans_5 : decode cX5_promisedByScans 5 = .ok (.astore_n 2, 1) := by decide +kernel
theorem dX5_promisedByScans_6 : decode cX5_promisedByScans 6 = .ok (.iconst 0, 1) := by decide +kernel
theorem dX5_promisedByScans_7 : decode cX5_promisedByScans 7 = .ok (.istore_n 3, 1) := by decide +kernel
theorem dX5_promisedByScans_8 : decode cX5_promisedByScans 8 = .ok (.iconst 0, 1) := by decide +kernel
theorem dX5_promisedByScans_9 : decode cX5_promisedByScans 9 = .ok (.istore 4, 2) := by decide +kernel
theorem dX5_promisedByScans_11 : decode cX5_promisedByScans 11 = .ok (.iload 4, 2) := by decide +kernel
theorem dX5_promisedByScans_13 : decode cX5_promisedByScans 13 = .ok (.aload_n 0, 1) := by decide +kernel
theorem dX5_promisedByScans_14 : decode cX5_promisedByScans 14 = .ok (.getfield 36, 3) := by decide +kernel
theorem dX5_promisedByScans_17 : decode cX5_promisedByScans 17 = .ok (.invokevirtual 65, 3) := by decide +kernel
theorem dX5_promisedByScans_20 : decode cX5_promisedByScans 20 = .ok (.if_icmp .ge 51, 3) := by decide +kernel
theorem dX5_promisedByScans_23 : decode cX5_promisedByScans 23 = .ok (.aload_n 0, 1) := by decide +kernel
theorem dX5_promisedByScans_24 : decode cX5_promisedByScans 24 = .ok (.getfield 36, 3) := by decide +kernel
theorem dX5_promisedByScans_27 : decode cX5_promisedByScans 27 = .ok (.iload 4, 2) := by decide +kernel
theorem dX5_promisedByScans_29 : decode cX5_promisedByScans 29 = .ok (.invokevirtual 100, 3) := by decide +kernel
theorem dX5_promisedByScans_32 : decode cX5_promisedByScans 32 = .ok (.checkcast 104, 3) := by decide +kernel
theorem dX5_promisedByScans_35 : decode cX5_promisedByScans 35 = .ok (.astore 5, 2) := by decide +kernel
theorem dX5_promisedByScans_37 : decode cX5_promisedByScans 37 = .ok (.aload 5, 2) := by decide +kernel
theorem dX5_promisedByScans_39 : decode cX5_promisedByScans 39 = .ok (.getfield 106, 3) := by decide +kernel
theorem dX5_promisedByScans_42 : decode cX5_promisedByScans 42 = .ok (.aload_n 2, 1) := by decide +kernel
theorem dX5_promisedByScans_43 : decode cX5_promisedByScans 43 = .ok (.if_acmp .ne 22, 3) := by decide +kernel
theorem dX5_promisedByScans_46 : decode cX5_promisedByScans 46 = .ok (.aload_n 0, 1) := by decide +kernel
theorem dX5_promisedByScans_47 : decode cX5_promisedByScans 47 = .ok (.aload 5, 2) := by decide +kernel
theorem dX5_promisedByScans_49 : decode cX5_promisedByScans 49 = .ok (.invokevirtual 110, 3) := by decide +kernel
theorem dX5_promisedByScans_52 : decode cX5_promisedByScans 52 = .ok (.bipush 112, 2) := by decide +kernel
theorem dX5_promisedByScans_54 : decode cX5_promisedByScans 54 = .ok (.if_icmp .ne 11, 3) := by decide +kernel
theorem dX5_promisedByScans_57 : decode cX5_promisedByScans 57 = .ok (.iload_n 3, 1) := by decide +kernel
theorem dX5_promisedByScans_58 : decode cX5_promisedByScans 58 = .ok (.aload 5, 2) := by decide +kernel
theorem dX5_promisedByScans_60 : decode cX5_promisedByScans 60 = .ok (.getfield 114, 3) := by decide +kernel
theorem dX5_promisedByScans_63 : decode cX5_promisedByScans 63 = .ok (.iadd, 1) := by decide +kernel
theorem dX5_promisedByScans_64 : decode cX5_promisedByScans 64 = .ok (.istore_n 3, 1) := by decide +kernel
theorem dX5_promisedByScans_65 : decode cX5_promisedByScans 65 = .ok (.iinc 4 1, 3) := by decide +kernel
theorem dX5_promisedByScans_68 : decode cX5_promisedByScans 68 = .ok (.goto (-57), 3) := by decide +kernel
theorem dX5_promisedByScans_71 : decode cX5_promisedByScans 71 = .ok (.iload_n 3, 1) := by decide +kernel
theorem dX5_promisedByScans_72 : decode cX5_promisedByScans 72 = .ok (.ireturn, 1) := by decide +kernel
set_option maxHeartbeats 4000000 in
set_option maxRecDepth 100000 in
theorem c_X5_promisedByScans (l : Launch) (hl0 : l.stackTraces = false) (g : kG) (e0 : Nat) (z : Nat → Nat) (S : wPS) (sz : Nat) (hI : Inv z e0 S) (n : Int32) : kM l g e0 yX5_promisedByScans cX5_promisedByScans 6 (some .int) 7 103 1 6 [.ref (z 0), .int n] S sz (pI (fun r T => T = S ∧ ¬ n < 0 ∧ n < pF S 72 (z 10))) (fun E => E = xI ∧ (n < 0 ∨ ¬ n < pF S 72 (z 10))) := by
  refine kM.of (by decide) (Nat.le_of_ble_eq_true rfl) ?_
  intro p e s m below meth c ls B hin
  obtain ⟨F, hr, hlk, hte, hP, hK, hD, hE, hS, hA, hl, hsz⟩ := B
  subst hsz
  have hx := F.1
  have hb := F.2.1
  have hl : lv_has ls 6 [(0, .ref (z 0)), (1, .int n)] := hl
  obtain ⟨m1, hm1, hL1⟩ := hI.lines
  refine lv_aload_n hx hb dX5_promisedByScans_0 rfl (lv_at hl 0 rfl) ?_
  refine lv_iload_n hx hb dX5_promisedByScans_1 rfl (lv_at hl 1 rfl) ?_
  refine kcallR (kV (n := 1) (As := [.int n]) (rest := []) (b := (z 0)) (C := RX5) F hE hK hP hD hS hA (c_X5_findArticle l hl0 g e0 z S _ hI n) (rr_Pickwave hK hP (hI.1.1 0 (by decide))) kw_196 kw_197 kw_198 kw_2 kw_199 (by decide +kernel) ⟨Nat.le_of_ble_eq_true rfl, Nat.le_of_ble_eq_true rfl⟩ rfl hl.1 rfl (Nat.le_of_ble_eq_true rfl) dX5_promisedByScans_2 ⟨Nat.le_of_ble_eq_true rfl, Nat.le_of_ble_eq_true rfl⟩) rfl hD hS hA (fun E ce q9 H1 locs1 hex hP1 hS1 hce hcv hcl => kthru hte hlk (hex) hP1 hS1 hce hcv hcl (Nat.le_of_ble_eq_true rfl) (Nat.le_of_ble_eq_true rfl)) (fun b1 T1 H locs hp hP hD hS => ?_)
  obtain ⟨hT, hp2⟩ := hp
  have hT := hT.symm
  subst hT
  refine lv_astore_n (lv' := [(2, .ref b1), (0, .ref (z 0)), (1, .int n)]) hx hb dX5_promisedByScans_5 rfl hl (by decide) rfl (fun ls hl => ?_)
  refine lv_iconst (v := 0) hx hb dX5_promisedByScans_6 (by decide) ?_
  refine lv_istore_n (lv' := [(3, .int 0), (2, .ref b1), (0, .ref (z 0)), (1, .int n)]) hx hb dX5_promisedByScans_7 rfl hl (by decide) rfl (fun ls hl => ?_)
  refine lv_iconst (v := 0) hx hb dX5_promisedByScans_8 (by decide) ?_
  refine lv_istore (lv' := [(4, .int 0), (3, .int 0), (2, .ref b1), (0, .ref (z 0)), (1, .int n)]) hx hb dX5_promisedByScans_9 hl (by decide) rfl (fun ls hl => ?_)
  have loop : ∀ (fu : Nat) (i : Nat) (xi sm : Int32) (H : Heap) (locs : List Loc) (ls : Array Slot), va_P (kD g) vwCl (kW g S) H → va_D (kA (pL S) s.heap.size) (kW g S) → va_S (kA (pL S) s.heap.size) s.heap H locs → lv_has ls 6 [(4, .int xi), (3, .int sm), (2, .ref b1), (0, .ref (z 0)), (1, .int n)] → m1 - i < fu → (xi = nI i) → (i ≤ m1) → W p l e ({ frames := 7, cells := 1, slots := 6, locals := 103 }) s m ([.ref (z 0), .int n] : List Value).toArray below meth c H locs 1 6 (vx_MQ below (kQ g S s.heap.size (pI (fun r T => T = S ∧ ¬ n < 0 ∧ n < pF S 72 (z 10)))) (kX g S s.heap.size (fun E => E = xI ∧ (n < 0 ∨ ¬ n < pF S 72 (z 10)))) ([.ref (z 0), .int n] : List Value).toArray s 1 6 (kA (pL S) s.heap.size)) (F0 m 11 ls []) := by
    intro fu
    induction fu with
    | zero => intro i xi sm H locs ls hP hD hS hl hn hi hin; exact absurd hn (Nat.not_lt_zero _)
    | succ fu ih =>
      intro i xi sm H locs ls hP hD hS hl hn hi hin
      have hLT : LI S e0 (z 11) 2 m1 := hL1
      refine lv_iload hx hb dX5_promisedByScans_11 (lv_at hl 0 rfl) ?_
      refine lv_aload_n hx hb dX5_promisedByScans_13 rfl (lv_at hl 3 rfl) ?_
      refine rs_Pickwave_lines (b := z 11) F hK hP (hI.1.1 0 (by decide)) hI.2.1.2.2.2.2.1 kw_28 dX5_promisedByScans_14 ?_
      refine kcallI (kV (n := 0) (As := []) (rest := [.int xi]) (b := (z 11)) (C := RJx4a65c) F hE hK hP hD hS hA (c_Jx4a65c_size_8abf5 l hl0 g e0 S _ (z 11) (hI.1.1 11 (by decide))) (rr_ArrayList hK hP (hI.1.1 11 (by decide))) kw_109 kw_110 kw_111 kw_26 kw_112 (by decide +kernel) ⟨Nat.le_of_ble_eq_true rfl, Nat.le_of_ble_eq_true rfl⟩ rfl hl.1 rfl (Nat.le_of_ble_eq_true rfl) dX5_promisedByScans_17 ⟨Nat.le_of_ble_eq_true rfl, Nat.le_of_ble_eq_true rfl⟩) rfl hD hS hA (fun _ _ _ _ _ h => False.elim h) (fun r3 T3 H locs hp hP hD hS => ?_)
      obtain ⟨hT, hp4⟩ := hp
      have hT := hT.symm
      subst hT
      refine lv_icmp_ge (tgt := 71) hx hb dX5_promisedByScans_20 (by decide) (fun c5 => ?_) (fun c5 => ?_)
      · refine lv_iload_n hx hb dX5_promisedByScans_71 rfl (lv_at hl 1 rfl) ?_
        exact kEndI F hr rfl hlk hP hD hS (Nat.le_of_ble_eq_true rfl) (Nat.le_of_ble_eq_true rfl) dX5_promisedByScans_72 ⟨_, rfl, ⟨rfl, hp2.2⟩⟩
      · obtain ⟨him, hx0, hx1⟩ := klp hLT ⟨hm1, hin⟩ hi hp4 c5
        refine lv_aload_n hx hb dX5_promisedByScans_23 rfl (lv_at hl 3 rfl) ?_
        refine rs_Pickwave_lines (b := z 11) F hK hP (hI.1.1 0 (by decide)) hI.2.1.2.2.2.2.1 kw_28 dX5_promisedByScans_24 ?_
        refine lv_iload hx hb dX5_promisedByScans_27 (lv_at hl 0 rfl) ?_
        refine kcallR (kV (n := 1) (As := [.int xi]) (rest := []) (b := (z 11)) (C := RJx4a65c) F hE hK hP hD hS hA (c_Jx4a65c_get_915e3 l hl0 g e0 S _ (z 11) 2 _ xi (hI.1.1 11 (by decide)) hLT hx0 hx1 (by omega)) (rr_ArrayList hK hP (hI.1.1 11 (by decide))) kw_203 kw_204 kw_205 kw_26 kw_206 (by decide +kernel) ⟨Nat.le_of_ble_eq_true rfl, Nat.le_of_ble_eq_true rfl⟩ rfl hl.1 rfl (Nat.le_of_ble_eq_true rfl) dX5_promisedByScans_29 ⟨Nat.le_of_ble_eq_true rfl, Nat.le_of_ble_eq_true rfl⟩) rfl hD hS hA (fun _ _ _ _ _ h => False.elim h) (fun b6 T6 H locs hp hP hD hS => ?_)
        obtain ⟨hT, hp7⟩ := hp
        have hT := hT.symm
        subst hT
        refine va_castS hx hb F.2.2.2.1 (F.2.2.2.2 _ kw_283) (hK.1 3 _ rfl).2 (rr_Line hK hP hp7.1) dX5_promisedByScans_32 ?_
        refine lv_astore (lv' := [(5, .ref b6), (4, .int xi), (3, .int sm), (2, .ref b1), (0, .ref (z 0)), (1, .int n)]) hx hb dX5_promisedByScans_35 hl (by decide) rfl (fun ls hl => ?_)
        refine lv_aload hx hb dX5_promisedByScans_37 (lv_at hl 0 rfl) ?_
        obtain ⟨b8, hb8, ob8⟩ := hI.2.2.2.2.2.2.1 b6 hp7.1
        refine rs_Line_article (b := b8) F hK hP hp7.1 hb8 kw_284 dX5_promisedByScans_39 ?_
        refine lv_aload_n hx hb dX5_promisedByScans_42 rfl (lv_at hl 3 rfl) ?_
        refine lv_acmp_ne (rx := (some b8)) (ry := (some b1)) (tgt := 65) hx hb dX5_promisedByScans_43 (by decide) (fun c9 => ?_) (fun c9 => ?_)
        · obtain ⟨x10, ex10⟩ : ∃ y : Int32, y = xi + 1 := ⟨_, rfl⟩
          refine lv_iinc (v := x10) (lv' := [(4, .int x10), (5, .ref b6), (3, .int sm), (2, .ref b1), (0, .ref (z 0)), (1, .int n)]) hx hb dX5_promisedByScans_65 hl (k := 1) rfl (by rw [ex10]; rfl) (by decide) rfl (fun ls hl => ?_)
          refine lv_goto (tgt := 11) hx hb dX5_promisedByScans_68 (by decide) ?_
          exact ih (i + 1) x10 sm H locs ls hP hD hS (lv_sub hl [0, 2, 3, 4, 5] rfl) (by omega) (by rw [ex10, hi]; exact nI_1 i) him
        · refine lv_aload_n hx hb dX5_promisedByScans_46 rfl (lv_at hl 4 rfl) ?_
          refine lv_aload hx hb dX5_promisedByScans_47 (lv_at hl 0 rfl) ?_
          refine kcallI (kV (n := 1) (As := [.ref b6]) (rest := []) (b := (z 0)) (C := RX5) F hE hK hP hD hS hA (c_X5_lastScannedState l hl0 g e0 z S _ hI b6 hp7.1) (rr_Pickwave hK hP (hI.1.1 0 (by decide))) kw_286 kw_287 kw_288 kw_2 kw_289 (by decide +kernel) ⟨Nat.le_of_ble_eq_true rfl, Nat.le_of_ble_eq_true rfl⟩ rfl hl.1 rfl (Nat.le_of_ble_eq_true rfl) dX5_promisedByScans_49 ⟨Nat.le_of_ble_eq_true rfl, Nat.le_of_ble_eq_true rfl⟩) rfl hD hS hA (fun _ _ _ _ _ h => False.elim h) (fun r11 T11 H locs hp hP hD hS => ?_)
          obtain ⟨hT, hp12⟩ := hp
          have hT := hT.symm
          subst hT
          refine lv_bipush (v := 112) hx hb dX5_promisedByScans_52 (by decide) ?_
          refine lv_icmp_ne (tgt := 65) hx hb dX5_promisedByScans_54 (by decide) (fun c13 => ?_) (fun c13 => ?_)
          · obtain ⟨x14, ex14⟩ : ∃ y : Int32, y = xi + 1 := ⟨_, rfl⟩
            refine lv_iinc (v := x14) (lv' := [(4, .int x14), (5, .ref b6), (3, .int sm), (2, .ref b1), (0, .ref (z 0)), (1, .int n)]) hx hb dX5_promisedByScans_65 hl (k := 1) rfl (by rw [ex14]; rfl) (by decide) rfl (fun ls hl => ?_)
            refine lv_goto (tgt := 11) hx hb dX5_promisedByScans_68 (by decide) ?_
            exact ih (i + 1) x14 sm H locs ls hP hD hS (lv_sub hl [0, 2, 3, 4, 5] rfl) (by omega) (by rw [ex14, hi]; exact nI_1 i) him
          · refine lv_iload_n hx hb dX5_promisedByScans_57 rfl (lv_at hl 2 rfl) ?_
            refine lv_aload hx hb dX5_promisedByScans_58 (lv_at hl 0 rfl) ?_
            refine rg_Line_amount F hK hP hp7.1 kw_285 dX5_promisedByScans_60 ?_
            refine lv_topi (fun x15 ex15 => ?_)
            refine lv_iadd hx hb dX5_promisedByScans_63 ?_
            refine lv_topi (fun x16 ex16 => ?_)
            refine lv_istore_n (lv' := [(3, .int x16), (5, .ref b6), (4, .int xi), (2, .ref b1), (0, .ref (z 0)), (1, .int n)]) hx hb dX5_promisedByScans_64 rfl hl (by decide) rfl (fun ls hl => ?_)
            obtain ⟨x17, ex17⟩ : ∃ y : Int32, y = xi + 1 := ⟨_, rfl⟩
            refine lv_iinc (v := x17) (lv' := [(4, .int x17), (3, .int x16), (5, .ref b6), (2, .ref b1), (0, .ref (z 0)), (1, .int n)]) hx hb dX5_promisedByScans_65 hl (k := 2) rfl (by rw [ex17]; rfl) (by decide) rfl (fun ls hl => ?_)
            refine lv_goto (tgt := 11) hx hb dX5_promisedByScans_68 (by decide) ?_
            exact ih (i + 1) x17 x16 H locs ls hP hD hS (lv_sub hl [0, 1, 3, 4, 5] rfl) (by omega) (by rw [ex17, hi]; exact nI_1 i) him
  exact loop 13 0 0 0 _ _ _ hP hD hS (lv_sub hl [0, 1, 2, 3, 4] rfl) (by omega) rfl (Nat.zero_le _)
