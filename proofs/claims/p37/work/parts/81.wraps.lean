theorem dL_addArticle_0 : decode cL_addArticle 0 = .ok (.aload_n 0, 1) := by decide +kernel
theorem dL_addArticle_1 : decode cL_addArticle 1 = .ok (.iload_n 1, 1) := by decide +kernel
theorem dL_addArticle_2 : decode cL_addArticle 2 = .ok (.iload_n 2, 1) := by decide +kernel
theorem dL_addArticle_3 : decode cL_addArticle 3 = .ok (.iload_n 3, 1) := by decide +kernel
theorem dL_addArticle_4 : decode cL_addArticle 4 = .ok (.iload 4, 2) := by decide +kernel
theorem dL_addArticle_6 : decode cL_addArticle 6 = .ok (.invokevirtual 14, 3) := by decide +kernel
theorem dL_addArticle_9 : decode cL_addArticle 9 = .ok (.ireturn, 1) := by decide +kernel
theorem dL_addArticle_10 : decode cL_addArticle 10 = .ok (.astore 5, 2) := by decide +kernel
theorem dL_addArticle_12 : decode cL_addArticle 12 = .ok (.bipush (-78), 2) := by decide +kernel
theorem dL_addArticle_14 : decode cL_addArticle 14 = .ok (.ireturn, 1) := by decide +kernel
theorem dL_addArticle_15 : decode cL_addArticle 15 = .ok (.astore 5, 2) := by decide +kernel
theorem dL_addArticle_17 : decode cL_addArticle 17 = .ok (.bipush (-79), 2) := by decide +kernel
theorem dL_addArticle_19 : decode cL_addArticle 19 = .ok (.ireturn, 1) := by decide +kernel
set_option maxHeartbeats 4000000 in
set_option maxRecDepth 100000 in
theorem kh_addArticle (l : Launch) (g : kG) (e0 : Nat) (S : wPS) (sz x : Nat) (n1 n2 n3 n4 : Int32) (po : Int32 → wPS → Prop) (Ex : String → Prop) (hx0 : Ob S 5 x) (hM : kM l g e0 yX5_addArticle cX5_addArticle 5 (some .int) 6 101 2 15 [.ref x, .int n1, .int n2, .int n3, .int n4] S sz (pI po) Ex) (hex : ∀ E, Ex E → E = xA ∨ E = xS) : kMh l g e0 yL_addArticle (.codeWith yL_addArticle cL_addArticle 6 (some .int) [(0, 9, 10, 20), (0, 9, 15, 22)]) 7 125 2 15 [.ref x, .int n1, .int n2, .int n3, .int n4] S sz (pI (fun r T => po r T ∨ (r = -78 ∧ Ex xA ∧ T = S) ∨ (r = -79 ∧ Ex xS ∧ T = S))) := by
  refine kMh.of (by decide) (Nat.le_of_ble_eq_true rfl) ?_
  intro p e s m below meth c ls B ht
  obtain ⟨F, hr, hlk, hP, hK, hD, hE, hNc, hS, hA, hl, hsz⟩ := B
  subst hsz
  have hx := F.1
  have hb := F.2.1
  have hl : lv_has ls 6 [(0, .ref x), (1, .int n1), (2, .int n2), (3, .int n3), (4, .int n4)] := hl
  refine lv_aload_n hx hb dL_addArticle_0 rfl (lv_at hl 0 rfl) ?_
  refine lv_iload_n hx hb dL_addArticle_1 rfl (lv_at hl 1 rfl) ?_
  refine lv_iload_n hx hb dL_addArticle_2 rfl (lv_at hl 2 rfl) ?_
  refine lv_iload_n hx hb dL_addArticle_3 rfl (lv_at hl 3 rfl) ?_
  refine lv_iload hx hb dL_addArticle_4 (lv_at hl 4 rfl) ?_
  refine kcallWI (kV (n := 4) (As := [.int n1, .int n2, .int n3, .int n4]) (rest := []) (b := x) (C := RX5) F hE hK hP hD hS hA hM (rr_Pickwave hK hP hx0) kw_72 kw_73 kw_74 kw_2 kw_75 (by decide +kernel) ⟨Nat.le_of_ble_eq_true rfl, Nat.le_of_ble_eq_true rfl⟩ rfl hl.1 rfl (Nat.le_of_ble_eq_true rfl) dL_addArticle_6 ⟨Nat.le_of_ble_eq_true rfl, Nat.le_of_ble_eq_true rfl⟩) rfl hD hS hA (fun E ce q9 H1 locs1 hex1 hP1 _ hf1 hS1 hce hcv hcl => ?_) (fun r S1 H1 locs1 hp hP1 hD1 hDA _ hf1 hS1 => ?_)
  · rcases hex E hex1 with rfl | rfl
    · refine vx_catch (name := "java/lang/IllegalArgumentException") F.2.2.2.1 [] ⟨0, 9, 10, 20⟩ [⟨0, 9, 15, 22⟩] (ht.trans rfl) (fun z hz => by cases hz) rfl (by decide) (F.2.2.2.2 _ kw_70) (va_any rfl (hE.2.2.2.2.2.2.2.2.2.2.2.2.2.2.2.2 _ (List.mem_of_getElem? (i := 0) rfl))) hce hcv hcl ?_
      refine lv_astore (lv' := [(5, .ref q9), (0, .ref x), (1, .int n1), (2, .int n2), (3, .int n3), (4, .int n4)]) hx hb dL_addArticle_10 hl (by decide) rfl (fun ls hl => ?_)
      refine lv_bipush (v := (-78)) hx hb dL_addArticle_12 (by decide) ?_
      exact kEndhI F hr hlk hP1 hD hS1 (Nat.le_of_ble_eq_true rfl) (Nat.le_of_ble_eq_true rfl) dL_addArticle_14 ⟨_, rfl, Or.inr (Or.inl ⟨rfl, hex1, rfl⟩)⟩
    · refine vx_catch (name := "java/lang/IllegalStateException") F.2.2.2.1 [⟨0, 9, 10, 20⟩] ⟨0, 9, 15, 22⟩ [] (ht.trans rfl) (fun z hz => by rcases List.mem_cons.mp hz with rfl | hz; exact Or.inr ⟨by decide, "java/lang/IllegalArgumentException", F.2.2.2.2 _ kw_70, hNc _ (List.mem_of_getElem? (i := 2) rfl)⟩; exact absurd hz List.not_mem_nil) rfl (by decide) (F.2.2.2.2 _ kw_71) (va_any rfl (hE.2.2.2.2.2.2.2.2.2.2.2.2.2.2.2.2 _ (List.mem_of_getElem? (i := 1) rfl))) hce hcv hcl ?_
      refine lv_astore (lv' := [(5, .ref q9), (0, .ref x), (1, .int n1), (2, .int n2), (3, .int n3), (4, .int n4)]) hx hb dL_addArticle_15 hl (by decide) rfl (fun ls hl => ?_)
      refine lv_bipush (v := (-79)) hx hb dL_addArticle_17 (by decide) ?_
      exact kEndhI F hr hlk hP1 hD hS1 (Nat.le_of_ble_eq_true rfl) (Nat.le_of_ble_eq_true rfl) dL_addArticle_19 ⟨_, rfl, Or.inr (Or.inr (⟨rfl, hex1, rfl⟩))⟩
  · have hQ1 := hP1
    exact kEndhI F hr hlk hP1 hDA hS1 (Nat.le_of_ble_eq_true rfl) (Nat.le_of_ble_eq_true rfl) dL_addArticle_9 ⟨_, rfl, Or.inl hp⟩
theorem dL_aisleOf_0 : decode cL_aisleOf 0 = .ok (.aload_n 0, 1) := by decide +kernel
theorem dL_aisleOf_1 : decode cL_aisleOf 1 = .ok (.iload_n 1, 1) := by decide +kernel
theorem dL_aisleOf_2 : decode cL_aisleOf 2 = .ok (.invokevirtual 98, 3) := by decide +kernel
theorem dL_aisleOf_5 : decode cL_aisleOf 5 = .ok (.ireturn, 1) := by decide +kernel
theorem dL_aisleOf_6 : decode cL_aisleOf 6 = .ok (.astore_n 2, 1) := by decide +kernel
theorem dL_aisleOf_7 : decode cL_aisleOf 7 = .ok (.bipush (-77), 2) := by decide +kernel
theorem dL_aisleOf_9 : decode cL_aisleOf 9 = .ok (.ireturn, 1) := by decide +kernel
theorem dL_aisleOf_10 : decode cL_aisleOf 10 = .ok (.astore_n 2, 1) := by decide +kernel
theorem dL_aisleOf_11 : decode cL_aisleOf 11 = .ok (.bipush (-75), 2) := by decide +kernel
theorem dL_aisleOf_13 : decode cL_aisleOf 13 = .ok (.ireturn, 1) := by decide +kernel
set_option maxHeartbeats 4000000 in
set_option maxRecDepth 100000 in
theorem kh_aisleOf (l : Launch) (g : kG) (e0 : Nat) (S : wPS) (sz x : Nat) (n1 : Int32) (po : Int32 → wPS → Prop) (Ex : String → Prop) (hx0 : Ob S 5 x) (hM : kM l g e0 yX5_aisleOf cX5_aisleOf 3 (some .int) 7 103 2 12 [.ref x, .int n1] S sz (pI po) Ex) (hex : ∀ E, Ex E → E = xI ∨ E = xN) : kMh l g e0 yL_aisleOf (.codeWith yL_aisleOf cL_aisleOf 3 (some .int) [(0, 5, 6, 28), (0, 5, 10, 84)]) 8 125 2 12 [.ref x, .int n1] S sz (pI (fun r T => po r T ∨ (r = -77 ∧ Ex xI ∧ T = S) ∨ (r = -75 ∧ Ex xN ∧ T = S))) := by
  refine kMh.of (by decide) (Nat.le_of_ble_eq_true rfl) ?_
  intro p e s m below meth c ls B ht
  obtain ⟨F, hr, hlk, hP, hK, hD, hE, hNc, hS, hA, hl, hsz⟩ := B
  subst hsz
  have hx := F.1
  have hb := F.2.1
  have hl : lv_has ls 3 [(0, .ref x), (1, .int n1)] := hl
  refine lv_aload_n hx hb dL_aisleOf_0 rfl (lv_at hl 0 rfl) ?_
  refine lv_iload_n hx hb dL_aisleOf_1 rfl (lv_at hl 1 rfl) ?_
  refine kcallWI (kV (n := 1) (As := [.int n1]) (rest := []) (b := x) (C := RX5) F hE hK hP hD hS hA hM (rr_Pickwave hK hP hx0) kw_470 kw_471 kw_472 kw_2 kw_473 (by decide +kernel) ⟨Nat.le_of_ble_eq_true rfl, Nat.le_of_ble_eq_true rfl⟩ rfl hl.1 rfl (Nat.le_of_ble_eq_true rfl) dL_aisleOf_2 ⟨Nat.le_of_ble_eq_true rfl, Nat.le_of_ble_eq_true rfl⟩) rfl hD hS hA (fun E ce q9 H1 locs1 hex1 hP1 _ hf1 hS1 hce hcv hcl => ?_) (fun r S1 H1 locs1 hp hP1 hD1 hDA _ hf1 hS1 => ?_)
  · rcases hex E hex1 with rfl | rfl
    · refine vx_catch (name := "java/lang/IndexOutOfBoundsException") F.2.2.2.1 [] ⟨0, 5, 6, 28⟩ [⟨0, 5, 10, 84⟩] (ht.trans rfl) (fun z hz => by cases hz) rfl (by decide) (F.2.2.2.2 _ kw_191) (va_any rfl (hE.2.2.2.2.2.2.2.2.2.2.2.2.2.2.2.2 _ (List.mem_of_getElem? (i := 2) rfl))) hce hcv hcl ?_
      refine lv_astore_n (lv' := [(2, .ref q9), (0, .ref x), (1, .int n1)]) hx hb dL_aisleOf_6 rfl hl (by decide) rfl (fun ls hl => ?_)
      refine lv_bipush (v := (-77)) hx hb dL_aisleOf_7 (by decide) ?_
      exact kEndhI F hr hlk hP1 hD hS1 (Nat.le_of_ble_eq_true rfl) (Nat.le_of_ble_eq_true rfl) dL_aisleOf_9 ⟨_, rfl, Or.inr (Or.inl ⟨rfl, hex1, rfl⟩)⟩
    · refine vx_catch (name := "java/util/NoSuchElementException") F.2.2.2.1 [⟨0, 5, 6, 28⟩] ⟨0, 5, 10, 84⟩ [] (ht.trans rfl) (fun z hz => by rcases List.mem_cons.mp hz with rfl | hz; exact Or.inr ⟨by decide, "java/lang/IndexOutOfBoundsException", F.2.2.2.2 _ kw_191, hNc _ (List.mem_of_getElem? (i := 6) rfl)⟩; exact absurd hz List.not_mem_nil) rfl (by decide) (F.2.2.2.2 _ kw_284) (va_any rfl (hE.2.2.2.2.2.2.2.2.2.2.2.2.2.2.2.2 _ (List.mem_of_getElem? (i := 4) rfl))) hce hcv hcl ?_
      refine lv_astore_n (lv' := [(2, .ref q9), (0, .ref x), (1, .int n1)]) hx hb dL_aisleOf_10 rfl hl (by decide) rfl (fun ls hl => ?_)
      refine lv_bipush (v := (-75)) hx hb dL_aisleOf_11 (by decide) ?_
      exact kEndhI F hr hlk hP1 hD hS1 (Nat.le_of_ble_eq_true rfl) (Nat.le_of_ble_eq_true rfl) dL_aisleOf_13 ⟨_, rfl, Or.inr (Or.inr (⟨rfl, hex1, rfl⟩))⟩
  · have hQ1 := hP1
    exact kEndhI F hr hlk hP1 hDA hS1 (Nat.le_of_ble_eq_true rfl) (Nat.le_of_ble_eq_true rfl) dL_aisleOf_5 ⟨_, rfl, Or.inl hp⟩
theorem dL_amount_0 : decode cL_amount 0 = .ok (.aload_n 0, 1) := by decide +kernel
theorem dL_amount_1 : decode cL_amount 1 = .ok (.iload_n 1, 1) := by decide +kernel
theorem dL_amount_2 : decode cL_amount 2 = .ok (.invokevirtual 67, 3) := by decide +kernel
theorem dL_amount_5 : decode cL_amount 5 = .ok (.ireturn, 1) := by decide +kernel
theorem dL_amount_6 : decode cL_amount 6 = .ok (.astore_n 2, 1) := by decide +kernel
theorem dL_amount_7 : decode cL_amount 7 = .ok (.bipush (-77), 2) := by decide +kernel
theorem dL_amount_9 : decode cL_amount 9 = .ok (.ireturn, 1) := by decide +kernel
set_option maxHeartbeats 4000000 in
set_option maxRecDepth 100000 in
theorem kh_amount (l : Launch) (g : kG) (e0 : Nat) (S : wPS) (sz x : Nat) (n1 : Int32) (po : Int32 → wPS → Prop) (Ex : String → Prop) (hx0 : Ob S 5 x) (hM : kM l g e0 yX5_amount cX5_amount 2 (some .int) 7 103 1 6 [.ref x, .int n1] S sz (pI po) Ex) (hex : ∀ E, Ex E → E = xI) : kMh l g e0 yL_amount (.codeWith yL_amount cL_amount 3 (some .int) [(0, 5, 6, 28)]) 8 124 1 6 [.ref x, .int n1] S sz (pI (fun r T => po r T ∨ (r = -77 ∧ Ex xI ∧ T = S))) := by
  refine kMh.of (by decide) (Nat.le_of_ble_eq_true rfl) ?_
  intro p e s m below meth c ls B ht
  obtain ⟨F, hr, hlk, hP, hK, hD, hE, hNc, hS, hA, hl, hsz⟩ := B
  subst hsz
  have hx := F.1
  have hb := F.2.1
  have hl : lv_has ls 3 [(0, .ref x), (1, .int n1)] := hl
  refine lv_aload_n hx hb dL_amount_0 rfl (lv_at hl 0 rfl) ?_
  refine lv_iload_n hx hb dL_amount_1 rfl (lv_at hl 1 rfl) ?_
  refine kcallWI (kV (n := 1) (As := [.int n1]) (rest := []) (b := x) (C := RX5) F hE hK hP hD hS hA hM (rr_Pickwave hK hP hx0) kw_276 kw_277 kw_278 kw_2 kw_279 (by decide +kernel) ⟨Nat.le_of_ble_eq_true rfl, Nat.le_of_ble_eq_true rfl⟩ rfl hl.1 rfl (Nat.le_of_ble_eq_true rfl) dL_amount_2 ⟨Nat.le_of_ble_eq_true rfl, Nat.le_of_ble_eq_true rfl⟩) rfl hD hS hA (fun E ce q9 H1 locs1 hex1 hP1 _ hf1 hS1 hce hcv hcl => ?_) (fun r S1 H1 locs1 hp hP1 hD1 hDA _ hf1 hS1 => ?_)
  · obtain rfl := hex E hex1
    refine vx_catch (name := "java/lang/IndexOutOfBoundsException") F.2.2.2.1 [] ⟨0, 5, 6, 28⟩ [] (ht.trans rfl) (fun z hz => by cases hz) rfl (by decide) (F.2.2.2.2 _ kw_191) (va_any rfl (hE.2.2.2.2.2.2.2.2.2.2.2.2.2.2.2.2 _ (List.mem_of_getElem? (i := 2) rfl))) hce hcv hcl ?_
    refine lv_astore_n (lv' := [(2, .ref q9), (0, .ref x), (1, .int n1)]) hx hb dL_amount_6 rfl hl (by decide) rfl (fun ls hl => ?_)
    refine lv_bipush (v := (-77)) hx hb dL_amount_7 (by decide) ?_
    exact kEndhI F hr hlk hP1 hD hS1 (Nat.le_of_ble_eq_true rfl) (Nat.le_of_ble_eq_true rfl) dL_amount_9 ⟨_, rfl, Or.inr (⟨rfl, hex1, rfl⟩)⟩
  · have hQ1 := hP1
    exact kEndhI F hr hlk hP1 hDA hS1 (Nat.le_of_ble_eq_true rfl) (Nat.le_of_ble_eq_true rfl) dL_amount_5 ⟨_, rfl, Or.inl hp⟩
theorem dL_carried_0 : decode cL_carried 0 = .ok (.aload_n 0, 1) := by decide +kernel
theorem dL_carried_1 : decode cL_carried 1 = .ok (.iload_n 1, 1) := by decide +kernel
theorem dL_carried_2 : decode cL_carried 2 = .ok (.invokevirtual 92, 3) := by decide +kernel
theorem dL_carried_5 : decode cL_carried 5 = .ok (.ireturn, 1) := by decide +kernel
theorem dL_carried_6 : decode cL_carried 6 = .ok (.astore_n 2, 1) := by decide +kernel
theorem dL_carried_7 : decode cL_carried 7 = .ok (.bipush (-77), 2) := by decide +kernel
theorem dL_carried_9 : decode cL_carried 9 = .ok (.ireturn, 1) := by decide +kernel
set_option maxHeartbeats 4000000 in
set_option maxRecDepth 100000 in
theorem kh_carried (l : Launch) (g : kG) (e0 : Nat) (S : wPS) (sz x : Nat) (n1 : Int32) (po : Int32 → wPS → Prop) (Ex : String → Prop) (hx0 : Ob S 5 x) (hM : kM l g e0 yX5_carried cX5_carried 2 (some .int) 7 103 1 6 [.ref x, .int n1] S sz (pI po) Ex) (hex : ∀ E, Ex E → E = xI) : kMh l g e0 yL_carried (.codeWith yL_carried cL_carried 3 (some .int) [(0, 5, 6, 28)]) 8 124 1 6 [.ref x, .int n1] S sz (pI (fun r T => po r T ∨ (r = -77 ∧ Ex xI ∧ T = S))) := by
  refine kMh.of (by decide) (Nat.le_of_ble_eq_true rfl) ?_
  intro p e s m below meth c ls B ht
  obtain ⟨F, hr, hlk, hP, hK, hD, hE, hNc, hS, hA, hl, hsz⟩ := B
  subst hsz
  have hx := F.1
  have hb := F.2.1
  have hl : lv_has ls 3 [(0, .ref x), (1, .int n1)] := hl
  refine lv_aload_n hx hb dL_carried_0 rfl (lv_at hl 0 rfl) ?_
  refine lv_iload_n hx hb dL_carried_1 rfl (lv_at hl 1 rfl) ?_
  refine kcallWI (kV (n := 1) (As := [.int n1]) (rest := []) (b := x) (C := RX5) F hE hK hP hD hS hA hM (rr_Pickwave hK hP hx0) kw_239 kw_240 kw_241 kw_2 kw_242 (by decide +kernel) ⟨Nat.le_of_ble_eq_true rfl, Nat.le_of_ble_eq_true rfl⟩ rfl hl.1 rfl (Nat.le_of_ble_eq_true rfl) dL_carried_2 ⟨Nat.le_of_ble_eq_true rfl, Nat.le_of_ble_eq_true rfl⟩) rfl hD hS hA (fun E ce q9 H1 locs1 hex1 hP1 _ hf1 hS1 hce hcv hcl => ?_) (fun r S1 H1 locs1 hp hP1 hD1 hDA _ hf1 hS1 => ?_)
  · obtain rfl := hex E hex1
    refine vx_catch (name := "java/lang/IndexOutOfBoundsException") F.2.2.2.1 [] ⟨0, 5, 6, 28⟩ [] (ht.trans rfl) (fun z hz => by cases hz) rfl (by decide) (F.2.2.2.2 _ kw_191) (va_any rfl (hE.2.2.2.2.2.2.2.2.2.2.2.2.2.2.2.2 _ (List.mem_of_getElem? (i := 2) rfl))) hce hcv hcl ?_
    refine lv_astore_n (lv' := [(2, .ref q9), (0, .ref x), (1, .int n1)]) hx hb dL_carried_6 rfl hl (by decide) rfl (fun ls hl => ?_)
    refine lv_bipush (v := (-77)) hx hb dL_carried_7 (by decide) ?_
    exact kEndhI F hr hlk hP1 hD hS1 (Nat.le_of_ble_eq_true rfl) (Nat.le_of_ble_eq_true rfl) dL_carried_9 ⟨_, rfl, Or.inr (⟨rfl, hex1, rfl⟩)⟩
  · have hQ1 := hP1
    exact kEndhI F hr hlk hP1 hDA hS1 (Nat.le_of_ble_eq_true rfl) (Nat.le_of_ble_eq_true rfl) dL_carried_5 ⟨_, rfl, Or.inl hp⟩
theorem dL_drop_0 : decode cL_drop 0 = .ok (.aload_n 0, 1) := by decide +kernel
theorem dL_drop_1 : decode cL_drop 1 = .ok (.iload_n 1, 1) := by decide +kernel
theorem dL_drop_2 : decode cL_drop 2 = .ok (.invokevirtual 57, 3) := by decide +kernel
theorem dL_drop_5 : decode cL_drop 5 = .ok (.ireturn, 1) := by decide +kernel
theorem dL_drop_6 : decode cL_drop 6 = .ok (.astore_n 2, 1) := by decide +kernel
theorem dL_drop_7 : decode cL_drop 7 = .ok (.bipush (-77), 2) := by decide +kernel
theorem dL_drop_9 : decode cL_drop 9 = .ok (.ireturn, 1) := by decide +kernel
theorem dL_drop_10 : decode cL_drop 10 = .ok (.astore_n 2, 1) := by decide +kernel
theorem dL_drop_11 : decode cL_drop 11 = .ok (.bipush (-79), 2) := by decide +kernel
theorem dL_drop_13 : decode cL_drop 13 = .ok (.ireturn, 1) := by decide +kernel
set_option maxHeartbeats 4000000 in
set_option maxRecDepth 100000 in
theorem kh_drop (l : Launch) (g : kG) (e0 : Nat) (S : wPS) (sz x : Nat) (n1 : Int32) (po : Int32 → wPS → Prop) (Ex : String → Prop) (hx0 : Ob S 5 x) (hM : kM l g e0 yX5_drop cX5_drop 3 (some .int) 7 103 2 12 [.ref x, .int n1] S sz (pI po) Ex) (hex : ∀ E, Ex E → E = xI ∨ E = xS) : kMh l g e0 yL_drop (.codeWith yL_drop cL_drop 3 (some .int) [(0, 5, 6, 28), (0, 5, 10, 22)]) 8 125 2 12 [.ref x, .int n1] S sz (pI (fun r T => po r T ∨ (r = -77 ∧ Ex xI ∧ T = S) ∨ (r = -79 ∧ Ex xS ∧ T = S))) := by
  refine kMh.of (by decide) (Nat.le_of_ble_eq_true rfl) ?_
  intro p e s m below meth c ls B ht
  obtain ⟨F, hr, hlk, hP, hK, hD, hE, hNc, hS, hA, hl, hsz⟩ := B
  subst hsz
  have hx := F.1
  have hb := F.2.1
  have hl : lv_has ls 3 [(0, .ref x), (1, .int n1)] := hl
  refine lv_aload_n hx hb dL_drop_0 rfl (lv_at hl 0 rfl) ?_
  refine lv_iload_n hx hb dL_drop_1 rfl (lv_at hl 1 rfl) ?_
  refine kcallWI (kV (n := 1) (As := [.int n1]) (rest := []) (b := x) (C := RX5) F hE hK hP hD hS hA hM (rr_Pickwave hK hP hx0) kw_337 kw_338 kw_339 kw_2 kw_340 (by decide +kernel) ⟨Nat.le_of_ble_eq_true rfl, Nat.le_of_ble_eq_true rfl⟩ rfl hl.1 rfl (Nat.le_of_ble_eq_true rfl) dL_drop_2 ⟨Nat.le_of_ble_eq_true rfl, Nat.le_of_ble_eq_true rfl⟩) rfl hD hS hA (fun E ce q9 H1 locs1 hex1 hP1 _ hf1 hS1 hce hcv hcl => ?_) (fun r S1 H1 locs1 hp hP1 hD1 hDA _ hf1 hS1 => ?_)
  · rcases hex E hex1 with rfl | rfl
    · refine vx_catch (name := "java/lang/IndexOutOfBoundsException") F.2.2.2.1 [] ⟨0, 5, 6, 28⟩ [⟨0, 5, 10, 22⟩] (ht.trans rfl) (fun z hz => by cases hz) rfl (by decide) (F.2.2.2.2 _ kw_191) (va_any rfl (hE.2.2.2.2.2.2.2.2.2.2.2.2.2.2.2.2 _ (List.mem_of_getElem? (i := 2) rfl))) hce hcv hcl ?_
      refine lv_astore_n (lv' := [(2, .ref q9), (0, .ref x), (1, .int n1)]) hx hb dL_drop_6 rfl hl (by decide) rfl (fun ls hl => ?_)
      refine lv_bipush (v := (-77)) hx hb dL_drop_7 (by decide) ?_
      exact kEndhI F hr hlk hP1 hD hS1 (Nat.le_of_ble_eq_true rfl) (Nat.le_of_ble_eq_true rfl) dL_drop_9 ⟨_, rfl, Or.inr (Or.inl ⟨rfl, hex1, rfl⟩)⟩
    · refine vx_catch (name := "java/lang/IllegalStateException") F.2.2.2.1 [⟨0, 5, 6, 28⟩] ⟨0, 5, 10, 22⟩ [] (ht.trans rfl) (fun z hz => by rcases List.mem_cons.mp hz with rfl | hz; exact Or.inr ⟨by decide, "java/lang/IndexOutOfBoundsException", F.2.2.2.2 _ kw_191, hNc _ (List.mem_of_getElem? (i := 1) rfl)⟩; exact absurd hz List.not_mem_nil) rfl (by decide) (F.2.2.2.2 _ kw_71) (va_any rfl (hE.2.2.2.2.2.2.2.2.2.2.2.2.2.2.2.2 _ (List.mem_of_getElem? (i := 1) rfl))) hce hcv hcl ?_
      refine lv_astore_n (lv' := [(2, .ref q9), (0, .ref x), (1, .int n1)]) hx hb dL_drop_10 rfl hl (by decide) rfl (fun ls hl => ?_)
      refine lv_bipush (v := (-79)) hx hb dL_drop_11 (by decide) ?_
      exact kEndhI F hr hlk hP1 hD hS1 (Nat.le_of_ble_eq_true rfl) (Nat.le_of_ble_eq_true rfl) dL_drop_13 ⟨_, rfl, Or.inr (Or.inr (⟨rfl, hex1, rfl⟩))⟩
  · have hQ1 := hP1
    exact kEndhI F hr hlk hP1 hDA hS1 (Nat.le_of_ble_eq_true rfl) (Nat.le_of_ble_eq_true rfl) dL_drop_5 ⟨_, rfl, Or.inl hp⟩
theorem dL_free_0 : decode cL_free 0 = .ok (.aload_n 0, 1) := by decide +kernel
theorem dL_free_1 : decode cL_free 1 = .ok (.iload_n 1, 1) := by decide +kernel
theorem dL_free_2 : decode cL_free 2 = .ok (.invokevirtual 33, 3) := by decide +kernel
theorem dL_free_5 : decode cL_free 5 = .ok (.ireturn, 1) := by decide +kernel
theorem dL_free_6 : decode cL_free 6 = .ok (.astore_n 2, 1) := by decide +kernel
theorem dL_free_7 : decode cL_free 7 = .ok (.bipush (-77), 2) := by decide +kernel
theorem dL_free_9 : decode cL_free 9 = .ok (.ireturn, 1) := by decide +kernel
set_option maxHeartbeats 4000000 in
set_option maxRecDepth 100000 in
theorem kh_free (l : Launch) (g : kG) (e0 : Nat) (S : wPS) (sz x : Nat) (n1 : Int32) (po : Int32 → wPS → Prop) (Ex : String → Prop) (hx0 : Ob S 5 x) (hM : kM l g e0 yX5_free cX5_free 2 (some .int) 7 103 1 6 [.ref x, .int n1] S sz (pI po) Ex) (hex : ∀ E, Ex E → E = xI) : kMh l g e0 yL_free (.codeWith yL_free cL_free 3 (some .int) [(0, 5, 6, 28)]) 8 124 1 6 [.ref x, .int n1] S sz (pI (fun r T => po r T ∨ (r = -77 ∧ Ex xI ∧ T = S))) := by
  refine kMh.of (by decide) (Nat.le_of_ble_eq_true rfl) ?_
  intro p e s m below meth c ls B ht
  obtain ⟨F, hr, hlk, hP, hK, hD, hE, hNc, hS, hA, hl, hsz⟩ := B
  subst hsz
  have hx := F.1
  have hb := F.2.1
  have hl : lv_has ls 3 [(0, .ref x), (1, .int n1)] := hl
  refine lv_aload_n hx hb dL_free_0 rfl (lv_at hl 0 rfl) ?_
  refine lv_iload_n hx hb dL_free_1 rfl (lv_at hl 1 rfl) ?_
  refine kcallWI (kV (n := 1) (As := [.int n1]) (rest := []) (b := x) (C := RX5) F hE hK hP hD hS hA hM (rr_Pickwave hK hP hx0) kw_349 kw_350 kw_351 kw_2 kw_352 (by decide +kernel) ⟨Nat.le_of_ble_eq_true rfl, Nat.le_of_ble_eq_true rfl⟩ rfl hl.1 rfl (Nat.le_of_ble_eq_true rfl) dL_free_2 ⟨Nat.le_of_ble_eq_true rfl, Nat.le_of_ble_eq_true rfl⟩) rfl hD hS hA (fun E ce q9 H1 locs1 hex1 hP1 _ hf1 hS1 hce hcv hcl => ?_) (fun r S1 H1 locs1 hp hP1 hD1 hDA _ hf1 hS1 => ?_)
  · obtain rfl := hex E hex1
    refine vx_catch (name := "java/lang/IndexOutOfBoundsException") F.2.2.2.1 [] ⟨0, 5, 6, 28⟩ [] (ht.trans rfl) (fun z hz => by cases hz) rfl (by decide) (F.2.2.2.2 _ kw_191) (va_any rfl (hE.2.2.2.2.2.2.2.2.2.2.2.2.2.2.2.2 _ (List.mem_of_getElem? (i := 2) rfl))) hce hcv hcl ?_
    refine lv_astore_n (lv' := [(2, .ref q9), (0, .ref x), (1, .int n1)]) hx hb dL_free_6 rfl hl (by decide) rfl (fun ls hl => ?_)
    refine lv_bipush (v := (-77)) hx hb dL_free_7 (by decide) ?_
    exact kEndhI F hr hlk hP1 hD hS1 (Nat.le_of_ble_eq_true rfl) (Nat.le_of_ble_eq_true rfl) dL_free_9 ⟨_, rfl, Or.inr (⟨rfl, hex1, rfl⟩)⟩
  · have hQ1 := hP1
    exact kEndhI F hr hlk hP1 hDA hS1 (Nat.le_of_ble_eq_true rfl) (Nat.le_of_ble_eq_true rfl) dL_free_5 ⟨_, rfl, Or.inl hp⟩
theorem dL_giveBack_0 : decode cL_giveBack 0 = .ok (.aload_n 0, 1) := by decide +kernel
theorem dL_giveBack_1 : decode cL_giveBack 1 = .ok (.iload_n 1, 1) := by decide +kernel
theorem dL_giveBack_2 : decode cL_giveBack 2 = .ok (.iload_n 2, 1) := by decide +kernel
theorem dL_giveBack_3 : decode cL_giveBack 3 = .ok (.iload_n 3, 1) := by decide +kernel
theorem dL_giveBack_4 : decode cL_giveBack 4 = .ok (.invokevirtual 50, 3) := by decide +kernel
theorem dL_giveBack_7 : decode cL_giveBack 7 = .ok (.ireturn, 1) := by decide +kernel
theorem dL_giveBack_8 : decode cL_giveBack 8 = .ok (.astore 4, 2) := by decide +kernel
theorem dL_giveBack_10 : decode cL_giveBack 10 = .ok (.bipush (-77), 2) := by decide +kernel
theorem dL_giveBack_12 : decode cL_giveBack 12 = .ok (.ireturn, 1) := by decide +kernel
theorem dL_giveBack_13 : decode cL_giveBack 13 = .ok (.astore 4, 2) := by decide +kernel
theorem dL_giveBack_15 : decode cL_giveBack 15 = .ok (.bipush (-78), 2) := by decide +kernel
theorem dL_giveBack_17 : decode cL_giveBack 17 = .ok (.ireturn, 1) := by decide +kernel
theorem dL_giveBack_18 : decode cL_giveBack 18 = .ok (.astore 4, 2) := by decide +kernel
theorem dL_giveBack_20 : decode cL_giveBack 20 = .ok (.bipush (-79), 2) := by decide +kernel
theorem dL_giveBack_22 : decode cL_giveBack 22 = .ok (.ireturn, 1) := by decide +kernel
set_option maxHeartbeats 4000000 in
set_option maxRecDepth 100000 in
theorem kh_giveBack (l : Launch) (g : kG) (e0 : Nat) (S : wPS) (sz x : Nat) (n1 n2 n3 : Int32) (po : Int32 → wPS → Prop) (Ex : String → Prop) (hx0 : Ob S 5 x) (hM : kM l g e0 yX5_giveBack cX5_giveBack 6 (some .int) 7 103 2 12 [.ref x, .int n1, .int n2, .int n3] S sz (pI po) Ex) (hex : ∀ E, Ex E → E = xI ∨ E = xA ∨ E = xS) : kMh l g e0 yL_giveBack (.codeWith yL_giveBack cL_giveBack 5 (some .int) [(0, 7, 8, 28), (0, 7, 13, 20), (0, 7, 18, 22)]) 8 128 2 12 [.ref x, .int n1, .int n2, .int n3] S sz (pI (fun r T => po r T ∨ (r = -77 ∧ Ex xI ∧ T = S) ∨ (r = -78 ∧ Ex xA ∧ T = S) ∨ (r = -79 ∧ Ex xS ∧ T = S))) := by
  refine kMh.of (by decide) (Nat.le_of_ble_eq_true rfl) ?_
  intro p e s m below meth c ls B ht
  obtain ⟨F, hr, hlk, hP, hK, hD, hE, hNc, hS, hA, hl, hsz⟩ := B
  subst hsz
  have hx := F.1
  have hb := F.2.1
  have hl : lv_has ls 5 [(0, .ref x), (1, .int n1), (2, .int n2), (3, .int n3)] := hl
  refine lv_aload_n hx hb dL_giveBack_0 rfl (lv_at hl 0 rfl) ?_
  refine lv_iload_n hx hb dL_giveBack_1 rfl (lv_at hl 1 rfl) ?_
  refine lv_iload_n hx hb dL_giveBack_2 rfl (lv_at hl 2 rfl) ?_
  refine lv_iload_n hx hb dL_giveBack_3 rfl (lv_at hl 3 rfl) ?_
  refine kcallWI (kV (n := 3) (As := [.int n1, .int n2, .int n3]) (rest := []) (b := x) (C := RX5) F hE hK hP hD hS hA hM (rr_Pickwave hK hP hx0) kw_381 kw_382 kw_383 kw_2 kw_384 (by decide +kernel) ⟨Nat.le_of_ble_eq_true rfl, Nat.le_of_ble_eq_true rfl⟩ rfl hl.1 rfl (Nat.le_of_ble_eq_true rfl) dL_giveBack_4 ⟨Nat.le_of_ble_eq_true rfl, Nat.le_of_ble_eq_true rfl⟩) rfl hD hS hA (fun E ce q9 H1 locs1 hex1 hP1 _ hf1 hS1 hce hcv hcl => ?_) (fun r S1 H1 locs1 hp hP1 hD1 hDA _ hf1 hS1 => ?_)
  · rcases hex E hex1 with rfl | rfl | rfl
    · refine vx_catch (name := "java/lang/IndexOutOfBoundsException") F.2.2.2.1 [] ⟨0, 7, 8, 28⟩ [⟨0, 7, 13, 20⟩, ⟨0, 7, 18, 22⟩] (ht.trans rfl) (fun z hz => by cases hz) rfl (by decide) (F.2.2.2.2 _ kw_191) (va_any rfl (hE.2.2.2.2.2.2.2.2.2.2.2.2.2.2.2.2 _ (List.mem_of_getElem? (i := 2) rfl))) hce hcv hcl ?_
      refine lv_astore (lv' := [(4, .ref q9), (0, .ref x), (1, .int n1), (2, .int n2), (3, .int n3)]) hx hb dL_giveBack_8 hl (by decide) rfl (fun ls hl => ?_)
      refine lv_bipush (v := (-77)) hx hb dL_giveBack_10 (by decide) ?_
      exact kEndhI F hr hlk hP1 hD hS1 (Nat.le_of_ble_eq_true rfl) (Nat.le_of_ble_eq_true rfl) dL_giveBack_12 ⟨_, rfl, Or.inr (Or.inl ⟨rfl, hex1, rfl⟩)⟩
    · refine vx_catch (name := "java/lang/IllegalArgumentException") F.2.2.2.1 [⟨0, 7, 8, 28⟩] ⟨0, 7, 13, 20⟩ [⟨0, 7, 18, 22⟩] (ht.trans rfl) (fun z hz => by rcases List.mem_cons.mp hz with rfl | hz; exact Or.inr ⟨by decide, "java/lang/IndexOutOfBoundsException", F.2.2.2.2 _ kw_191, hNc _ (List.mem_of_getElem? (i := 0) rfl)⟩; exact absurd hz List.not_mem_nil) rfl (by decide) (F.2.2.2.2 _ kw_70) (va_any rfl (hE.2.2.2.2.2.2.2.2.2.2.2.2.2.2.2.2 _ (List.mem_of_getElem? (i := 0) rfl))) hce hcv hcl ?_
      refine lv_astore (lv' := [(4, .ref q9), (0, .ref x), (1, .int n1), (2, .int n2), (3, .int n3)]) hx hb dL_giveBack_13 hl (by decide) rfl (fun ls hl => ?_)
      refine lv_bipush (v := (-78)) hx hb dL_giveBack_15 (by decide) ?_
      exact kEndhI F hr hlk hP1 hD hS1 (Nat.le_of_ble_eq_true rfl) (Nat.le_of_ble_eq_true rfl) dL_giveBack_17 ⟨_, rfl, Or.inr (Or.inr (Or.inl ⟨rfl, hex1, rfl⟩))⟩
    · refine vx_catch (name := "java/lang/IllegalStateException") F.2.2.2.1 [⟨0, 7, 8, 28⟩, ⟨0, 7, 13, 20⟩] ⟨0, 7, 18, 22⟩ [] (ht.trans rfl) (fun z hz => by rcases List.mem_cons.mp hz with rfl | hz; exact Or.inr ⟨by decide, "java/lang/IndexOutOfBoundsException", F.2.2.2.2 _ kw_191, hNc _ (List.mem_of_getElem? (i := 1) rfl)⟩; rcases List.mem_cons.mp hz with rfl | hz; exact Or.inr ⟨by decide, "java/lang/IllegalArgumentException", F.2.2.2.2 _ kw_70, hNc _ (List.mem_of_getElem? (i := 2) rfl)⟩; exact absurd hz List.not_mem_nil) rfl (by decide) (F.2.2.2.2 _ kw_71) (va_any rfl (hE.2.2.2.2.2.2.2.2.2.2.2.2.2.2.2.2 _ (List.mem_of_getElem? (i := 1) rfl))) hce hcv hcl ?_
      refine lv_astore (lv' := [(4, .ref q9), (0, .ref x), (1, .int n1), (2, .int n2), (3, .int n3)]) hx hb dL_giveBack_18 hl (by decide) rfl (fun ls hl => ?_)
      refine lv_bipush (v := (-79)) hx hb dL_giveBack_20 (by decide) ?_
      exact kEndhI F hr hlk hP1 hD hS1 (Nat.le_of_ble_eq_true rfl) (Nat.le_of_ble_eq_true rfl) dL_giveBack_22 ⟨_, rfl, Or.inr (Or.inr (Or.inr (⟨rfl, hex1, rfl⟩)))⟩
  · have hQ1 := hP1
    exact kEndhI F hr hlk hP1 hDA hS1 (Nat.le_of_ble_eq_true rfl) (Nat.le_of_ble_eq_true rfl) dL_giveBack_7 ⟨_, rfl, Or.inl hp⟩
theorem dL_minutesLeft_0 : decode cL_minutesLeft 0 = .ok (.aload_n 0, 1) := by decide +kernel
theorem dL_minutesLeft_1 : decode cL_minutesLeft 1 = .ok (.iload_n 1, 1) := by decide +kernel
theorem dL_minutesLeft_2 : decode cL_minutesLeft 2 = .ok (.invokevirtual 86, 3) := by decide +kernel
theorem dL_minutesLeft_5 : decode cL_minutesLeft 5 = .ok (.ireturn, 1) := by decide +kernel
theorem dL_minutesLeft_6 : decode cL_minutesLeft 6 = .ok (.astore_n 2, 1) := by decide +kernel
theorem dL_minutesLeft_7 : decode cL_minutesLeft 7 = .ok (.bipush (-77), 2) := by decide +kernel
theorem dL_minutesLeft_9 : decode cL_minutesLeft 9 = .ok (.ireturn, 1) := by decide +kernel
set_option maxHeartbeats 4000000 in
set_option maxRecDepth 100000 in
theorem kh_minutesLeft (l : Launch) (g : kG) (e0 : Nat) (S : wPS) (sz x : Nat) (n1 : Int32) (po : Int32 → wPS → Prop) (Ex : String → Prop) (hx0 : Ob S 5 x) (hM : kM l g e0 yX5_minutesLeft cX5_minutesLeft 3 (some .int) 7 103 1 6 [.ref x, .int n1] S sz (pI po) Ex) (hex : ∀ E, Ex E → E = xI) : kMh l g e0 yL_minutesLeft (.codeWith yL_minutesLeft cL_minutesLeft 3 (some .int) [(0, 5, 6, 28)]) 8 125 1 6 [.ref x, .int n1] S sz (pI (fun r T => po r T ∨ (r = -77 ∧ Ex xI ∧ T = S))) := by
  refine kMh.of (by decide) (Nat.le_of_ble_eq_true rfl) ?_
  intro p e s m below meth c ls B ht
  obtain ⟨F, hr, hlk, hP, hK, hD, hE, hNc, hS, hA, hl, hsz⟩ := B
  subst hsz
  have hx := F.1
  have hb := F.2.1
  have hl : lv_has ls 3 [(0, .ref x), (1, .int n1)] := hl
  refine lv_aload_n hx hb dL_minutesLeft_0 rfl (lv_at hl 0 rfl) ?_
  refine lv_iload_n hx hb dL_minutesLeft_1 rfl (lv_at hl 1 rfl) ?_
  refine kcallWI (kV (n := 1) (As := [.int n1]) (rest := []) (b := x) (C := RX5) F hE hK hP hD hS hA hM (rr_Pickwave hK hP hx0) kw_446 kw_447 kw_448 kw_2 kw_449 (by decide +kernel) ⟨Nat.le_of_ble_eq_true rfl, Nat.le_of_ble_eq_true rfl⟩ rfl hl.1 rfl (Nat.le_of_ble_eq_true rfl) dL_minutesLeft_2 ⟨Nat.le_of_ble_eq_true rfl, Nat.le_of_ble_eq_true rfl⟩) rfl hD hS hA (fun E ce q9 H1 locs1 hex1 hP1 _ hf1 hS1 hce hcv hcl => ?_) (fun r S1 H1 locs1 hp hP1 hD1 hDA _ hf1 hS1 => ?_)
  · obtain rfl := hex E hex1
    refine vx_catch (name := "java/lang/IndexOutOfBoundsException") F.2.2.2.1 [] ⟨0, 5, 6, 28⟩ [] (ht.trans rfl) (fun z hz => by cases hz) rfl (by decide) (F.2.2.2.2 _ kw_191) (va_any rfl (hE.2.2.2.2.2.2.2.2.2.2.2.2.2.2.2.2 _ (List.mem_of_getElem? (i := 2) rfl))) hce hcv hcl ?_
    refine lv_astore_n (lv' := [(2, .ref q9), (0, .ref x), (1, .int n1)]) hx hb dL_minutesLeft_6 rfl hl (by decide) rfl (fun ls hl => ?_)
    refine lv_bipush (v := (-77)) hx hb dL_minutesLeft_7 (by decide) ?_
    exact kEndhI F hr hlk hP1 hD hS1 (Nat.le_of_ble_eq_true rfl) (Nat.le_of_ble_eq_true rfl) dL_minutesLeft_9 ⟨_, rfl, Or.inr (⟨rfl, hex1, rfl⟩)⟩
  · have hQ1 := hP1
    exact kEndhI F hr hlk hP1 hDA hS1 (Nat.le_of_ble_eq_true rfl) (Nat.le_of_ble_eq_true rfl) dL_minutesLeft_5 ⟨_, rfl, Or.inl hp⟩
theorem dL_minutesOf_0 : decode cL_minutesOf 0 = .ok (.aload_n 0, 1) := by decide +kernel
theorem dL_minutesOf_1 : decode cL_minutesOf 1 = .ok (.iload_n 1, 1) := by decide +kernel
theorem dL_minutesOf_2 : decode cL_minutesOf 2 = .ok (.invokevirtual 95, 3) := by decide +kernel
theorem dL_minutesOf_5 : decode cL_minutesOf 5 = .ok (.ireturn, 1) := by decide +kernel
theorem dL_minutesOf_6 : decode cL_minutesOf 6 = .ok (.astore_n 2, 1) := by decide +kernel
theorem dL_minutesOf_7 : decode cL_minutesOf 7 = .ok (.bipush (-77), 2) := by decide +kernel
theorem dL_minutesOf_9 : decode cL_minutesOf 9 = .ok (.ireturn, 1) := by decide +kernel
set_option maxHeartbeats 4000000 in
set_option maxRecDepth 100000 in
theorem kh_minutesOf (l : Launch) (g : kG) (e0 : Nat) (S : wPS) (sz x : Nat) (n1 : Int32) (po : Int32 → wPS → Prop) (Ex : String → Prop) (hx0 : Ob S 5 x) (hM : kM l g e0 yX5_minutesOf cX5_minutesOf 2 (some .int) 7 103 1 6 [.ref x, .int n1] S sz (pI po) Ex) (hex : ∀ E, Ex E → E = xI) : kMh l g e0 yL_minutesOf (.codeWith yL_minutesOf cL_minutesOf 3 (some .int) [(0, 5, 6, 28)]) 8 124 1 6 [.ref x, .int n1] S sz (pI (fun r T => po r T ∨ (r = -77 ∧ Ex xI ∧ T = S))) := by
  refine kMh.of (by decide) (Nat.le_of_ble_eq_true rfl) ?_
  intro p e s m below meth c ls B ht
  obtain ⟨F, hr, hlk, hP, hK, hD, hE, hNc, hS, hA, hl, hsz⟩ := B
  subst hsz
  have hx := F.1
  have hb := F.2.1
  have hl : lv_has ls 3 [(0, .ref x), (1, .int n1)] := hl
  refine lv_aload_n hx hb dL_minutesOf_0 rfl (lv_at hl 0 rfl) ?_
  refine lv_iload_n hx hb dL_minutesOf_1 rfl (lv_at hl 1 rfl) ?_
  refine kcallWI (kV (n := 1) (As := [.int n1]) (rest := []) (b := x) (C := RX5) F hE hK hP hD hS hA hM (rr_Pickwave hK hP hx0) kw_251 kw_252 kw_253 kw_2 kw_254 (by decide +kernel) ⟨Nat.le_of_ble_eq_true rfl, Nat.le_of_ble_eq_true rfl⟩ rfl hl.1 rfl (Nat.le_of_ble_eq_true rfl) dL_minutesOf_2 ⟨Nat.le_of_ble_eq_true rfl, Nat.le_of_ble_eq_true rfl⟩) rfl hD hS hA (fun E ce q9 H1 locs1 hex1 hP1 _ hf1 hS1 hce hcv hcl => ?_) (fun r S1 H1 locs1 hp hP1 hD1 hDA _ hf1 hS1 => ?_)
  · obtain rfl := hex E hex1
    refine vx_catch (name := "java/lang/IndexOutOfBoundsException") F.2.2.2.1 [] ⟨0, 5, 6, 28⟩ [] (ht.trans rfl) (fun z hz => by cases hz) rfl (by decide) (F.2.2.2.2 _ kw_191) (va_any rfl (hE.2.2.2.2.2.2.2.2.2.2.2.2.2.2.2.2 _ (List.mem_of_getElem? (i := 2) rfl))) hce hcv hcl ?_
    refine lv_astore_n (lv' := [(2, .ref q9), (0, .ref x), (1, .int n1)]) hx hb dL_minutesOf_6 rfl hl (by decide) rfl (fun ls hl => ?_)
    refine lv_bipush (v := (-77)) hx hb dL_minutesOf_7 (by decide) ?_
    exact kEndhI F hr hlk hP1 hD hS1 (Nat.le_of_ble_eq_true rfl) (Nat.le_of_ble_eq_true rfl) dL_minutesOf_9 ⟨_, rfl, Or.inr (⟨rfl, hex1, rfl⟩)⟩
  · have hQ1 := hP1
    exact kEndhI F hr hlk hP1 hDA hS1 (Nat.le_of_ble_eq_true rfl) (Nat.le_of_ble_eq_true rfl) dL_minutesOf_5 ⟨_, rfl, Or.inl hp⟩
theorem dL_order_0 : decode cL_order 0 = .ok (.aload_n 0, 1) := by decide +kernel
theorem dL_order_1 : decode cL_order 1 = .ok (.iload_n 1, 1) := by decide +kernel
theorem dL_order_2 : decode cL_order 2 = .ok (.iload_n 2, 1) := by decide +kernel
theorem dL_order_3 : decode cL_order 3 = .ok (.iload_n 3, 1) := by decide +kernel
theorem dL_order_4 : decode cL_order 4 = .ok (.invokevirtual 54, 3) := by decide +kernel
theorem dL_order_7 : decode cL_order 7 = .ok (.ireturn, 1) := by decide +kernel
theorem dL_order_8 : decode cL_order 8 = .ok (.astore 4, 2) := by decide +kernel
theorem dL_order_10 : decode cL_order 10 = .ok (.bipush (-77), 2) := by decide +kernel
theorem dL_order_12 : decode cL_order 12 = .ok (.ireturn, 1) := by decide +kernel
theorem dL_order_13 : decode cL_order 13 = .ok (.astore 4, 2) := by decide +kernel
theorem dL_order_15 : decode cL_order 15 = .ok (.bipush (-78), 2) := by decide +kernel
theorem dL_order_17 : decode cL_order 17 = .ok (.ireturn, 1) := by decide +kernel
theorem dL_order_18 : decode cL_order 18 = .ok (.astore 4, 2) := by decide +kernel
theorem dL_order_20 : decode cL_order 20 = .ok (.bipush (-79), 2) := by decide +kernel
theorem dL_order_22 : decode cL_order 22 = .ok (.ireturn, 1) := by decide +kernel
set_option maxHeartbeats 4000000 in
set_option maxRecDepth 100000 in
theorem kh_order (l : Launch) (g : kG) (e0 : Nat) (S : wPS) (sz x : Nat) (n1 n2 n3 : Int32) (po : Int32 → wPS → Prop) (Ex : String → Prop) (hx0 : Ob S 5 x) (hM : kM l g e0 yX5_order cX5_order 5 (some .int) 8 179 3 27 [.ref x, .int n1, .int n2, .int n3] S sz (pI po) Ex) (hex : ∀ E, Ex E → E = xI ∨ E = xA ∨ E = xS) : kMh l g e0 yL_order (.codeWith yL_order cL_order 5 (some .int) [(0, 7, 8, 28), (0, 7, 13, 20), (0, 7, 18, 22)]) 9 203 3 27 [.ref x, .int n1, .int n2, .int n3] S sz (pI (fun r T => po r T ∨ (r = -77 ∧ Ex xI ∧ T = S) ∨ (r = -78 ∧ Ex xA ∧ T = S) ∨ (r = -79 ∧ Ex xS ∧ T = S))) := by
  refine kMh.of (by decide) (Nat.le_of_ble_eq_true rfl) ?_
  intro p e s m below meth c ls B ht
  obtain ⟨F, hr, hlk, hP, hK, hD, hE, hNc, hS, hA, hl, hsz⟩ := B
  subst hsz
  have hx := F.1
  have hb := F.2.1
  have hl : lv_has ls 5 [(0, .ref x), (1, .int n1), (2, .int n2), (3, .int n3)] := hl
  refine lv_aload_n hx hb dL_order_0 rfl (lv_at hl 0 rfl) ?_
  refine lv_iload_n hx hb dL_order_1 rfl (lv_at hl 1 rfl) ?_
  refine lv_iload_n hx hb dL_order_2 rfl (lv_at hl 2 rfl) ?_
  refine lv_iload_n hx hb dL_order_3 rfl (lv_at hl 3 rfl) ?_
  refine kcallWI (kV (n := 3) (As := [.int n1, .int n2, .int n3]) (rest := []) (b := x) (C := RX5) F hE hK hP hD hS hA hM (rr_Pickwave hK hP hx0) kw_295 kw_296 kw_297 kw_2 kw_298 (by decide +kernel) ⟨Nat.le_of_ble_eq_true rfl, Nat.le_of_ble_eq_true rfl⟩ rfl hl.1 rfl (Nat.le_of_ble_eq_true rfl) dL_order_4 ⟨Nat.le_of_ble_eq_true rfl, Nat.le_of_ble_eq_true rfl⟩) rfl hD hS hA (fun E ce q9 H1 locs1 hex1 hP1 _ hf1 hS1 hce hcv hcl => ?_) (fun r S1 H1 locs1 hp hP1 hD1 hDA _ hf1 hS1 => ?_)
  · rcases hex E hex1 with rfl | rfl | rfl
    · refine vx_catch (name := "java/lang/IndexOutOfBoundsException") F.2.2.2.1 [] ⟨0, 7, 8, 28⟩ [⟨0, 7, 13, 20⟩, ⟨0, 7, 18, 22⟩] (ht.trans rfl) (fun z hz => by cases hz) rfl (by decide) (F.2.2.2.2 _ kw_191) (va_any rfl (hE.2.2.2.2.2.2.2.2.2.2.2.2.2.2.2.2 _ (List.mem_of_getElem? (i := 2) rfl))) hce hcv hcl ?_
      refine lv_astore (lv' := [(4, .ref q9), (0, .ref x), (1, .int n1), (2, .int n2), (3, .int n3)]) hx hb dL_order_8 hl (by decide) rfl (fun ls hl => ?_)
      refine lv_bipush (v := (-77)) hx hb dL_order_10 (by decide) ?_
      exact kEndhI F hr hlk hP1 hD hS1 (Nat.le_of_ble_eq_true rfl) (Nat.le_of_ble_eq_true rfl) dL_order_12 ⟨_, rfl, Or.inr (Or.inl ⟨rfl, hex1, rfl⟩)⟩
    · refine vx_catch (name := "java/lang/IllegalArgumentException") F.2.2.2.1 [⟨0, 7, 8, 28⟩] ⟨0, 7, 13, 20⟩ [⟨0, 7, 18, 22⟩] (ht.trans rfl) (fun z hz => by rcases List.mem_cons.mp hz with rfl | hz; exact Or.inr ⟨by decide, "java/lang/IndexOutOfBoundsException", F.2.2.2.2 _ kw_191, hNc _ (List.mem_of_getElem? (i := 0) rfl)⟩; exact absurd hz List.not_mem_nil) rfl (by decide) (F.2.2.2.2 _ kw_70) (va_any rfl (hE.2.2.2.2.2.2.2.2.2.2.2.2.2.2.2.2 _ (List.mem_of_getElem? (i := 0) rfl))) hce hcv hcl ?_
      refine lv_astore (lv' := [(4, .ref q9), (0, .ref x), (1, .int n1), (2, .int n2), (3, .int n3)]) hx hb dL_order_13 hl (by decide) rfl (fun ls hl => ?_)
      refine lv_bipush (v := (-78)) hx hb dL_order_15 (by decide) ?_
      exact kEndhI F hr hlk hP1 hD hS1 (Nat.le_of_ble_eq_true rfl) (Nat.le_of_ble_eq_true rfl) dL_order_17 ⟨_, rfl, Or.inr (Or.inr (Or.inl ⟨rfl, hex1, rfl⟩))⟩
    · refine vx_catch (name := "java/lang/IllegalStateException") F.2.2.2.1 [⟨0, 7, 8, 28⟩, ⟨0, 7, 13, 20⟩] ⟨0, 7, 18, 22⟩ [] (ht.trans rfl) (fun z hz => by rcases List.mem_cons.mp hz with rfl | hz; exact Or.inr ⟨by decide, "java/lang/IndexOutOfBoundsException", F.2.2.2.2 _ kw_191, hNc _ (List.mem_of_getElem? (i := 1) rfl)⟩; rcases List.mem_cons.mp hz with rfl | hz; exact Or.inr ⟨by decide, "java/lang/IllegalArgumentException", F.2.2.2.2 _ kw_70, hNc _ (List.mem_of_getElem? (i := 2) rfl)⟩; exact absurd hz List.not_mem_nil) rfl (by decide) (F.2.2.2.2 _ kw_71) (va_any rfl (hE.2.2.2.2.2.2.2.2.2.2.2.2.2.2.2.2 _ (List.mem_of_getElem? (i := 1) rfl))) hce hcv hcl ?_
      refine lv_astore (lv' := [(4, .ref q9), (0, .ref x), (1, .int n1), (2, .int n2), (3, .int n3)]) hx hb dL_order_18 hl (by decide) rfl (fun ls hl => ?_)
      refine lv_bipush (v := (-79)) hx hb dL_order_20 (by decide) ?_
      exact kEndhI F hr hlk hP1 hD hS1 (Nat.le_of_ble_eq_true rfl) (Nat.le_of_ble_eq_true rfl) dL_order_22 ⟨_, rfl, Or.inr (Or.inr (Or.inr (⟨rfl, hex1, rfl⟩)))⟩
  · have hQ1 := hP1
    exact kEndhI F hr hlk hP1 hDA hS1 (Nat.le_of_ble_eq_true rfl) (Nat.le_of_ble_eq_true rfl) dL_order_7 ⟨_, rfl, Or.inl hp⟩
theorem dL_pass_0 : decode cL_pass 0 = .ok (.aload_n 0, 1) := by decide +kernel
theorem dL_pass_1 : decode cL_pass 1 = .ok (.iload_n 1, 1) := by decide +kernel
theorem dL_pass_2 : decode cL_pass 2 = .ok (.invokevirtual 101, 3) := by decide +kernel
theorem dL_pass_5 : decode cL_pass 5 = .ok (.ireturn, 1) := by decide +kernel
theorem dL_pass_6 : decode cL_pass 6 = .ok (.astore_n 2, 1) := by decide +kernel
theorem dL_pass_7 : decode cL_pass 7 = .ok (.bipush (-78), 2) := by decide +kernel
theorem dL_pass_9 : decode cL_pass 9 = .ok (.ireturn, 1) := by decide +kernel
set_option maxHeartbeats 4000000 in
set_option maxRecDepth 100000 in
theorem kh_pass (l : Launch) (g : kG) (e0 : Nat) (S : wPS) (sz x : Nat) (n1 : Int32) (po : Int32 → wPS → Prop) (Ex : String → Prop) (hx0 : Ob S 5 x) (hM : kM l g e0 yX5_pass cX5_pass 5 (some .int) 6 82 1 6 [.ref x, .int n1] S sz (pI po) Ex) (hex : ∀ E, Ex E → E = xA) : kMh l g e0 yL_pass (.codeWith yL_pass cL_pass 3 (some .int) [(0, 5, 6, 20)]) 7 106 1 6 [.ref x, .int n1] S sz (pI (fun r T => po r T ∨ (r = -78 ∧ Ex xA ∧ T = S))) := by
  refine kMh.of (by decide) (Nat.le_of_ble_eq_true rfl) ?_
  intro p e s m below meth c ls B ht
  obtain ⟨F, hr, hlk, hP, hK, hD, hE, hNc, hS, hA, hl, hsz⟩ := B
  subst hsz
  have hx := F.1
  have hb := F.2.1
  have hl : lv_has ls 3 [(0, .ref x), (1, .int n1)] := hl
  refine lv_aload_n hx hb dL_pass_0 rfl (lv_at hl 0 rfl) ?_
  refine lv_iload_n hx hb dL_pass_1 rfl (lv_at hl 1 rfl) ?_
  refine kcallWI (kV (n := 1) (As := [.int n1]) (rest := []) (b := x) (C := RX5) F hE hK hP hD hS hA hM (rr_Pickwave hK hP hx0) kw_478 kw_479 kw_480 kw_2 kw_481 (by decide +kernel) ⟨Nat.le_of_ble_eq_true rfl, Nat.le_of_ble_eq_true rfl⟩ rfl hl.1 rfl (Nat.le_of_ble_eq_true rfl) dL_pass_2 ⟨Nat.le_of_ble_eq_true rfl, Nat.le_of_ble_eq_true rfl⟩) rfl hD hS hA (fun E ce q9 H1 locs1 hex1 hP1 _ hf1 hS1 hce hcv hcl => ?_) (fun r S1 H1 locs1 hp hP1 hD1 hDA _ hf1 hS1 => ?_)
  · obtain rfl := hex E hex1
    refine vx_catch (name := "java/lang/IllegalArgumentException") F.2.2.2.1 [] ⟨0, 5, 6, 20⟩ [] (ht.trans rfl) (fun z hz => by cases hz) rfl (by decide) (F.2.2.2.2 _ kw_70) (va_any rfl (hE.2.2.2.2.2.2.2.2.2.2.2.2.2.2.2.2 _ (List.mem_of_getElem? (i := 0) rfl))) hce hcv hcl ?_
    refine lv_astore_n (lv' := [(2, .ref q9), (0, .ref x), (1, .int n1)]) hx hb dL_pass_6 rfl hl (by decide) rfl (fun ls hl => ?_)
    refine lv_bipush (v := (-78)) hx hb dL_pass_7 (by decide) ?_
    exact kEndhI F hr hlk hP1 hD hS1 (Nat.le_of_ble_eq_true rfl) (Nat.le_of_ble_eq_true rfl) dL_pass_9 ⟨_, rfl, Or.inr (⟨rfl, hex1, rfl⟩)⟩
  · have hQ1 := hP1
    exact kEndhI F hr hlk hP1 hDA hS1 (Nat.le_of_ble_eq_true rfl) (Nat.le_of_ble_eq_true rfl) dL_pass_5 ⟨_, rfl, Or.inl hp⟩
theorem dL_pick__0 : decode cL_pick_ 0 = .ok (.aload_n 0, 1) := by decide +kernel
theorem dL_pick__1 : decode cL_pick_ 1 = .ok (.iload_n 1, 1) := by decide +kernel
theorem dL_pick__2 : decode cL_pick_ 2 = .ok (.iload_n 2, 1) := by decide +kernel
theorem dL_pick__3 : decode cL_pick_ 3 = .ok (.invokevirtual 70, 3) := by decide +kernel
theorem dL_pick__6 : decode cL_pick_ 6 = .ok (.ireturn, 1) := by decide +kernel
theorem dL_pick__7 : decode cL_pick_ 7 = .ok (.astore_n 3, 1) := by decide +kernel
theorem dL_pick__8 : decode cL_pick_ 8 = .ok (.bipush (-77), 2) := by decide +kernel
theorem dL_pick__10 : decode cL_pick_ 10 = .ok (.ireturn, 1) := by decide +kernel
theorem dL_pick__11 : decode cL_pick_ 11 = .ok (.astore_n 3, 1) := by decide +kernel
theorem dL_pick__12 : decode cL_pick_ 12 = .ok (.bipush (-78), 2) := by decide +kernel
theorem dL_pick__14 : decode cL_pick_ 14 = .ok (.ireturn, 1) := by decide +kernel
theorem dL_pick__15 : decode cL_pick_ 15 = .ok (.astore_n 3, 1) := by decide +kernel
theorem dL_pick__16 : decode cL_pick_ 16 = .ok (.bipush (-76), 2) := by decide +kernel
theorem dL_pick__18 : decode cL_pick_ 18 = .ok (.ireturn, 1) := by decide +kernel
theorem dL_pick__19 : decode cL_pick_ 19 = .ok (.astore_n 3, 1) := by decide +kernel
theorem dL_pick__20 : decode cL_pick_ 20 = .ok (.bipush (-79), 2) := by decide +kernel
theorem dL_pick__22 : decode cL_pick_ 22 = .ok (.ireturn, 1) := by decide +kernel
set_option maxHeartbeats 4000000 in
set_option maxRecDepth 100000 in
theorem kh_pick (l : Launch) (g : kG) (e0 : Nat) (S : wPS) (sz x : Nat) (n1 n2 : Int32) (po : Int32 → wPS → Prop) (Ex : String → Prop) (hx0 : Ob S 5 x) (hM : kM l g e0 yX5_pick cX5_pick 4 (some .int) 9 203 3 27 [.ref x, .int n1, .int n2] S sz (pI po) Ex) (hex : ∀ E, Ex E → E = xI ∨ E = xA ∨ E = xU ∨ E = xS) : kMh l g e0 yL_pick_ (.codeWith yL_pick_ cL_pick_ 4 (some .int) [(0, 6, 7, 28), (0, 6, 11, 20), (0, 6, 15, 73), (0, 6, 19, 22)]) 10 226 3 27 [.ref x, .int n1, .int n2] S sz (pI (fun r T => po r T ∨ (r = -77 ∧ Ex xI ∧ T = S) ∨ (r = -78 ∧ Ex xA ∧ T = S) ∨ (r = -76 ∧ Ex xU ∧ T = S) ∨ (r = -79 ∧ Ex xS ∧ T = S))) := by
  refine kMh.of (by decide) (Nat.le_of_ble_eq_true rfl) ?_
  intro p e s m below meth c ls B ht
  obtain ⟨F, hr, hlk, hP, hK, hD, hE, hNc, hS, hA, hl, hsz⟩ := B
  subst hsz
  have hx := F.1
  have hb := F.2.1
  have hl : lv_has ls 4 [(0, .ref x), (1, .int n1), (2, .int n2)] := hl
  refine lv_aload_n hx hb dL_pick__0 rfl (lv_at hl 0 rfl) ?_
  refine lv_iload_n hx hb dL_pick__1 rfl (lv_at hl 1 rfl) ?_
  refine lv_iload_n hx hb dL_pick__2 rfl (lv_at hl 2 rfl) ?_
  refine kcallWI (kV (n := 2) (As := [.int n1, .int n2]) (rest := []) (b := x) (C := RX5) F hE hK hP hD hS hA hM (rr_Pickwave hK hP hx0) kw_400 kw_401 kw_402 kw_2 kw_403 (by decide +kernel) ⟨Nat.le_of_ble_eq_true rfl, Nat.le_of_ble_eq_true rfl⟩ rfl hl.1 rfl (Nat.le_of_ble_eq_true rfl) dL_pick__3 ⟨Nat.le_of_ble_eq_true rfl, Nat.le_of_ble_eq_true rfl⟩) rfl hD hS hA (fun E ce q9 H1 locs1 hex1 hP1 _ hf1 hS1 hce hcv hcl => ?_) (fun r S1 H1 locs1 hp hP1 hD1 hDA _ hf1 hS1 => ?_)
  · rcases hex E hex1 with rfl | rfl | rfl | rfl
    · refine vx_catch (name := "java/lang/IndexOutOfBoundsException") F.2.2.2.1 [] ⟨0, 6, 7, 28⟩ [⟨0, 6, 11, 20⟩, ⟨0, 6, 15, 73⟩, ⟨0, 6, 19, 22⟩] (ht.trans rfl) (fun z hz => by cases hz) rfl (by decide) (F.2.2.2.2 _ kw_191) (va_any rfl (hE.2.2.2.2.2.2.2.2.2.2.2.2.2.2.2.2 _ (List.mem_of_getElem? (i := 2) rfl))) hce hcv hcl ?_
      refine lv_astore_n (lv' := [(3, .ref q9), (0, .ref x), (1, .int n1), (2, .int n2)]) hx hb dL_pick__7 rfl hl (by decide) rfl (fun ls hl => ?_)
      refine lv_bipush (v := (-77)) hx hb dL_pick__8 (by decide) ?_
      exact kEndhI F hr hlk hP1 hD hS1 (Nat.le_of_ble_eq_true rfl) (Nat.le_of_ble_eq_true rfl) dL_pick__10 ⟨_, rfl, Or.inr (Or.inl ⟨rfl, hex1, rfl⟩)⟩
    · refine vx_catch (name := "java/lang/IllegalArgumentException") F.2.2.2.1 [⟨0, 6, 7, 28⟩] ⟨0, 6, 11, 20⟩ [⟨0, 6, 15, 73⟩, ⟨0, 6, 19, 22⟩] (ht.trans rfl) (fun z hz => by rcases List.mem_cons.mp hz with rfl | hz; exact Or.inr ⟨by decide, "java/lang/IndexOutOfBoundsException", F.2.2.2.2 _ kw_191, hNc _ (List.mem_of_getElem? (i := 0) rfl)⟩; exact absurd hz List.not_mem_nil) rfl (by decide) (F.2.2.2.2 _ kw_70) (va_any rfl (hE.2.2.2.2.2.2.2.2.2.2.2.2.2.2.2.2 _ (List.mem_of_getElem? (i := 0) rfl))) hce hcv hcl ?_
      refine lv_astore_n (lv' := [(3, .ref q9), (0, .ref x), (1, .int n1), (2, .int n2)]) hx hb dL_pick__11 rfl hl (by decide) rfl (fun ls hl => ?_)
      refine lv_bipush (v := (-78)) hx hb dL_pick__12 (by decide) ?_
      exact kEndhI F hr hlk hP1 hD hS1 (Nat.le_of_ble_eq_true rfl) (Nat.le_of_ble_eq_true rfl) dL_pick__14 ⟨_, rfl, Or.inr (Or.inr (Or.inl ⟨rfl, hex1, rfl⟩))⟩
    · refine vx_catch (name := "java/lang/UnsupportedOperationException") F.2.2.2.1 [⟨0, 6, 7, 28⟩, ⟨0, 6, 11, 20⟩] ⟨0, 6, 15, 73⟩ [⟨0, 6, 19, 22⟩] (ht.trans rfl) (fun z hz => by rcases List.mem_cons.mp hz with rfl | hz; exact Or.inr ⟨by decide, "java/lang/IndexOutOfBoundsException", F.2.2.2.2 _ kw_191, hNc _ (List.mem_of_getElem? (i := 3) rfl)⟩; rcases List.mem_cons.mp hz with rfl | hz; exact Or.inr ⟨by decide, "java/lang/IllegalArgumentException", F.2.2.2.2 _ kw_70, hNc _ (List.mem_of_getElem? (i := 4) rfl)⟩; exact absurd hz List.not_mem_nil) rfl (by decide) (F.2.2.2.2 _ kw_399) (va_any rfl (hE.2.2.2.2.2.2.2.2.2.2.2.2.2.2.2.2 _ (List.mem_of_getElem? (i := 3) rfl))) hce hcv hcl ?_
      refine lv_astore_n (lv' := [(3, .ref q9), (0, .ref x), (1, .int n1), (2, .int n2)]) hx hb dL_pick__15 rfl hl (by decide) rfl (fun ls hl => ?_)
      refine lv_bipush (v := (-76)) hx hb dL_pick__16 (by decide) ?_
      exact kEndhI F hr hlk hP1 hD hS1 (Nat.le_of_ble_eq_true rfl) (Nat.le_of_ble_eq_true rfl) dL_pick__18 ⟨_, rfl, Or.inr (Or.inr (Or.inr (Or.inl ⟨rfl, hex1, rfl⟩)))⟩
    · refine vx_catch (name := "java/lang/IllegalStateException") F.2.2.2.1 [⟨0, 6, 7, 28⟩, ⟨0, 6, 11, 20⟩, ⟨0, 6, 15, 73⟩] ⟨0, 6, 19, 22⟩ [] (ht.trans rfl) (fun z hz => by rcases List.mem_cons.mp hz with rfl | hz; exact Or.inr ⟨by decide, "java/lang/IndexOutOfBoundsException", F.2.2.2.2 _ kw_191, hNc _ (List.mem_of_getElem? (i := 1) rfl)⟩; rcases List.mem_cons.mp hz with rfl | hz; exact Or.inr ⟨by decide, "java/lang/IllegalArgumentException", F.2.2.2.2 _ kw_70, hNc _ (List.mem_of_getElem? (i := 2) rfl)⟩; rcases List.mem_cons.mp hz with rfl | hz; exact Or.inr ⟨by decide, "java/lang/UnsupportedOperationException", F.2.2.2.2 _ kw_399, hNc _ (List.mem_of_getElem? (i := 5) rfl)⟩; exact absurd hz List.not_mem_nil) rfl (by decide) (F.2.2.2.2 _ kw_71) (va_any rfl (hE.2.2.2.2.2.2.2.2.2.2.2.2.2.2.2.2 _ (List.mem_of_getElem? (i := 1) rfl))) hce hcv hcl ?_
      refine lv_astore_n (lv' := [(3, .ref q9), (0, .ref x), (1, .int n1), (2, .int n2)]) hx hb dL_pick__19 rfl hl (by decide) rfl (fun ls hl => ?_)
      refine lv_bipush (v := (-79)) hx hb dL_pick__20 (by decide) ?_
      exact kEndhI F hr hlk hP1 hD hS1 (Nat.le_of_ble_eq_true rfl) (Nat.le_of_ble_eq_true rfl) dL_pick__22 ⟨_, rfl, Or.inr (Or.inr (Or.inr (Or.inr (⟨rfl, hex1, rfl⟩))))⟩
  · have hQ1 := hP1
    exact kEndhI F hr hlk hP1 hDA hS1 (Nat.le_of_ble_eq_true rfl) (Nat.le_of_ble_eq_true rfl) dL_pick__6 ⟨_, rfl, Or.inl hp⟩
theorem dL_promised_0 : decode cL_promised 0 = .ok (.aload_n 0, 1) := by decide +kernel
theorem dL_promised_1 : decode cL_promised 1 = .ok (.iload_n 1, 1) := by decide +kernel
theorem dL_promised_2 : decode cL_promised 2 = .ok (.invokevirtual 36, 3) := by decide +kernel
theorem dL_promised_5 : decode cL_promised 5 = .ok (.ireturn, 1) := by decide +kernel
theorem dL_promised_6 : decode cL_promised 6 = .ok (.astore_n 2, 1) := by decide +kernel
theorem dL_promised_7 : decode cL_promised 7 = .ok (.bipush (-77), 2) := by decide +kernel
theorem dL_promised_9 : decode cL_promised 9 = .ok (.ireturn, 1) := by decide +kernel
set_option maxHeartbeats 4000000 in
set_option maxRecDepth 100000 in
theorem kh_promised (l : Launch) (g : kG) (e0 : Nat) (S : wPS) (sz x : Nat) (n1 : Int32) (po : Int32 → wPS → Prop) (Ex : String → Prop) (hx0 : Ob S 5 x) (hM : kM l g e0 yX5_promised cX5_promised 2 (some .int) 7 103 1 6 [.ref x, .int n1] S sz (pI po) Ex) (hex : ∀ E, Ex E → E = xI) : kMh l g e0 yL_promised (.codeWith yL_promised cL_promised 3 (some .int) [(0, 5, 6, 28)]) 8 124 1 6 [.ref x, .int n1] S sz (pI (fun r T => po r T ∨ (r = -77 ∧ Ex xI ∧ T = S))) := by
  refine kMh.of (by decide) (Nat.le_of_ble_eq_true rfl) ?_
  intro p e s m below meth c ls B ht
  obtain ⟨F, hr, hlk, hP, hK, hD, hE, hNc, hS, hA, hl, hsz⟩ := B
  subst hsz
  have hx := F.1
  have hb := F.2.1
  have hl : lv_has ls 3 [(0, .ref x), (1, .int n1)] := hl
  refine lv_aload_n hx hb dL_promised_0 rfl (lv_at hl 0 rfl) ?_
  refine lv_iload_n hx hb dL_promised_1 rfl (lv_at hl 1 rfl) ?_
  refine kcallWI (kV (n := 1) (As := [.int n1]) (rest := []) (b := x) (C := RX5) F hE hK hP hD hS hA hM (rr_Pickwave hK hP hx0) kw_231 kw_232 kw_233 kw_2 kw_234 (by decide +kernel) ⟨Nat.le_of_ble_eq_true rfl, Nat.le_of_ble_eq_true rfl⟩ rfl hl.1 rfl (Nat.le_of_ble_eq_true rfl) dL_promised_2 ⟨Nat.le_of_ble_eq_true rfl, Nat.le_of_ble_eq_true rfl⟩) rfl hD hS hA (fun E ce q9 H1 locs1 hex1 hP1 _ hf1 hS1 hce hcv hcl => ?_) (fun r S1 H1 locs1 hp hP1 hD1 hDA _ hf1 hS1 => ?_)
  · obtain rfl := hex E hex1
    refine vx_catch (name := "java/lang/IndexOutOfBoundsException") F.2.2.2.1 [] ⟨0, 5, 6, 28⟩ [] (ht.trans rfl) (fun z hz => by cases hz) rfl (by decide) (F.2.2.2.2 _ kw_191) (va_any rfl (hE.2.2.2.2.2.2.2.2.2.2.2.2.2.2.2.2 _ (List.mem_of_getElem? (i := 2) rfl))) hce hcv hcl ?_
    refine lv_astore_n (lv' := [(2, .ref q9), (0, .ref x), (1, .int n1)]) hx hb dL_promised_6 rfl hl (by decide) rfl (fun ls hl => ?_)
    refine lv_bipush (v := (-77)) hx hb dL_promised_7 (by decide) ?_
    exact kEndhI F hr hlk hP1 hD hS1 (Nat.le_of_ble_eq_true rfl) (Nat.le_of_ble_eq_true rfl) dL_promised_9 ⟨_, rfl, Or.inr (⟨rfl, hex1, rfl⟩)⟩
  · have hQ1 := hP1
    exact kEndhI F hr hlk hP1 hDA hS1 (Nat.le_of_ble_eq_true rfl) (Nat.le_of_ble_eq_true rfl) dL_promised_5 ⟨_, rfl, Or.inl hp⟩
theorem dL_promisedByScans_0 : decode cL_promisedByScans 0 = .ok (.aload_n 0, 1) := by decide +kernel
theorem dL_promisedByScans_1 : decode cL_promisedByScans 1 = .ok (.iload_n 1, 1) := by decide +kernel
theorem dL_promisedByScans_2 : decode cL_promisedByScans 2 = .ok (.invokevirtual 39, 3) := by decide +kernel
theorem dL_promisedByScans_5 : decode cL_promisedByScans 5 = .ok (.ireturn, 1) := by decide +kernel
theorem dL_promisedByScans_6 : decode cL_promisedByScans 6 = .ok (.astore_n 2, 1) := by decide +kernel
theorem dL_promisedByScans_7 : decode cL_promisedByScans 7 = .ok (.bipush (-77), 2) := by decide +kernel
theorem dL_promisedByScans_9 : decode cL_promisedByScans 9 = .ok (.ireturn, 1) := by decide +kernel
set_option maxHeartbeats 4000000 in
set_option maxRecDepth 100000 in
theorem kh_promisedByScans (l : Launch) (g : kG) (e0 : Nat) (S : wPS) (sz x : Nat) (n1 : Int32) (po : Int32 → wPS → Prop) (Ex : String → Prop) (hx0 : Ob S 5 x) (hM : kM l g e0 yX5_promisedByScans cX5_promisedByScans 6 (some .int) 7 103 1 6 [.ref x, .int n1] S sz (pI po) Ex) (hex : ∀ E, Ex E → E = xI) : kMh l g e0 yL_promisedByScans (.codeWith yL_promisedByScans cL_promisedByScans 3 (some .int) [(0, 5, 6, 28)]) 8 128 1 6 [.ref x, .int n1] S sz (pI (fun r T => po r T ∨ (r = -77 ∧ Ex xI ∧ T = S))) := by
  refine kMh.of (by decide) (Nat.le_of_ble_eq_true rfl) ?_
  intro p e s m below meth c ls B ht
  obtain ⟨F, hr, hlk, hP, hK, hD, hE, hNc, hS, hA, hl, hsz⟩ := B
  subst hsz
  have hx := F.1
  have hb := F.2.1
  have hl : lv_has ls 3 [(0, .ref x), (1, .int n1)] := hl
  refine lv_aload_n hx hb dL_promisedByScans_0 rfl (lv_at hl 0 rfl) ?_
  refine lv_iload_n hx hb dL_promisedByScans_1 rfl (lv_at hl 1 rfl) ?_
  refine kcallWI (kV (n := 1) (As := [.int n1]) (rest := []) (b := x) (C := RX5) F hE hK hP hD hS hA hM (rr_Pickwave hK hP hx0) kw_491 kw_492 kw_493 kw_2 kw_494 (by decide +kernel) ⟨Nat.le_of_ble_eq_true rfl, Nat.le_of_ble_eq_true rfl⟩ rfl hl.1 rfl (Nat.le_of_ble_eq_true rfl) dL_promisedByScans_2 ⟨Nat.le_of_ble_eq_true rfl, Nat.le_of_ble_eq_true rfl⟩) rfl hD hS hA (fun E ce q9 H1 locs1 hex1 hP1 _ hf1 hS1 hce hcv hcl => ?_) (fun r S1 H1 locs1 hp hP1 hD1 hDA _ hf1 hS1 => ?_)
  · obtain rfl := hex E hex1
    refine vx_catch (name := "java/lang/IndexOutOfBoundsException") F.2.2.2.1 [] ⟨0, 5, 6, 28⟩ [] (ht.trans rfl) (fun z hz => by cases hz) rfl (by decide) (F.2.2.2.2 _ kw_191) (va_any rfl (hE.2.2.2.2.2.2.2.2.2.2.2.2.2.2.2.2 _ (List.mem_of_getElem? (i := 2) rfl))) hce hcv hcl ?_
    refine lv_astore_n (lv' := [(2, .ref q9), (0, .ref x), (1, .int n1)]) hx hb dL_promisedByScans_6 rfl hl (by decide) rfl (fun ls hl => ?_)
    refine lv_bipush (v := (-77)) hx hb dL_promisedByScans_7 (by decide) ?_
    exact kEndhI F hr hlk hP1 hD hS1 (Nat.le_of_ble_eq_true rfl) (Nat.le_of_ble_eq_true rfl) dL_promisedByScans_9 ⟨_, rfl, Or.inr (⟨rfl, hex1, rfl⟩)⟩
  · have hQ1 := hP1
    exact kEndhI F hr hlk hP1 hDA hS1 (Nat.le_of_ble_eq_true rfl) (Nat.le_of_ble_eq_true rfl) dL_promisedByScans_5 ⟨_, rfl, Or.inl hp⟩
theorem dL_reserve_0 : decode cL_reserve 0 = .ok (.aload_n 0, 1) := by decide +kernel
theorem dL_reserve_1 : decode cL_reserve 1 = .ok (.iload_n 1, 1) := by decide +kernel
theorem dL_reserve_2 : decode cL_reserve 2 = .ok (.invokevirtual 30, 3) := by decide +kernel
theorem dL_reserve_5 : decode cL_reserve 5 = .ok (.ireturn, 1) := by decide +kernel
theorem dL_reserve_6 : decode cL_reserve 6 = .ok (.astore_n 2, 1) := by decide +kernel
theorem dL_reserve_7 : decode cL_reserve 7 = .ok (.bipush (-77), 2) := by decide +kernel
theorem dL_reserve_9 : decode cL_reserve 9 = .ok (.ireturn, 1) := by decide +kernel
set_option maxHeartbeats 4000000 in
set_option maxRecDepth 100000 in
theorem kh_reserve (l : Launch) (g : kG) (e0 : Nat) (S : wPS) (sz x : Nat) (n1 : Int32) (po : Int32 → wPS → Prop) (Ex : String → Prop) (hx0 : Ob S 5 x) (hM : kM l g e0 yX5_reserve cX5_reserve 2 (some .int) 7 103 1 6 [.ref x, .int n1] S sz (pI po) Ex) (hex : ∀ E, Ex E → E = xI) : kMh l g e0 yL_reserve (.codeWith yL_reserve cL_reserve 3 (some .int) [(0, 5, 6, 28)]) 8 124 1 6 [.ref x, .int n1] S sz (pI (fun r T => po r T ∨ (r = -77 ∧ Ex xI ∧ T = S))) := by
  refine kMh.of (by decide) (Nat.le_of_ble_eq_true rfl) ?_
  intro p e s m below meth c ls B ht
  obtain ⟨F, hr, hlk, hP, hK, hD, hE, hNc, hS, hA, hl, hsz⟩ := B
  subst hsz
  have hx := F.1
  have hb := F.2.1
  have hl : lv_has ls 3 [(0, .ref x), (1, .int n1)] := hl
  refine lv_aload_n hx hb dL_reserve_0 rfl (lv_at hl 0 rfl) ?_
  refine lv_iload_n hx hb dL_reserve_1 rfl (lv_at hl 1 rfl) ?_
  refine kcallWI (kV (n := 1) (As := [.int n1]) (rest := []) (b := x) (C := RX5) F hE hK hP hD hS hA hM (rr_Pickwave hK hP hx0) kw_223 kw_224 kw_225 kw_2 kw_226 (by decide +kernel) ⟨Nat.le_of_ble_eq_true rfl, Nat.le_of_ble_eq_true rfl⟩ rfl hl.1 rfl (Nat.le_of_ble_eq_true rfl) dL_reserve_2 ⟨Nat.le_of_ble_eq_true rfl, Nat.le_of_ble_eq_true rfl⟩) rfl hD hS hA (fun E ce q9 H1 locs1 hex1 hP1 _ hf1 hS1 hce hcv hcl => ?_) (fun r S1 H1 locs1 hp hP1 hD1 hDA _ hf1 hS1 => ?_)
  · obtain rfl := hex E hex1
    refine vx_catch (name := "java/lang/IndexOutOfBoundsException") F.2.2.2.1 [] ⟨0, 5, 6, 28⟩ [] (ht.trans rfl) (fun z hz => by cases hz) rfl (by decide) (F.2.2.2.2 _ kw_191) (va_any rfl (hE.2.2.2.2.2.2.2.2.2.2.2.2.2.2.2.2 _ (List.mem_of_getElem? (i := 2) rfl))) hce hcv hcl ?_
    refine lv_astore_n (lv' := [(2, .ref q9), (0, .ref x), (1, .int n1)]) hx hb dL_reserve_6 rfl hl (by decide) rfl (fun ls hl => ?_)
    refine lv_bipush (v := (-77)) hx hb dL_reserve_7 (by decide) ?_
    exact kEndhI F hr hlk hP1 hD hS1 (Nat.le_of_ble_eq_true rfl) (Nat.le_of_ble_eq_true rfl) dL_reserve_9 ⟨_, rfl, Or.inr (⟨rfl, hex1, rfl⟩)⟩
  · have hQ1 := hP1
    exact kEndhI F hr hlk hP1 hDA hS1 (Nat.le_of_ble_eq_true rfl) (Nat.le_of_ble_eq_true rfl) dL_reserve_5 ⟨_, rfl, Or.inl hp⟩
theorem dL_scanOrder_0 : decode cL_scanOrder 0 = .ok (.aload_n 0, 1) := by decide +kernel
theorem dL_scanOrder_1 : decode cL_scanOrder 1 = .ok (.iload_n 1, 1) := by decide +kernel
theorem dL_scanOrder_2 : decode cL_scanOrder 2 = .ok (.invokevirtual 104, 3) := by decide +kernel
theorem dL_scanOrder_5 : decode cL_scanOrder 5 = .ok (.ireturn, 1) := by decide +kernel
theorem dL_scanOrder_6 : decode cL_scanOrder 6 = .ok (.astore_n 2, 1) := by decide +kernel
theorem dL_scanOrder_7 : decode cL_scanOrder 7 = .ok (.bipush (-77), 2) := by decide +kernel
theorem dL_scanOrder_9 : decode cL_scanOrder 9 = .ok (.ireturn, 1) := by decide +kernel
set_option maxHeartbeats 4000000 in
set_option maxRecDepth 100000 in
theorem kh_scanOrder (l : Launch) (g : kG) (e0 : Nat) (S : wPS) (sz x : Nat) (n1 : Int32) (po : Int32 → wPS → Prop) (Ex : String → Prop) (hx0 : Ob S 5 x) (hM : kM l g e0 yX5_scanOrder cX5_scanOrder 2 (some .int) 6 82 1 6 [.ref x, .int n1] S sz (pI po) Ex) (hex : ∀ E, Ex E → E = xI) : kMh l g e0 yL_scanOrder (.codeWith yL_scanOrder cL_scanOrder 3 (some .int) [(0, 5, 6, 28)]) 7 103 1 6 [.ref x, .int n1] S sz (pI (fun r T => po r T ∨ (r = -77 ∧ Ex xI ∧ T = S))) := by
  refine kMh.of (by decide) (Nat.le_of_ble_eq_true rfl) ?_
  intro p e s m below meth c ls B ht
  obtain ⟨F, hr, hlk, hP, hK, hD, hE, hNc, hS, hA, hl, hsz⟩ := B
  subst hsz
  have hx := F.1
  have hb := F.2.1
  have hl : lv_has ls 3 [(0, .ref x), (1, .int n1)] := hl
  refine lv_aload_n hx hb dL_scanOrder_0 rfl (lv_at hl 0 rfl) ?_
  refine lv_iload_n hx hb dL_scanOrder_1 rfl (lv_at hl 1 rfl) ?_
  refine kcallWI (kV (n := 1) (As := [.int n1]) (rest := []) (b := x) (C := RX5) F hE hK hP hD hS hA hM (rr_Pickwave hK hP hx0) kw_528 kw_529 kw_530 kw_2 kw_531 (by decide +kernel) ⟨Nat.le_of_ble_eq_true rfl, Nat.le_of_ble_eq_true rfl⟩ rfl hl.1 rfl (Nat.le_of_ble_eq_true rfl) dL_scanOrder_2 ⟨Nat.le_of_ble_eq_true rfl, Nat.le_of_ble_eq_true rfl⟩) rfl hD hS hA (fun E ce q9 H1 locs1 hex1 hP1 _ hf1 hS1 hce hcv hcl => ?_) (fun r S1 H1 locs1 hp hP1 hD1 hDA _ hf1 hS1 => ?_)
  · obtain rfl := hex E hex1
    refine vx_catch (name := "java/lang/IndexOutOfBoundsException") F.2.2.2.1 [] ⟨0, 5, 6, 28⟩ [] (ht.trans rfl) (fun z hz => by cases hz) rfl (by decide) (F.2.2.2.2 _ kw_191) (va_any rfl (hE.2.2.2.2.2.2.2.2.2.2.2.2.2.2.2.2 _ (List.mem_of_getElem? (i := 2) rfl))) hce hcv hcl ?_
    refine lv_astore_n (lv' := [(2, .ref q9), (0, .ref x), (1, .int n1)]) hx hb dL_scanOrder_6 rfl hl (by decide) rfl (fun ls hl => ?_)
    refine lv_bipush (v := (-77)) hx hb dL_scanOrder_7 (by decide) ?_
    exact kEndhI F hr hlk hP1 hD hS1 (Nat.le_of_ble_eq_true rfl) (Nat.le_of_ble_eq_true rfl) dL_scanOrder_9 ⟨_, rfl, Or.inr (⟨rfl, hex1, rfl⟩)⟩
  · have hQ1 := hP1
    exact kEndhI F hr hlk hP1 hDA hS1 (Nat.le_of_ble_eq_true rfl) (Nat.le_of_ble_eq_true rfl) dL_scanOrder_5 ⟨_, rfl, Or.inl hp⟩
theorem dL_scanSign_0 : decode cL_scanSign 0 = .ok (.aload_n 0, 1) := by decide +kernel
theorem dL_scanSign_1 : decode cL_scanSign 1 = .ok (.iload_n 1, 1) := by decide +kernel
theorem dL_scanSign_2 : decode cL_scanSign 2 = .ok (.invokevirtual 107, 3) := by decide +kernel
theorem dL_scanSign_5 : decode cL_scanSign 5 = .ok (.ireturn, 1) := by decide +kernel
theorem dL_scanSign_6 : decode cL_scanSign 6 = .ok (.astore_n 2, 1) := by decide +kernel
theorem dL_scanSign_7 : decode cL_scanSign 7 = .ok (.bipush (-77), 2) := by decide +kernel
theorem dL_scanSign_9 : decode cL_scanSign 9 = .ok (.ireturn, 1) := by decide +kernel
set_option maxHeartbeats 4000000 in
set_option maxRecDepth 100000 in
theorem kh_scanSign (l : Launch) (g : kG) (e0 : Nat) (S : wPS) (sz x : Nat) (n1 : Int32) (po : Int32 → wPS → Prop) (Ex : String → Prop) (hx0 : Ob S 5 x) (hM : kM l g e0 yX5_scanSign cX5_scanSign 2 (some .char) 6 82 1 6 [.ref x, .int n1] S sz (pI po) Ex) (hex : ∀ E, Ex E → E = xI) : kMh l g e0 yL_scanSign (.codeWith yL_scanSign cL_scanSign 3 (some .int) [(0, 5, 6, 28)]) 7 103 1 6 [.ref x, .int n1] S sz (pI (fun r T => po r T ∨ (r = -77 ∧ Ex xI ∧ T = S))) := by
  refine kMh.of (by decide) (Nat.le_of_ble_eq_true rfl) ?_
  intro p e s m below meth c ls B ht
  obtain ⟨F, hr, hlk, hP, hK, hD, hE, hNc, hS, hA, hl, hsz⟩ := B
  subst hsz
  have hx := F.1
  have hb := F.2.1
  have hl : lv_has ls 3 [(0, .ref x), (1, .int n1)] := hl
  refine lv_aload_n hx hb dL_scanSign_0 rfl (lv_at hl 0 rfl) ?_
  refine lv_iload_n hx hb dL_scanSign_1 rfl (lv_at hl 1 rfl) ?_
  refine kcallWI (kV (n := 1) (As := [.int n1]) (rest := []) (b := x) (C := RX5) F hE hK hP hD hS hA hM (rr_Pickwave hK hP hx0) kw_540 kw_541 kw_542 kw_2 kw_543 (by decide +kernel) ⟨Nat.le_of_ble_eq_true rfl, Nat.le_of_ble_eq_true rfl⟩ rfl hl.1 rfl (Nat.le_of_ble_eq_true rfl) dL_scanSign_2 ⟨Nat.le_of_ble_eq_true rfl, Nat.le_of_ble_eq_true rfl⟩) rfl hD hS hA (fun E ce q9 H1 locs1 hex1 hP1 _ hf1 hS1 hce hcv hcl => ?_) (fun r S1 H1 locs1 hp hP1 hD1 hDA _ hf1 hS1 => ?_)
  · obtain rfl := hex E hex1
    refine vx_catch (name := "java/lang/IndexOutOfBoundsException") F.2.2.2.1 [] ⟨0, 5, 6, 28⟩ [] (ht.trans rfl) (fun z hz => by cases hz) rfl (by decide) (F.2.2.2.2 _ kw_191) (va_any rfl (hE.2.2.2.2.2.2.2.2.2.2.2.2.2.2.2.2 _ (List.mem_of_getElem? (i := 2) rfl))) hce hcv hcl ?_
    refine lv_astore_n (lv' := [(2, .ref q9), (0, .ref x), (1, .int n1)]) hx hb dL_scanSign_6 rfl hl (by decide) rfl (fun ls hl => ?_)
    refine lv_bipush (v := (-77)) hx hb dL_scanSign_7 (by decide) ?_
    exact kEndhI F hr hlk hP1 hD hS1 (Nat.le_of_ble_eq_true rfl) (Nat.le_of_ble_eq_true rfl) dL_scanSign_9 ⟨_, rfl, Or.inr (⟨rfl, hex1, rfl⟩)⟩
  · have hQ1 := hP1
    exact kEndhI F hr hlk hP1 hDA hS1 (Nat.le_of_ble_eq_true rfl) (Nat.le_of_ble_eq_true rfl) dL_scanSign_5 ⟨_, rfl, Or.inl hp⟩
theorem dL_send_0 : decode cL_send 0 = .ok (.aload_n 0, 1) := by decide +kernel
theorem dL_send_1 : decode cL_send 1 = .ok (.iload_n 1, 1) := by decide +kernel
theorem dL_send_2 : decode cL_send 2 = .ok (.iload_n 2, 1) := by decide +kernel
theorem dL_send_3 : decode cL_send 3 = .ok (.invokevirtual 89, 3) := by decide +kernel
theorem dL_send_6 : decode cL_send 6 = .ok (.ireturn, 1) := by decide +kernel
theorem dL_send_7 : decode cL_send 7 = .ok (.astore_n 3, 1) := by decide +kernel
theorem dL_send_8 : decode cL_send 8 = .ok (.bipush (-77), 2) := by decide +kernel
theorem dL_send_10 : decode cL_send 10 = .ok (.ireturn, 1) := by decide +kernel
theorem dL_send_11 : decode cL_send 11 = .ok (.astore_n 3, 1) := by decide +kernel
theorem dL_send_12 : decode cL_send 12 = .ok (.bipush (-76), 2) := by decide +kernel
theorem dL_send_14 : decode cL_send 14 = .ok (.ireturn, 1) := by decide +kernel
theorem dL_send_15 : decode cL_send 15 = .ok (.astore_n 3, 1) := by decide +kernel
theorem dL_send_16 : decode cL_send 16 = .ok (.bipush (-79), 2) := by decide +kernel
theorem dL_send_18 : decode cL_send 18 = .ok (.ireturn, 1) := by decide +kernel
theorem dL_send_19 : decode cL_send 19 = .ok (.astore_n 3, 1) := by decide +kernel
theorem dL_send_20 : decode cL_send 20 = .ok (.bipush (-75), 2) := by decide +kernel
theorem dL_send_22 : decode cL_send 22 = .ok (.ireturn, 1) := by decide +kernel
set_option maxHeartbeats 4000000 in
set_option maxRecDepth 100000 in
theorem kh_send (l : Launch) (g : kG) (e0 : Nat) (S : wPS) (sz x : Nat) (n1 n2 : Int32) (po : Int32 → wPS → Prop) (Ex : String → Prop) (hx0 : Ob S 5 x) (hM : kM l g e0 yX5_send cX5_send 6 (some .int) 7 103 3 18 [.ref x, .int n1, .int n2] S sz (pI po) Ex) (hex : ∀ E, Ex E → E = xI ∨ E = xU ∨ E = xS ∨ E = xN) : kMh l g e0 yL_send (.codeWith yL_send cL_send 4 (some .int) [(0, 6, 7, 28), (0, 6, 11, 73), (0, 6, 15, 22), (0, 6, 19, 84)]) 8 128 3 18 [.ref x, .int n1, .int n2] S sz (pI (fun r T => po r T ∨ (r = -77 ∧ Ex xI ∧ T = S) ∨ (r = -76 ∧ Ex xU ∧ T = S) ∨ (r = -79 ∧ Ex xS ∧ T = S) ∨ (r = -75 ∧ Ex xN ∧ T = S))) := by
  refine kMh.of (by decide) (Nat.le_of_ble_eq_true rfl) ?_
  intro p e s m below meth c ls B ht
  obtain ⟨F, hr, hlk, hP, hK, hD, hE, hNc, hS, hA, hl, hsz⟩ := B
  subst hsz
  have hx := F.1
  have hb := F.2.1
  have hl : lv_has ls 4 [(0, .ref x), (1, .int n1), (2, .int n2)] := hl
  refine lv_aload_n hx hb dL_send_0 rfl (lv_at hl 0 rfl) ?_
  refine lv_iload_n hx hb dL_send_1 rfl (lv_at hl 1 rfl) ?_
  refine lv_iload_n hx hb dL_send_2 rfl (lv_at hl 2 rfl) ?_
  refine kcallWI (kV (n := 2) (As := [.int n1, .int n2]) (rest := []) (b := x) (C := RX5) F hE hK hP hD hS hA hM (rr_Pickwave hK hP hx0) kw_453 kw_454 kw_455 kw_2 kw_456 (by decide +kernel) ⟨Nat.le_of_ble_eq_true rfl, Nat.le_of_ble_eq_true rfl⟩ rfl hl.1 rfl (Nat.le_of_ble_eq_true rfl) dL_send_3 ⟨Nat.le_of_ble_eq_true rfl, Nat.le_of_ble_eq_true rfl⟩) rfl hD hS hA (fun E ce q9 H1 locs1 hex1 hP1 _ hf1 hS1 hce hcv hcl => ?_) (fun r S1 H1 locs1 hp hP1 hD1 hDA _ hf1 hS1 => ?_)
  · rcases hex E hex1 with rfl | rfl | rfl | rfl
    · refine vx_catch (name := "java/lang/IndexOutOfBoundsException") F.2.2.2.1 [] ⟨0, 6, 7, 28⟩ [⟨0, 6, 11, 73⟩, ⟨0, 6, 15, 22⟩, ⟨0, 6, 19, 84⟩] (ht.trans rfl) (fun z hz => by cases hz) rfl (by decide) (F.2.2.2.2 _ kw_191) (va_any rfl (hE.2.2.2.2.2.2.2.2.2.2.2.2.2.2.2.2 _ (List.mem_of_getElem? (i := 2) rfl))) hce hcv hcl ?_
      refine lv_astore_n (lv' := [(3, .ref q9), (0, .ref x), (1, .int n1), (2, .int n2)]) hx hb dL_send_7 rfl hl (by decide) rfl (fun ls hl => ?_)
      refine lv_bipush (v := (-77)) hx hb dL_send_8 (by decide) ?_
      exact kEndhI F hr hlk hP1 hD hS1 (Nat.le_of_ble_eq_true rfl) (Nat.le_of_ble_eq_true rfl) dL_send_10 ⟨_, rfl, Or.inr (Or.inl ⟨rfl, hex1, rfl⟩)⟩
    · refine vx_catch (name := "java/lang/UnsupportedOperationException") F.2.2.2.1 [⟨0, 6, 7, 28⟩] ⟨0, 6, 11, 73⟩ [⟨0, 6, 15, 22⟩, ⟨0, 6, 19, 84⟩] (ht.trans rfl) (fun z hz => by rcases List.mem_cons.mp hz with rfl | hz; exact Or.inr ⟨by decide, "java/lang/IndexOutOfBoundsException", F.2.2.2.2 _ kw_191, hNc _ (List.mem_of_getElem? (i := 3) rfl)⟩; exact absurd hz List.not_mem_nil) rfl (by decide) (F.2.2.2.2 _ kw_399) (va_any rfl (hE.2.2.2.2.2.2.2.2.2.2.2.2.2.2.2.2 _ (List.mem_of_getElem? (i := 3) rfl))) hce hcv hcl ?_
      refine lv_astore_n (lv' := [(3, .ref q9), (0, .ref x), (1, .int n1), (2, .int n2)]) hx hb dL_send_11 rfl hl (by decide) rfl (fun ls hl => ?_)
      refine lv_bipush (v := (-76)) hx hb dL_send_12 (by decide) ?_
      exact kEndhI F hr hlk hP1 hD hS1 (Nat.le_of_ble_eq_true rfl) (Nat.le_of_ble_eq_true rfl) dL_send_14 ⟨_, rfl, Or.inr (Or.inr (Or.inl ⟨rfl, hex1, rfl⟩))⟩
    · refine vx_catch (name := "java/lang/IllegalStateException") F.2.2.2.1 [⟨0, 6, 7, 28⟩, ⟨0, 6, 11, 73⟩] ⟨0, 6, 15, 22⟩ [⟨0, 6, 19, 84⟩] (ht.trans rfl) (fun z hz => by rcases List.mem_cons.mp hz with rfl | hz; exact Or.inr ⟨by decide, "java/lang/IndexOutOfBoundsException", F.2.2.2.2 _ kw_191, hNc _ (List.mem_of_getElem? (i := 1) rfl)⟩; rcases List.mem_cons.mp hz with rfl | hz; exact Or.inr ⟨by decide, "java/lang/UnsupportedOperationException", F.2.2.2.2 _ kw_399, hNc _ (List.mem_of_getElem? (i := 5) rfl)⟩; exact absurd hz List.not_mem_nil) rfl (by decide) (F.2.2.2.2 _ kw_71) (va_any rfl (hE.2.2.2.2.2.2.2.2.2.2.2.2.2.2.2.2 _ (List.mem_of_getElem? (i := 1) rfl))) hce hcv hcl ?_
      refine lv_astore_n (lv' := [(3, .ref q9), (0, .ref x), (1, .int n1), (2, .int n2)]) hx hb dL_send_15 rfl hl (by decide) rfl (fun ls hl => ?_)
      refine lv_bipush (v := (-79)) hx hb dL_send_16 (by decide) ?_
      exact kEndhI F hr hlk hP1 hD hS1 (Nat.le_of_ble_eq_true rfl) (Nat.le_of_ble_eq_true rfl) dL_send_18 ⟨_, rfl, Or.inr (Or.inr (Or.inr (Or.inl ⟨rfl, hex1, rfl⟩)))⟩
    · refine vx_catch (name := "java/util/NoSuchElementException") F.2.2.2.1 [⟨0, 6, 7, 28⟩, ⟨0, 6, 11, 73⟩, ⟨0, 6, 15, 22⟩] ⟨0, 6, 19, 84⟩ [] (ht.trans rfl) (fun z hz => by rcases List.mem_cons.mp hz with rfl | hz; exact Or.inr ⟨by decide, "java/lang/IndexOutOfBoundsException", F.2.2.2.2 _ kw_191, hNc _ (List.mem_of_getElem? (i := 6) rfl)⟩; rcases List.mem_cons.mp hz with rfl | hz; exact Or.inr ⟨by decide, "java/lang/UnsupportedOperationException", F.2.2.2.2 _ kw_399, hNc _ (List.mem_of_getElem? (i := 7) rfl)⟩; rcases List.mem_cons.mp hz with rfl | hz; exact Or.inr ⟨by decide, "java/lang/IllegalStateException", F.2.2.2.2 _ kw_71, hNc _ (List.mem_of_getElem? (i := 8) rfl)⟩; exact absurd hz List.not_mem_nil) rfl (by decide) (F.2.2.2.2 _ kw_284) (va_any rfl (hE.2.2.2.2.2.2.2.2.2.2.2.2.2.2.2.2 _ (List.mem_of_getElem? (i := 4) rfl))) hce hcv hcl ?_
      refine lv_astore_n (lv' := [(3, .ref q9), (0, .ref x), (1, .int n1), (2, .int n2)]) hx hb dL_send_19 rfl hl (by decide) rfl (fun ls hl => ?_)
      refine lv_bipush (v := (-75)) hx hb dL_send_20 (by decide) ?_
      exact kEndhI F hr hlk hP1 hD hS1 (Nat.le_of_ble_eq_true rfl) (Nat.le_of_ble_eq_true rfl) dL_send_22 ⟨_, rfl, Or.inr (Or.inr (Or.inr (Or.inr (⟨rfl, hex1, rfl⟩))))⟩
  · have hQ1 := hP1
    exact kEndhI F hr hlk hP1 hDA hS1 (Nat.le_of_ble_eq_true rfl) (Nat.le_of_ble_eq_true rfl) dL_send_6 ⟨_, rfl, Or.inl hp⟩
theorem dL_setBlocked_0 : decode cL_setBlocked 0 = .ok (.aload_n 0, 1) := by decide +kernel
theorem dL_setBlocked_1 : decode cL_setBlocked 1 = .ok (.iload_n 1, 1) := by decide +kernel
theorem dL_setBlocked_2 : decode cL_setBlocked 2 = .ok (.iload_n 2, 1) := by decide +kernel
theorem dL_setBlocked_3 : decode cL_setBlocked 3 = .ok (.invokevirtual 42, 3) := by decide +kernel
theorem dL_setBlocked_6 : decode cL_setBlocked 6 = .ok (.ifCond .eq 7, 3) := by decide +kernel
theorem dL_setBlocked_9 : decode cL_setBlocked 9 = .ok (.iconst 1, 1) := by decide +kernel
theorem dL_setBlocked_10 : decode cL_setBlocked 10 = .ok (.goto 4, 3) := by decide +kernel
theorem dL_setBlocked_13 : decode cL_setBlocked 13 = .ok (.iconst 0, 1) := by decide +kernel
theorem dL_setBlocked_14 : decode cL_setBlocked 14 = .ok (.ireturn, 1) := by decide +kernel
theorem dL_setBlocked_15 : decode cL_setBlocked 15 = .ok (.astore_n 3, 1) := by decide +kernel
theorem dL_setBlocked_16 : decode cL_setBlocked 16 = .ok (.bipush (-77), 2) := by decide +kernel
theorem dL_setBlocked_18 : decode cL_setBlocked 18 = .ok (.ireturn, 1) := by decide +kernel
set_option maxHeartbeats 4000000 in
set_option maxRecDepth 100000 in
theorem kh_setBlocked (l : Launch) (g : kG) (e0 : Nat) (S : wPS) (sz x : Nat) (n1 n2 : Int32) (po : Int32 → wPS → Prop) (Ex : String → Prop) (hx0 : Ob S 5 x) (hM : kM l g e0 yX5_setBlocked cX5_setBlocked 5 (some .boolean) 7 103 1 6 [.ref x, .int n1, .int n2] S sz (pI po) Ex) (hex : ∀ E, Ex E → E = xI) : kMh l g e0 yL_setBlocked (.codeWith yL_setBlocked cL_setBlocked 4 (some .int) [(0, 14, 15, 28)]) 8 127 1 6 [.ref x, .int n1, .int n2] S sz (pI (fun r T => (∃ v, po v T ∧ ((¬ v = 0 ∧ r = 1) ∨ (v = 0 ∧ r = 0))) ∨ (r = -77 ∧ Ex xI ∧ T = S))) := by
  refine kMh.of (by decide) (Nat.le_of_ble_eq_true rfl) ?_
  intro p e s m below meth c ls B ht
  obtain ⟨F, hr, hlk, hP, hK, hD, hE, hNc, hS, hA, hl, hsz⟩ := B
  subst hsz
  have hx := F.1
  have hb := F.2.1
  have hl : lv_has ls 4 [(0, .ref x), (1, .int n1), (2, .int n2)] := hl
  refine lv_aload_n hx hb dL_setBlocked_0 rfl (lv_at hl 0 rfl) ?_
  refine lv_iload_n hx hb dL_setBlocked_1 rfl (lv_at hl 1 rfl) ?_
  refine lv_iload_n hx hb dL_setBlocked_2 rfl (lv_at hl 2 rfl) ?_
  refine kcallWI (kV (n := 2) (As := [.int n1, .int n2]) (rest := []) (b := x) (C := RX5) F hE hK hP hD hS hA hM (rr_Pickwave hK hP hx0) kw_356 kw_357 kw_358 kw_2 kw_359 (by decide +kernel) ⟨Nat.le_of_ble_eq_true rfl, Nat.le_of_ble_eq_true rfl⟩ rfl hl.1 rfl (Nat.le_of_ble_eq_true rfl) dL_setBlocked_3 ⟨Nat.le_of_ble_eq_true rfl, Nat.le_of_ble_eq_true rfl⟩) rfl hD hS hA (fun E ce q9 H1 locs1 hex1 hP1 _ hf1 hS1 hce hcv hcl => ?_) (fun r S1 H1 locs1 hp hP1 hD1 hDA _ hf1 hS1 => ?_)
  · obtain rfl := hex E hex1
    refine vx_catch (name := "java/lang/IndexOutOfBoundsException") F.2.2.2.1 [] ⟨0, 14, 15, 28⟩ [] (ht.trans rfl) (fun z hz => by cases hz) rfl (by decide) (F.2.2.2.2 _ kw_191) (va_any rfl (hE.2.2.2.2.2.2.2.2.2.2.2.2.2.2.2.2 _ (List.mem_of_getElem? (i := 2) rfl))) hce hcv hcl ?_
    refine lv_astore_n (lv' := [(3, .ref q9), (0, .ref x), (1, .int n1), (2, .int n2)]) hx hb dL_setBlocked_15 rfl hl (by decide) rfl (fun ls hl => ?_)
    refine lv_bipush (v := (-77)) hx hb dL_setBlocked_16 (by decide) ?_
    exact kEndhI F hr hlk hP1 hD hS1 (Nat.le_of_ble_eq_true rfl) (Nat.le_of_ble_eq_true rfl) dL_setBlocked_18 ⟨_, rfl, Or.inr (⟨rfl, hex1, rfl⟩)⟩
  · have hQ1 := hP1
    refine lv_if_eq (tgt := 13) hx hb dL_setBlocked_6 (by decide) (fun c1 => ?_) (fun c1 => ?_)
    · refine lv_iconst (v := 0) hx hb dL_setBlocked_13 (by decide) ?_
      exact kEndhI F hr hlk hP1 hDA hS1 (Nat.le_of_ble_eq_true rfl) (Nat.le_of_ble_eq_true rfl) dL_setBlocked_14 ⟨_, rfl, Or.inl ⟨r, hp, Or.inr ⟨c1, rfl⟩⟩⟩
    · refine lv_iconst (v := 1) hx hb dL_setBlocked_9 (by decide) ?_
      refine lv_goto (tgt := 14) hx hb dL_setBlocked_10 (by decide) ?_
      exact kEndhI F hr hlk hP1 hDA hS1 (Nat.le_of_ble_eq_true rfl) (Nat.le_of_ble_eq_true rfl) dL_setBlocked_14 ⟨_, rfl, Or.inl ⟨r, hp, Or.inl ⟨c1, rfl⟩⟩⟩
theorem dL_setPickers_0 : decode cL_setPickers 0 = .ok (.aload_n 0, 1) := by decide +kernel
theorem dL_setPickers_1 : decode cL_setPickers 1 = .ok (.iload_n 1, 1) := by decide +kernel
theorem dL_setPickers_2 : decode cL_setPickers 2 = .ok (.iload_n 2, 1) := by decide +kernel
theorem dL_setPickers_3 : decode cL_setPickers 3 = .ok (.invokevirtual 46, 3) := by decide +kernel
theorem dL_setPickers_6 : decode cL_setPickers 6 = .ok (.ireturn, 1) := by decide +kernel
theorem dL_setPickers_7 : decode cL_setPickers 7 = .ok (.astore_n 3, 1) := by decide +kernel
theorem dL_setPickers_8 : decode cL_setPickers 8 = .ok (.bipush (-77), 2) := by decide +kernel
theorem dL_setPickers_10 : decode cL_setPickers 10 = .ok (.ireturn, 1) := by decide +kernel
theorem dL_setPickers_11 : decode cL_setPickers 11 = .ok (.astore_n 3, 1) := by decide +kernel
theorem dL_setPickers_12 : decode cL_setPickers 12 = .ok (.bipush (-78), 2) := by decide +kernel
theorem dL_setPickers_14 : decode cL_setPickers 14 = .ok (.ireturn, 1) := by decide +kernel
set_option maxHeartbeats 4000000 in
set_option maxRecDepth 100000 in
theorem kh_setPickers (l : Launch) (g : kG) (e0 : Nat) (S : wPS) (sz x : Nat) (n1 n2 : Int32) (po : Int32 → wPS → Prop) (Ex : String → Prop) (hx0 : Ob S 5 x) (hM : kM l g e0 yX5_setPickers cX5_setPickers 5 (some .int) 7 103 2 12 [.ref x, .int n1, .int n2] S sz (pI po) Ex) (hex : ∀ E, Ex E → E = xI ∨ E = xA) : kMh l g e0 yL_setPickers (.codeWith yL_setPickers cL_setPickers 4 (some .int) [(0, 6, 7, 28), (0, 6, 11, 20)]) 8 127 2 12 [.ref x, .int n1, .int n2] S sz (pI (fun r T => po r T ∨ (r = -77 ∧ Ex xI ∧ T = S) ∨ (r = -78 ∧ Ex xA ∧ T = S))) := by
  refine kMh.of (by decide) (Nat.le_of_ble_eq_true rfl) ?_
  intro p e s m below meth c ls B ht
  obtain ⟨F, hr, hlk, hP, hK, hD, hE, hNc, hS, hA, hl, hsz⟩ := B
  subst hsz
  have hx := F.1
  have hb := F.2.1
  have hl : lv_has ls 4 [(0, .ref x), (1, .int n1), (2, .int n2)] := hl
  refine lv_aload_n hx hb dL_setPickers_0 rfl (lv_at hl 0 rfl) ?_
  refine lv_iload_n hx hb dL_setPickers_1 rfl (lv_at hl 1 rfl) ?_
  refine lv_iload_n hx hb dL_setPickers_2 rfl (lv_at hl 2 rfl) ?_
  refine kcallWI (kV (n := 2) (As := [.int n1, .int n2]) (rest := []) (b := x) (C := RX5) F hE hK hP hD hS hA hM (rr_Pickwave hK hP hx0) kw_373 kw_374 kw_375 kw_2 kw_376 (by decide +kernel) ⟨Nat.le_of_ble_eq_true rfl, Nat.le_of_ble_eq_true rfl⟩ rfl hl.1 rfl (Nat.le_of_ble_eq_true rfl) dL_setPickers_3 ⟨Nat.le_of_ble_eq_true rfl, Nat.le_of_ble_eq_true rfl⟩) rfl hD hS hA (fun E ce q9 H1 locs1 hex1 hP1 _ hf1 hS1 hce hcv hcl => ?_) (fun r S1 H1 locs1 hp hP1 hD1 hDA _ hf1 hS1 => ?_)
  · rcases hex E hex1 with rfl | rfl
    · refine vx_catch (name := "java/lang/IndexOutOfBoundsException") F.2.2.2.1 [] ⟨0, 6, 7, 28⟩ [⟨0, 6, 11, 20⟩] (ht.trans rfl) (fun z hz => by cases hz) rfl (by decide) (F.2.2.2.2 _ kw_191) (va_any rfl (hE.2.2.2.2.2.2.2.2.2.2.2.2.2.2.2.2 _ (List.mem_of_getElem? (i := 2) rfl))) hce hcv hcl ?_
      refine lv_astore_n (lv' := [(3, .ref q9), (0, .ref x), (1, .int n1), (2, .int n2)]) hx hb dL_setPickers_7 rfl hl (by decide) rfl (fun ls hl => ?_)
      refine lv_bipush (v := (-77)) hx hb dL_setPickers_8 (by decide) ?_
      exact kEndhI F hr hlk hP1 hD hS1 (Nat.le_of_ble_eq_true rfl) (Nat.le_of_ble_eq_true rfl) dL_setPickers_10 ⟨_, rfl, Or.inr (Or.inl ⟨rfl, hex1, rfl⟩)⟩
    · refine vx_catch (name := "java/lang/IllegalArgumentException") F.2.2.2.1 [⟨0, 6, 7, 28⟩] ⟨0, 6, 11, 20⟩ [] (ht.trans rfl) (fun z hz => by rcases List.mem_cons.mp hz with rfl | hz; exact Or.inr ⟨by decide, "java/lang/IndexOutOfBoundsException", F.2.2.2.2 _ kw_191, hNc _ (List.mem_of_getElem? (i := 0) rfl)⟩; exact absurd hz List.not_mem_nil) rfl (by decide) (F.2.2.2.2 _ kw_70) (va_any rfl (hE.2.2.2.2.2.2.2.2.2.2.2.2.2.2.2.2 _ (List.mem_of_getElem? (i := 0) rfl))) hce hcv hcl ?_
      refine lv_astore_n (lv' := [(3, .ref q9), (0, .ref x), (1, .int n1), (2, .int n2)]) hx hb dL_setPickers_11 rfl hl (by decide) rfl (fun ls hl => ?_)
      refine lv_bipush (v := (-78)) hx hb dL_setPickers_12 (by decide) ?_
      exact kEndhI F hr hlk hP1 hD hS1 (Nat.le_of_ble_eq_true rfl) (Nat.le_of_ble_eq_true rfl) dL_setPickers_14 ⟨_, rfl, Or.inr (Or.inr (⟨rfl, hex1, rfl⟩))⟩
  · have hQ1 := hP1
    exact kEndhI F hr hlk hP1 hDA hS1 (Nat.le_of_ble_eq_true rfl) (Nat.le_of_ble_eq_true rfl) dL_setPickers_6 ⟨_, rfl, Or.inl hp⟩
theorem dL_ship_0 : decode cL_ship 0 = .ok (.aload_n 0, 1) := by decide +kernel
theorem dL_ship_1 : decode cL_ship 1 = .ok (.iload_n 1, 1) := by decide +kernel
theorem dL_ship_2 : decode cL_ship 2 = .ok (.invokevirtual 75, 3) := by decide +kernel
theorem dL_ship_5 : decode cL_ship 5 = .ok (.ireturn, 1) := by decide +kernel
theorem dL_ship_6 : decode cL_ship 6 = .ok (.astore_n 2, 1) := by decide +kernel
theorem dL_ship_7 : decode cL_ship 7 = .ok (.bipush (-77), 2) := by decide +kernel
theorem dL_ship_9 : decode cL_ship 9 = .ok (.ireturn, 1) := by decide +kernel
set_option maxHeartbeats 4000000 in
set_option maxRecDepth 100000 in
theorem kh_ship (l : Launch) (g : kG) (e0 : Nat) (S : wPS) (sz x : Nat) (n1 : Int32) (po : Int32 → wPS → Prop) (Ex : String → Prop) (hx0 : Ob S 5 x) (hM : kM l g e0 yX5_ship cX5_ship 5 (some .int) 7 103 1 6 [.ref x, .int n1] S sz (pI po) Ex) (hex : ∀ E, Ex E → E = xI) : kMh l g e0 yL_ship (.codeWith yL_ship cL_ship 3 (some .int) [(0, 5, 6, 28)]) 8 127 1 6 [.ref x, .int n1] S sz (pI (fun r T => po r T ∨ (r = -77 ∧ Ex xI ∧ T = S))) := by
  refine kMh.of (by decide) (Nat.le_of_ble_eq_true rfl) ?_
  intro p e s m below meth c ls B ht
  obtain ⟨F, hr, hlk, hP, hK, hD, hE, hNc, hS, hA, hl, hsz⟩ := B
  subst hsz
  have hx := F.1
  have hb := F.2.1
  have hl : lv_has ls 3 [(0, .ref x), (1, .int n1)] := hl
  refine lv_aload_n hx hb dL_ship_0 rfl (lv_at hl 0 rfl) ?_
  refine lv_iload_n hx hb dL_ship_1 rfl (lv_at hl 1 rfl) ?_
  refine kcallWI (kV (n := 1) (As := [.int n1]) (rest := []) (b := x) (C := RX5) F hE hK hP hD hS hA hM (rr_Pickwave hK hP hx0) kw_418 kw_419 kw_420 kw_2 kw_421 (by decide +kernel) ⟨Nat.le_of_ble_eq_true rfl, Nat.le_of_ble_eq_true rfl⟩ rfl hl.1 rfl (Nat.le_of_ble_eq_true rfl) dL_ship_2 ⟨Nat.le_of_ble_eq_true rfl, Nat.le_of_ble_eq_true rfl⟩) rfl hD hS hA (fun E ce q9 H1 locs1 hex1 hP1 _ hf1 hS1 hce hcv hcl => ?_) (fun r S1 H1 locs1 hp hP1 hD1 hDA _ hf1 hS1 => ?_)
  · obtain rfl := hex E hex1
    refine vx_catch (name := "java/lang/IndexOutOfBoundsException") F.2.2.2.1 [] ⟨0, 5, 6, 28⟩ [] (ht.trans rfl) (fun z hz => by cases hz) rfl (by decide) (F.2.2.2.2 _ kw_191) (va_any rfl (hE.2.2.2.2.2.2.2.2.2.2.2.2.2.2.2.2 _ (List.mem_of_getElem? (i := 2) rfl))) hce hcv hcl ?_
    refine lv_astore_n (lv' := [(2, .ref q9), (0, .ref x), (1, .int n1)]) hx hb dL_ship_6 rfl hl (by decide) rfl (fun ls hl => ?_)
    refine lv_bipush (v := (-77)) hx hb dL_ship_7 (by decide) ?_
    exact kEndhI F hr hlk hP1 hD hS1 (Nat.le_of_ble_eq_true rfl) (Nat.le_of_ble_eq_true rfl) dL_ship_9 ⟨_, rfl, Or.inr (⟨rfl, hex1, rfl⟩)⟩
  · have hQ1 := hP1
    exact kEndhI F hr hlk hP1 hDA hS1 (Nat.le_of_ble_eq_true rfl) (Nat.le_of_ble_eq_true rfl) dL_ship_5 ⟨_, rfl, Or.inl hp⟩
theorem dL_shippedShare_0 : decode cL_shippedShare 0 = .ok (.aload_n 0, 1) := by decide +kernel
theorem dL_shippedShare_1 : decode cL_shippedShare 1 = .ok (.invokevirtual 110, 3) := by decide +kernel
theorem dL_shippedShare_4 : decode cL_shippedShare 4 = .ok (.freturn, 1) := by decide +kernel
theorem dL_shippedShare_5 : decode cL_shippedShare 5 = .ok (.astore_n 1, 1) := by decide +kernel
theorem dL_shippedShare_6 : decode cL_shippedShare 6 = .ok (.ldc 114, 2) := by decide +kernel
theorem dL_shippedShare_8 : decode cL_shippedShare 8 = .ok (.freturn, 1) := by decide +kernel
set_option maxHeartbeats 4000000 in
set_option maxRecDepth 100000 in
theorem kh_shippedShare (l : Launch) (g : kG) (e0 : Nat) (S : wPS) (sz x : Nat) (po : UInt32 → wPS → Prop) (Ex : String → Prop) (hx0 : Ob S 5 x) (hM : kM l g e0 yX5_shippedShare cX5_shippedShare 4 (some .float) 6 82 1 6 [.ref x] S sz (pFl po) Ex) (hex : ∀ E, Ex E → E = xN) : kMh l g e0 yL_shippedShare (.codeWith yL_shippedShare cL_shippedShare 2 (some .float) [(0, 4, 5, 84)]) 7 105 1 6 [.ref x] S sz (pFl (fun r T => po r T ∨ (r = 3264610304 ∧ Ex xN ∧ T = S))) := by
  refine kMh.of (by decide) (Nat.le_of_ble_eq_true rfl) ?_
  intro p e s m below meth c ls B ht
  obtain ⟨F, hr, hlk, hP, hK, hD, hE, hNc, hS, hA, hl, hsz⟩ := B
  subst hsz
  have hx := F.1
  have hb := F.2.1
  have hl : lv_has ls 2 [(0, .ref x)] := hl
  refine lv_aload_n hx hb dL_shippedShare_0 rfl (lv_at hl 0 rfl) ?_
  refine kcallWF (kV (n := 0) (As := []) (rest := []) (b := x) (C := RX5) F hE hK hP hD hS hA hM (rr_Pickwave hK hP hx0) kw_518 kw_519 kw_520 kw_2 kw_521 (by decide +kernel) ⟨Nat.le_of_ble_eq_true rfl, Nat.le_of_ble_eq_true rfl⟩ rfl hl.1 rfl (Nat.le_of_ble_eq_true rfl) dL_shippedShare_1 ⟨Nat.le_of_ble_eq_true rfl, Nat.le_of_ble_eq_true rfl⟩) rfl hD hS hA (fun E ce q9 H1 locs1 hex1 hP1 _ hf1 hS1 hce hcv hcl => ?_) (fun r S1 H1 locs1 hp hP1 hD1 hDA _ hf1 hS1 => ?_)
  · obtain rfl := hex E hex1
    refine vx_catch (name := "java/util/NoSuchElementException") F.2.2.2.1 [] ⟨0, 4, 5, 84⟩ [] (ht.trans rfl) (fun z hz => by cases hz) rfl (by decide) (F.2.2.2.2 _ kw_284) (va_any rfl (hE.2.2.2.2.2.2.2.2.2.2.2.2.2.2.2.2 _ (List.mem_of_getElem? (i := 4) rfl))) hce hcv hcl ?_
    refine lv_astore_n (lv' := [(1, .ref q9), (0, .ref x)]) hx hb dL_shippedShare_5 rfl hl (by decide) rfl (fun ls hl => ?_)
    refine lv_ldcf hx hb F.2.2.2.1 (F.2.2.2.2 _ kw_507) dL_shippedShare_6 ?_
    exact kEndhF F hr hlk hP1 hD hS1 (Nat.le_of_ble_eq_true rfl) (Nat.le_of_ble_eq_true rfl) dL_shippedShare_8 ⟨_, rfl, Or.inr (⟨rfl, hex1, rfl⟩)⟩
  · have hQ1 := hP1
    exact kEndhF F hr hlk hP1 hDA hS1 (Nat.le_of_ble_eq_true rfl) (Nat.le_of_ble_eq_true rfl) dL_shippedShare_4 ⟨_, rfl, Or.inl hp⟩
theorem dL_state_0 : decode cL_state 0 = .ok (.aload_n 0, 1) := by decide +kernel
theorem dL_state_1 : decode cL_state 1 = .ok (.iload_n 1, 1) := by decide +kernel
theorem dL_state_2 : decode cL_state 2 = .ok (.invokevirtual 60, 3) := by decide +kernel
theorem dL_state_5 : decode cL_state 5 = .ok (.ireturn, 1) := by decide +kernel
theorem dL_state_6 : decode cL_state 6 = .ok (.astore_n 2, 1) := by decide +kernel
theorem dL_state_7 : decode cL_state 7 = .ok (.bipush (-77), 2) := by decide +kernel
theorem dL_state_9 : decode cL_state 9 = .ok (.ireturn, 1) := by decide +kernel
set_option maxHeartbeats 4000000 in
set_option maxRecDepth 100000 in
theorem kh_state (l : Launch) (g : kG) (e0 : Nat) (S : wPS) (sz x : Nat) (n1 : Int32) (po : Int32 → wPS → Prop) (Ex : String → Prop) (hx0 : Ob S 5 x) (hM : kM l g e0 yX5_state cX5_state 2 (some .char) 7 103 1 6 [.ref x, .int n1] S sz (pI po) Ex) (hex : ∀ E, Ex E → E = xI) : kMh l g e0 yL_state (.codeWith yL_state cL_state 3 (some .int) [(0, 5, 6, 28)]) 8 124 1 6 [.ref x, .int n1] S sz (pI (fun r T => po r T ∨ (r = -77 ∧ Ex xI ∧ T = S))) := by
  refine kMh.of (by decide) (Nat.le_of_ble_eq_true rfl) ?_
  intro p e s m below meth c ls B ht
  obtain ⟨F, hr, hlk, hP, hK, hD, hE, hNc, hS, hA, hl, hsz⟩ := B
  subst hsz
  have hx := F.1
  have hb := F.2.1
  have hl : lv_has ls 3 [(0, .ref x), (1, .int n1)] := hl
  refine lv_aload_n hx hb dL_state_0 rfl (lv_at hl 0 rfl) ?_
  refine lv_iload_n hx hb dL_state_1 rfl (lv_at hl 1 rfl) ?_
  refine kcallWI (kV (n := 1) (As := [.int n1]) (rest := []) (b := x) (C := RX5) F hE hK hP hD hS hA hM (rr_Pickwave hK hP hx0) kw_263 kw_264 kw_265 kw_2 kw_266 (by decide +kernel) ⟨Nat.le_of_ble_eq_true rfl, Nat.le_of_ble_eq_true rfl⟩ rfl hl.1 rfl (Nat.le_of_ble_eq_true rfl) dL_state_2 ⟨Nat.le_of_ble_eq_true rfl, Nat.le_of_ble_eq_true rfl⟩) rfl hD hS hA (fun E ce q9 H1 locs1 hex1 hP1 _ hf1 hS1 hce hcv hcl => ?_) (fun r S1 H1 locs1 hp hP1 hD1 hDA _ hf1 hS1 => ?_)
  · obtain rfl := hex E hex1
    refine vx_catch (name := "java/lang/IndexOutOfBoundsException") F.2.2.2.1 [] ⟨0, 5, 6, 28⟩ [] (ht.trans rfl) (fun z hz => by cases hz) rfl (by decide) (F.2.2.2.2 _ kw_191) (va_any rfl (hE.2.2.2.2.2.2.2.2.2.2.2.2.2.2.2.2 _ (List.mem_of_getElem? (i := 2) rfl))) hce hcv hcl ?_
    refine lv_astore_n (lv' := [(2, .ref q9), (0, .ref x), (1, .int n1)]) hx hb dL_state_6 rfl hl (by decide) rfl (fun ls hl => ?_)
    refine lv_bipush (v := (-77)) hx hb dL_state_7 (by decide) ?_
    exact kEndhI F hr hlk hP1 hD hS1 (Nat.le_of_ble_eq_true rfl) (Nat.le_of_ble_eq_true rfl) dL_state_9 ⟨_, rfl, Or.inr (⟨rfl, hex1, rfl⟩)⟩
  · have hQ1 := hP1
    exact kEndhI F hr hlk hP1 hDA hS1 (Nat.le_of_ble_eq_true rfl) (Nat.le_of_ble_eq_true rfl) dL_state_5 ⟨_, rfl, Or.inl hp⟩
theorem dL_stateByScans_0 : decode cL_stateByScans 0 = .ok (.aload_n 0, 1) := by decide +kernel
theorem dL_stateByScans_1 : decode cL_stateByScans 1 = .ok (.iload_n 1, 1) := by decide +kernel
theorem dL_stateByScans_2 : decode cL_stateByScans 2 = .ok (.invokevirtual 64, 3) := by decide +kernel
theorem dL_stateByScans_5 : decode cL_stateByScans 5 = .ok (.ireturn, 1) := by decide +kernel
theorem dL_stateByScans_6 : decode cL_stateByScans 6 = .ok (.astore_n 2, 1) := by decide +kernel
theorem dL_stateByScans_7 : decode cL_stateByScans 7 = .ok (.bipush (-77), 2) := by decide +kernel
theorem dL_stateByScans_9 : decode cL_stateByScans 9 = .ok (.ireturn, 1) := by decide +kernel
set_option maxHeartbeats 4000000 in
set_option maxRecDepth 100000 in
theorem kh_stateByScans (l : Launch) (g : kG) (e0 : Nat) (S : wPS) (sz x : Nat) (n1 : Int32) (po : Int32 → wPS → Prop) (Ex : String → Prop) (hx0 : Ob S 5 x) (hM : kM l g e0 yX5_stateByScans cX5_stateByScans 2 (some .char) 7 103 1 6 [.ref x, .int n1] S sz (pI po) Ex) (hex : ∀ E, Ex E → E = xI) : kMh l g e0 yL_stateByScans (.codeWith yL_stateByScans cL_stateByScans 3 (some .int) [(0, 5, 6, 28)]) 8 124 1 6 [.ref x, .int n1] S sz (pI (fun r T => po r T ∨ (r = -77 ∧ Ex xI ∧ T = S))) := by
  refine kMh.of (by decide) (Nat.le_of_ble_eq_true rfl) ?_
  intro p e s m below meth c ls B ht
  obtain ⟨F, hr, hlk, hP, hK, hD, hE, hNc, hS, hA, hl, hsz⟩ := B
  subst hsz
  have hx := F.1
  have hb := F.2.1
  have hl : lv_has ls 3 [(0, .ref x), (1, .int n1)] := hl
  refine lv_aload_n hx hb dL_stateByScans_0 rfl (lv_at hl 0 rfl) ?_
  refine lv_iload_n hx hb dL_stateByScans_1 rfl (lv_at hl 1 rfl) ?_
  refine kcallWI (kV (n := 1) (As := [.int n1]) (rest := []) (b := x) (C := RX5) F hE hK hP hD hS hA hM (rr_Pickwave hK hP hx0) kw_511 kw_512 kw_513 kw_2 kw_514 (by decide +kernel) ⟨Nat.le_of_ble_eq_true rfl, Nat.le_of_ble_eq_true rfl⟩ rfl hl.1 rfl (Nat.le_of_ble_eq_true rfl) dL_stateByScans_2 ⟨Nat.le_of_ble_eq_true rfl, Nat.le_of_ble_eq_true rfl⟩) rfl hD hS hA (fun E ce q9 H1 locs1 hex1 hP1 _ hf1 hS1 hce hcv hcl => ?_) (fun r S1 H1 locs1 hp hP1 hD1 hDA _ hf1 hS1 => ?_)
  · obtain rfl := hex E hex1
    refine vx_catch (name := "java/lang/IndexOutOfBoundsException") F.2.2.2.1 [] ⟨0, 5, 6, 28⟩ [] (ht.trans rfl) (fun z hz => by cases hz) rfl (by decide) (F.2.2.2.2 _ kw_191) (va_any rfl (hE.2.2.2.2.2.2.2.2.2.2.2.2.2.2.2.2 _ (List.mem_of_getElem? (i := 2) rfl))) hce hcv hcl ?_
    refine lv_astore_n (lv' := [(2, .ref q9), (0, .ref x), (1, .int n1)]) hx hb dL_stateByScans_6 rfl hl (by decide) rfl (fun ls hl => ?_)
    refine lv_bipush (v := (-77)) hx hb dL_stateByScans_7 (by decide) ?_
    exact kEndhI F hr hlk hP1 hD hS1 (Nat.le_of_ble_eq_true rfl) (Nat.le_of_ble_eq_true rfl) dL_stateByScans_9 ⟨_, rfl, Or.inr (⟨rfl, hex1, rfl⟩)⟩
  · have hQ1 := hP1
    exact kEndhI F hr hlk hP1 hDA hS1 (Nat.le_of_ble_eq_true rfl) (Nat.le_of_ble_eq_true rfl) dL_stateByScans_5 ⟨_, rfl, Or.inl hp⟩
theorem dL_stock_0 : decode cL_stock 0 = .ok (.aload_n 0, 1) := by decide +kernel
theorem dL_stock_1 : decode cL_stock 1 = .ok (.iload_n 1, 1) := by decide +kernel
theorem dL_stock_2 : decode cL_stock 2 = .ok (.invokevirtual 24, 3) := by decide +kernel
theorem dL_stock_5 : decode cL_stock 5 = .ok (.ireturn, 1) := by decide +kernel
theorem dL_stock_6 : decode cL_stock 6 = .ok (.astore_n 2, 1) := by decide +kernel
theorem dL_stock_7 : decode cL_stock 7 = .ok (.bipush (-77), 2) := by decide +kernel
theorem dL_stock_9 : decode cL_stock 9 = .ok (.ireturn, 1) := by decide +kernel
set_option maxHeartbeats 4000000 in
set_option maxRecDepth 100000 in
theorem kh_stock (l : Launch) (g : kG) (e0 : Nat) (S : wPS) (sz x : Nat) (n1 : Int32) (po : Int32 → wPS → Prop) (Ex : String → Prop) (hx0 : Ob S 5 x) (hM : kM l g e0 yX5_stock cX5_stock 2 (some .int) 7 103 1 6 [.ref x, .int n1] S sz (pI po) Ex) (hex : ∀ E, Ex E → E = xI) : kMh l g e0 yL_stock (.codeWith yL_stock cL_stock 3 (some .int) [(0, 5, 6, 28)]) 8 124 1 6 [.ref x, .int n1] S sz (pI (fun r T => po r T ∨ (r = -77 ∧ Ex xI ∧ T = S))) := by
  refine kMh.of (by decide) (Nat.le_of_ble_eq_true rfl) ?_
  intro p e s m below meth c ls B ht
  obtain ⟨F, hr, hlk, hP, hK, hD, hE, hNc, hS, hA, hl, hsz⟩ := B
  subst hsz
  have hx := F.1
  have hb := F.2.1
  have hl : lv_has ls 3 [(0, .ref x), (1, .int n1)] := hl
  refine lv_aload_n hx hb dL_stock_0 rfl (lv_at hl 0 rfl) ?_
  refine lv_iload_n hx hb dL_stock_1 rfl (lv_at hl 1 rfl) ?_
  refine kcallWI (kV (n := 1) (As := [.int n1]) (rest := []) (b := x) (C := RX5) F hE hK hP hD hS hA hM (rr_Pickwave hK hP hx0) kw_192 kw_193 kw_194 kw_2 kw_195 (by decide +kernel) ⟨Nat.le_of_ble_eq_true rfl, Nat.le_of_ble_eq_true rfl⟩ rfl hl.1 rfl (Nat.le_of_ble_eq_true rfl) dL_stock_2 ⟨Nat.le_of_ble_eq_true rfl, Nat.le_of_ble_eq_true rfl⟩) rfl hD hS hA (fun E ce q9 H1 locs1 hex1 hP1 _ hf1 hS1 hce hcv hcl => ?_) (fun r S1 H1 locs1 hp hP1 hD1 hDA _ hf1 hS1 => ?_)
  · obtain rfl := hex E hex1
    refine vx_catch (name := "java/lang/IndexOutOfBoundsException") F.2.2.2.1 [] ⟨0, 5, 6, 28⟩ [] (ht.trans rfl) (fun z hz => by cases hz) rfl (by decide) (F.2.2.2.2 _ kw_191) (va_any rfl (hE.2.2.2.2.2.2.2.2.2.2.2.2.2.2.2.2 _ (List.mem_of_getElem? (i := 2) rfl))) hce hcv hcl ?_
    refine lv_astore_n (lv' := [(2, .ref q9), (0, .ref x), (1, .int n1)]) hx hb dL_stock_6 rfl hl (by decide) rfl (fun ls hl => ?_)
    refine lv_bipush (v := (-77)) hx hb dL_stock_7 (by decide) ?_
    exact kEndhI F hr hlk hP1 hD hS1 (Nat.le_of_ble_eq_true rfl) (Nat.le_of_ble_eq_true rfl) dL_stock_9 ⟨_, rfl, Or.inr (⟨rfl, hex1, rfl⟩)⟩
  · have hQ1 := hP1
    exact kEndhI F hr hlk hP1 hDA hS1 (Nat.le_of_ble_eq_true rfl) (Nat.le_of_ble_eq_true rfl) dL_stock_5 ⟨_, rfl, Or.inl hp⟩
theorem dL_wave_0 : decode cL_wave 0 = .ok (.aload_n 0, 1) := by decide +kernel
theorem dL_wave_1 : decode cL_wave 1 = .ok (.iload_n 1, 1) := by decide +kernel
theorem dL_wave_2 : decode cL_wave 2 = .ok (.invokevirtual 78, 3) := by decide +kernel
theorem dL_wave_5 : decode cL_wave 5 = .ok (.ireturn, 1) := by decide +kernel
theorem dL_wave_6 : decode cL_wave 6 = .ok (.astore_n 2, 1) := by decide +kernel
theorem dL_wave_7 : decode cL_wave 7 = .ok (.bipush (-77), 2) := by decide +kernel
theorem dL_wave_9 : decode cL_wave 9 = .ok (.ireturn, 1) := by decide +kernel
theorem dL_wave_10 : decode cL_wave 10 = .ok (.astore_n 2, 1) := by decide +kernel
theorem dL_wave_11 : decode cL_wave 11 = .ok (.bipush (-76), 2) := by decide +kernel
theorem dL_wave_13 : decode cL_wave 13 = .ok (.ireturn, 1) := by decide +kernel
theorem dL_wave_14 : decode cL_wave 14 = .ok (.astore_n 2, 1) := by decide +kernel
theorem dL_wave_15 : decode cL_wave 15 = .ok (.bipush (-79), 2) := by decide +kernel
theorem dL_wave_17 : decode cL_wave 17 = .ok (.ireturn, 1) := by decide +kernel
set_option maxHeartbeats 4000000 in
set_option maxRecDepth 100000 in
theorem kh_wave (l : Launch) (g : kG) (e0 : Nat) (S : wPS) (sz x : Nat) (n1 : Int32) (po : Int32 → wPS → Prop) (Ex : String → Prop) (hx0 : Ob S 5 x) (hM : kM l g e0 yX5_wave cX5_wave 5 (some .int) 7 103 2 12 [.ref x, .int n1] S sz (pI po) Ex) (hex : ∀ E, Ex E → E = xI ∨ E = xU ∨ E = xS) : kMh l g e0 yL_wave (.codeWith yL_wave cL_wave 3 (some .int) [(0, 5, 6, 28), (0, 5, 10, 73), (0, 5, 14, 22)]) 8 127 2 12 [.ref x, .int n1] S sz (pI (fun r T => po r T ∨ (r = -77 ∧ Ex xI ∧ T = S) ∨ (r = -76 ∧ Ex xU ∧ T = S) ∨ (r = -79 ∧ Ex xS ∧ T = S))) := by
  refine kMh.of (by decide) (Nat.le_of_ble_eq_true rfl) ?_
  intro p e s m below meth c ls B ht
  obtain ⟨F, hr, hlk, hP, hK, hD, hE, hNc, hS, hA, hl, hsz⟩ := B
  subst hsz
  have hx := F.1
  have hb := F.2.1
  have hl : lv_has ls 3 [(0, .ref x), (1, .int n1)] := hl
  refine lv_aload_n hx hb dL_wave_0 rfl (lv_at hl 0 rfl) ?_
  refine lv_iload_n hx hb dL_wave_1 rfl (lv_at hl 1 rfl) ?_
  refine kcallWI (kV (n := 1) (As := [.int n1]) (rest := []) (b := x) (C := RX5) F hE hK hP hD hS hA hM (rr_Pickwave hK hP hx0) kw_429 kw_430 kw_431 kw_2 kw_432 (by decide +kernel) ⟨Nat.le_of_ble_eq_true rfl, Nat.le_of_ble_eq_true rfl⟩ rfl hl.1 rfl (Nat.le_of_ble_eq_true rfl) dL_wave_2 ⟨Nat.le_of_ble_eq_true rfl, Nat.le_of_ble_eq_true rfl⟩) rfl hD hS hA (fun E ce q9 H1 locs1 hex1 hP1 _ hf1 hS1 hce hcv hcl => ?_) (fun r S1 H1 locs1 hp hP1 hD1 hDA _ hf1 hS1 => ?_)
  · rcases hex E hex1 with rfl | rfl | rfl
    · refine vx_catch (name := "java/lang/IndexOutOfBoundsException") F.2.2.2.1 [] ⟨0, 5, 6, 28⟩ [⟨0, 5, 10, 73⟩, ⟨0, 5, 14, 22⟩] (ht.trans rfl) (fun z hz => by cases hz) rfl (by decide) (F.2.2.2.2 _ kw_191) (va_any rfl (hE.2.2.2.2.2.2.2.2.2.2.2.2.2.2.2.2 _ (List.mem_of_getElem? (i := 2) rfl))) hce hcv hcl ?_
      refine lv_astore_n (lv' := [(2, .ref q9), (0, .ref x), (1, .int n1)]) hx hb dL_wave_6 rfl hl (by decide) rfl (fun ls hl => ?_)
      refine lv_bipush (v := (-77)) hx hb dL_wave_7 (by decide) ?_
      exact kEndhI F hr hlk hP1 hD hS1 (Nat.le_of_ble_eq_true rfl) (Nat.le_of_ble_eq_true rfl) dL_wave_9 ⟨_, rfl, Or.inr (Or.inl ⟨rfl, hex1, rfl⟩)⟩
    · refine vx_catch (name := "java/lang/UnsupportedOperationException") F.2.2.2.1 [⟨0, 5, 6, 28⟩] ⟨0, 5, 10, 73⟩ [⟨0, 5, 14, 22⟩] (ht.trans rfl) (fun z hz => by rcases List.mem_cons.mp hz with rfl | hz; exact Or.inr ⟨by decide, "java/lang/IndexOutOfBoundsException", F.2.2.2.2 _ kw_191, hNc _ (List.mem_of_getElem? (i := 3) rfl)⟩; exact absurd hz List.not_mem_nil) rfl (by decide) (F.2.2.2.2 _ kw_399) (va_any rfl (hE.2.2.2.2.2.2.2.2.2.2.2.2.2.2.2.2 _ (List.mem_of_getElem? (i := 3) rfl))) hce hcv hcl ?_
      refine lv_astore_n (lv' := [(2, .ref q9), (0, .ref x), (1, .int n1)]) hx hb dL_wave_10 rfl hl (by decide) rfl (fun ls hl => ?_)
      refine lv_bipush (v := (-76)) hx hb dL_wave_11 (by decide) ?_
      exact kEndhI F hr hlk hP1 hD hS1 (Nat.le_of_ble_eq_true rfl) (Nat.le_of_ble_eq_true rfl) dL_wave_13 ⟨_, rfl, Or.inr (Or.inr (Or.inl ⟨rfl, hex1, rfl⟩))⟩
    · refine vx_catch (name := "java/lang/IllegalStateException") F.2.2.2.1 [⟨0, 5, 6, 28⟩, ⟨0, 5, 10, 73⟩] ⟨0, 5, 14, 22⟩ [] (ht.trans rfl) (fun z hz => by rcases List.mem_cons.mp hz with rfl | hz; exact Or.inr ⟨by decide, "java/lang/IndexOutOfBoundsException", F.2.2.2.2 _ kw_191, hNc _ (List.mem_of_getElem? (i := 1) rfl)⟩; rcases List.mem_cons.mp hz with rfl | hz; exact Or.inr ⟨by decide, "java/lang/UnsupportedOperationException", F.2.2.2.2 _ kw_399, hNc _ (List.mem_of_getElem? (i := 5) rfl)⟩; exact absurd hz List.not_mem_nil) rfl (by decide) (F.2.2.2.2 _ kw_71) (va_any rfl (hE.2.2.2.2.2.2.2.2.2.2.2.2.2.2.2.2 _ (List.mem_of_getElem? (i := 1) rfl))) hce hcv hcl ?_
      refine lv_astore_n (lv' := [(2, .ref q9), (0, .ref x), (1, .int n1)]) hx hb dL_wave_14 rfl hl (by decide) rfl (fun ls hl => ?_)
      refine lv_bipush (v := (-79)) hx hb dL_wave_15 (by decide) ?_
      exact kEndhI F hr hlk hP1 hD hS1 (Nat.le_of_ble_eq_true rfl) (Nat.le_of_ble_eq_true rfl) dL_wave_17 ⟨_, rfl, Or.inr (Or.inr (Or.inr (⟨rfl, hex1, rfl⟩)))⟩
  · have hQ1 := hP1
    exact kEndhI F hr hlk hP1 hDA hS1 (Nat.le_of_ble_eq_true rfl) (Nat.le_of_ble_eq_true rfl) dL_wave_5 ⟨_, rfl, Or.inl hp⟩
theorem dL_waveOf_0 : decode cL_waveOf 0 = .ok (.aload_n 0, 1) := by decide +kernel
theorem dL_waveOf_1 : decode cL_waveOf 1 = .ok (.iload_n 1, 1) := by decide +kernel
theorem dL_waveOf_2 : decode cL_waveOf 2 = .ok (.invokevirtual 81, 3) := by decide +kernel
theorem dL_waveOf_5 : decode cL_waveOf 5 = .ok (.ireturn, 1) := by decide +kernel
theorem dL_waveOf_6 : decode cL_waveOf 6 = .ok (.astore_n 2, 1) := by decide +kernel
theorem dL_waveOf_7 : decode cL_waveOf 7 = .ok (.bipush (-77), 2) := by decide +kernel
theorem dL_waveOf_9 : decode cL_waveOf 9 = .ok (.ireturn, 1) := by decide +kernel
theorem dL_waveOf_10 : decode cL_waveOf 10 = .ok (.astore_n 2, 1) := by decide +kernel
theorem dL_waveOf_11 : decode cL_waveOf 11 = .ok (.bipush (-75), 2) := by decide +kernel
theorem dL_waveOf_13 : decode cL_waveOf 13 = .ok (.ireturn, 1) := by decide +kernel
set_option maxHeartbeats 4000000 in
set_option maxRecDepth 100000 in
theorem kh_waveOf (l : Launch) (g : kG) (e0 : Nat) (S : wPS) (sz x : Nat) (n1 : Int32) (po : Int32 → wPS → Prop) (Ex : String → Prop) (hx0 : Ob S 5 x) (hM : kM l g e0 yX5_waveOf cX5_waveOf 3 (some .int) 7 103 2 12 [.ref x, .int n1] S sz (pI po) Ex) (hex : ∀ E, Ex E → E = xI ∨ E = xN) : kMh l g e0 yL_waveOf (.codeWith yL_waveOf cL_waveOf 3 (some .int) [(0, 5, 6, 28), (0, 5, 10, 84)]) 8 125 2 12 [.ref x, .int n1] S sz (pI (fun r T => po r T ∨ (r = -77 ∧ Ex xI ∧ T = S) ∨ (r = -75 ∧ Ex xN ∧ T = S))) := by
  refine kMh.of (by decide) (Nat.le_of_ble_eq_true rfl) ?_
  intro p e s m below meth c ls B ht
  obtain ⟨F, hr, hlk, hP, hK, hD, hE, hNc, hS, hA, hl, hsz⟩ := B
  subst hsz
  have hx := F.1
  have hb := F.2.1
  have hl : lv_has ls 3 [(0, .ref x), (1, .int n1)] := hl
  refine lv_aload_n hx hb dL_waveOf_0 rfl (lv_at hl 0 rfl) ?_
  refine lv_iload_n hx hb dL_waveOf_1 rfl (lv_at hl 1 rfl) ?_
  refine kcallWI (kV (n := 1) (As := [.int n1]) (rest := []) (b := x) (C := RX5) F hE hK hP hD hS hA hM (rr_Pickwave hK hP hx0) kw_285 kw_286 kw_287 kw_2 kw_288 (by decide +kernel) ⟨Nat.le_of_ble_eq_true rfl, Nat.le_of_ble_eq_true rfl⟩ rfl hl.1 rfl (Nat.le_of_ble_eq_true rfl) dL_waveOf_2 ⟨Nat.le_of_ble_eq_true rfl, Nat.le_of_ble_eq_true rfl⟩) rfl hD hS hA (fun E ce q9 H1 locs1 hex1 hP1 _ hf1 hS1 hce hcv hcl => ?_) (fun r S1 H1 locs1 hp hP1 hD1 hDA _ hf1 hS1 => ?_)
  · rcases hex E hex1 with rfl | rfl
    · refine vx_catch (name := "java/lang/IndexOutOfBoundsException") F.2.2.2.1 [] ⟨0, 5, 6, 28⟩ [⟨0, 5, 10, 84⟩] (ht.trans rfl) (fun z hz => by cases hz) rfl (by decide) (F.2.2.2.2 _ kw_191) (va_any rfl (hE.2.2.2.2.2.2.2.2.2.2.2.2.2.2.2.2 _ (List.mem_of_getElem? (i := 2) rfl))) hce hcv hcl ?_
      refine lv_astore_n (lv' := [(2, .ref q9), (0, .ref x), (1, .int n1)]) hx hb dL_waveOf_6 rfl hl (by decide) rfl (fun ls hl => ?_)
      refine lv_bipush (v := (-77)) hx hb dL_waveOf_7 (by decide) ?_
      exact kEndhI F hr hlk hP1 hD hS1 (Nat.le_of_ble_eq_true rfl) (Nat.le_of_ble_eq_true rfl) dL_waveOf_9 ⟨_, rfl, Or.inr (Or.inl ⟨rfl, hex1, rfl⟩)⟩
    · refine vx_catch (name := "java/util/NoSuchElementException") F.2.2.2.1 [⟨0, 5, 6, 28⟩] ⟨0, 5, 10, 84⟩ [] (ht.trans rfl) (fun z hz => by rcases List.mem_cons.mp hz with rfl | hz; exact Or.inr ⟨by decide, "java/lang/IndexOutOfBoundsException", F.2.2.2.2 _ kw_191, hNc _ (List.mem_of_getElem? (i := 6) rfl)⟩; exact absurd hz List.not_mem_nil) rfl (by decide) (F.2.2.2.2 _ kw_284) (va_any rfl (hE.2.2.2.2.2.2.2.2.2.2.2.2.2.2.2.2 _ (List.mem_of_getElem? (i := 4) rfl))) hce hcv hcl ?_
      refine lv_astore_n (lv' := [(2, .ref q9), (0, .ref x), (1, .int n1)]) hx hb dL_waveOf_10 rfl hl (by decide) rfl (fun ls hl => ?_)
      refine lv_bipush (v := (-75)) hx hb dL_waveOf_11 (by decide) ?_
      exact kEndhI F hr hlk hP1 hD hS1 (Nat.le_of_ble_eq_true rfl) (Nat.le_of_ble_eq_true rfl) dL_waveOf_13 ⟨_, rfl, Or.inr (Or.inr (⟨rfl, hex1, rfl⟩))⟩
  · have hQ1 := hP1
    exact kEndhI F hr hlk hP1 hDA hS1 (Nat.le_of_ble_eq_true rfl) (Nat.le_of_ble_eq_true rfl) dL_waveOf_5 ⟨_, rfl, Or.inl hp⟩
