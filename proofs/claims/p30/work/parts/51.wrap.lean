theorem dL_addArticle_0 : decode cL_addArticle 0 = .ok (.aload 5, 2) := by decide +kernel
theorem dL_addArticle_2 : decode cL_addArticle 2 = .ok (.iconst 0, 1) := by decide +kernel
theorem dL_addArticle_3 : decode cL_addArticle 3 = .ok (.aload_n 0, 1) := by decide +kernel
theorem dL_addArticle_4 : decode cL_addArticle 4 = .ok (.iload_n 1, 1) := by decide +kernel
theorem dL_addArticle_5 : decode cL_addArticle 5 = .ok (.iload_n 2, 1) := by decide +kernel
theorem dL_addArticle_6 : decode cL_addArticle 6 = .ok (.iload_n 3, 1) := by decide +kernel
theorem dL_addArticle_7 : decode cL_addArticle 7 = .ok (.iload 4, 2) := by decide +kernel
theorem dL_addArticle_9 : decode cL_addArticle 9 = .ok (.invokevirtual 7, 3) := by decide +kernel
theorem dL_addArticle_12 : decode cL_addArticle 12 = .ok (.i2l, 1) := by decide +kernel
theorem dL_addArticle_13 : decode cL_addArticle 13 = .ok (.lastore, 1) := by decide +kernel
theorem dL_addArticle_14 : decode cL_addArticle 14 = .ok (.goto 11, 3) := by decide +kernel
theorem dL_addArticle_17 : decode cL_addArticle 17 = .ok (.astore 6, 2) := by decide +kernel
theorem dL_addArticle_19 : decode cL_addArticle 19 = .ok (.iconst 1, 1) := by decide +kernel
theorem dL_addArticle_20 : decode cL_addArticle 20 = .ok (.ireturn, 1) := by decide +kernel
theorem dL_addArticle_21 : decode cL_addArticle 21 = .ok (.astore 6, 2) := by decide +kernel
theorem dL_addArticle_23 : decode cL_addArticle 23 = .ok (.iconst 2, 1) := by decide +kernel
theorem dL_addArticle_24 : decode cL_addArticle 24 = .ok (.ireturn, 1) := by decide +kernel
theorem dL_addArticle_25 : decode cL_addArticle 25 = .ok (.iconst 0, 1) := by decide +kernel
theorem dL_addArticle_26 : decode cL_addArticle 26 = .ok (.ireturn, 1) := by decide +kernel
set_option maxHeartbeats 4000000 in
set_option maxRecDepth 100000 in
theorem kw_addArticle_ (l : Launch) (g : kG) (e0 : Nat) (S O : wPS) (sz x o : Nat) (n1 n2 n3 n4 : Int32) (po : Int32 → wPS → Prop) (Ex : String → Prop) (hx0 : Ob S 5 x) (ho : Ob O 14 o) (hN : pN O o = 1) (hM : kM l g e0 yX5_addArticle cX5_addArticle 5 (some .int) 6 101 2 15 [.ref x, .int n1, .int n2, .int n3, .int n4] S sz (pI po) Ex) (hex : ∀ E, Ex E → E = xA ∨ E = xS) : kMw l g e0 yL_addArticle cL_addArticle 7 [(0, 14, 17, 13), (0, 14, 21, 15)] 7 125 2 15 [.ref x, .int n1, .int n2, .int n3, .int n4, .ref o] S O sz (fun r S1 O1 => (r = 0 ∧ ∃ v, po v S1 ∧ O1 = setJ O o v.toInt64) ∨ (r = 1 ∧ Ex xA ∧ S1 = S ∧ O1 = O) ∨ (r = 2 ∧ Ex xS ∧ S1 = S ∧ O1 = O)) := by
  refine kMw.of (by decide) (Nat.le_of_ble_eq_true rfl) ?_
  intro p e s m below meth c ls B
  obtain ⟨F, hr, hlk, ht, hP, hO, hK, hD, hDO, hdis, hE, hNc, hS, hA, hl, hsz⟩ := B
  subst hsz
  have hx := F.1
  have hb := F.2.1
  have hl : lv_has ls 7 [(0, .ref x), (1, .int n1), (2, .int n2), (3, .int n3), (4, .int n4), (5, .ref o)] := hl
  refine lv_aload hx hb dL_addArticle_0 (lv_at hl 5 rfl) ?_
  refine lv_iconst (v := 0) hx hb dL_addArticle_2 (by decide) ?_
  refine lv_aload_n hx hb dL_addArticle_3 rfl (lv_at hl 0 rfl) ?_
  refine lv_iload_n hx hb dL_addArticle_4 rfl (lv_at hl 1 rfl) ?_
  refine lv_iload_n hx hb dL_addArticle_5 rfl (lv_at hl 2 rfl) ?_
  refine lv_iload_n hx hb dL_addArticle_6 rfl (lv_at hl 3 rfl) ?_
  refine lv_iload hx hb dL_addArticle_7 (lv_at hl 4 rfl) ?_
  refine kcallWI (kV (n := 4) (As := [.int n1, .int n2, .int n3, .int n4]) (rest := [.int 0, .ref o]) (b := x) (C := RX5) F hE hK hP hD hS hA hM (rr_Pickwave hK hP hx0) kw_91 kw_92 kw_93 kw_2 kw_94 (by decide +kernel) ⟨Nat.le_of_ble_eq_true rfl, Nat.le_of_ble_eq_true rfl⟩ rfl hl.1 rfl (Nat.le_of_ble_eq_true rfl) dL_addArticle_9 ⟨Nat.le_of_ble_eq_true rfl, Nat.le_of_ble_eq_true rfl⟩) rfl hD hS hA (fun E ce q9 H1 locs1 hex1 hP1 _ hf1 hS1 hce hcv hcl => ?_) (fun r S1 H1 locs1 hp hP1 hD1 hDA _ hf1 hS1 => ?_)
  · have hO1 := kO_keep hO hdis hf1
    rcases hex E hex1 with rfl | rfl
    · refine vx_catch (name := "java/lang/IllegalArgumentException") F.2.2.2.1 [] ⟨0, 14, 17, 13⟩ [⟨0, 14, 21, 15⟩] (ht.trans rfl) (fun z hz => by cases hz) rfl (by decide) (F.2.2.2.2 _ kw_89) (va_any rfl (hE.2.2.2.2.2.2.2.2.2.2.2.2.2.2.2.2 _ (List.mem_of_getElem? (i := 0) rfl))) hce hcv hcl ?_
      refine lv_astore (lv' := [(6, .ref q9), (0, .ref x), (1, .int n1), (2, .int n2), (3, .int n3), (4, .int n4), (5, .ref o)]) hx hb dL_addArticle_17 hl (by decide) rfl (fun ls hl => ?_)
      refine lv_iconst (v := 1) hx hb dL_addArticle_19 (by decide) ?_
      exact kEndW F hr hlk hP1 hO1 hD hDO hdis hS1 (Nat.le_of_ble_eq_true rfl) (Nat.le_of_ble_eq_true rfl) dL_addArticle_20 (Or.inr (Or.inl ⟨rfl, hex1, rfl, rfl⟩))
    · refine vx_catch (name := "java/lang/IllegalStateException") F.2.2.2.1 [⟨0, 14, 17, 13⟩] ⟨0, 14, 21, 15⟩ [] (ht.trans rfl) (fun z hz => by rcases List.mem_cons.mp hz with rfl | hz; exact Or.inr ⟨by decide, "java/lang/IllegalArgumentException", F.2.2.2.2 _ kw_89, hNc _ (List.mem_of_getElem? (i := 2) rfl)⟩; exact absurd hz List.not_mem_nil) rfl (by decide) (F.2.2.2.2 _ kw_90) (va_any rfl (hE.2.2.2.2.2.2.2.2.2.2.2.2.2.2.2.2 _ (List.mem_of_getElem? (i := 1) rfl))) hce hcv hcl ?_
      refine lv_astore (lv' := [(6, .ref q9), (0, .ref x), (1, .int n1), (2, .int n2), (3, .int n3), (4, .int n4), (5, .ref o)]) hx hb dL_addArticle_21 hl (by decide) rfl (fun ls hl => ?_)
      refine lv_iconst (v := 2) hx hb dL_addArticle_23 (by decide) ?_
      exact kEndW F hr hlk hP1 hO1 hD hDO hdis hS1 (Nat.le_of_ble_eq_true rfl) (Nat.le_of_ble_eq_true rfl) dL_addArticle_24 (Or.inr (Or.inr (⟨rfl, hex1, rfl, rfl⟩)))
  · have hO1 := kO_keep hO hdis hf1
    have hdis1 := kdis_keep hO hdis hD1
    refine lv_i2l (v := r.toInt64) hx hb dL_addArticle_12 rfl ?_
    refine rt2_J F hK hP1 hO1 hDA hDO hdis1 hS1 ho hN dL_addArticle_13 (fun H2 locs2 hP2 hO2 hDO2 hS2 => ?_)
    refine lv_goto (tgt := 25) hx hb dL_addArticle_14 (by decide) ?_
    refine lv_iconst (v := 0) hx hb dL_addArticle_25 (by decide) ?_
    exact kEndW F hr hlk hP2 hO2 hDA hDO2 hdis1 hS2 (Nat.le_of_ble_eq_true rfl) (Nat.le_of_ble_eq_true rfl) dL_addArticle_26 (Or.inl ⟨rfl, r, hp, rfl⟩)
theorem dL_aisleOf_0 : decode cL_aisleOf 0 = .ok (.aload_n 2, 1) := by decide +kernel
theorem dL_aisleOf_1 : decode cL_aisleOf 1 = .ok (.iconst 0, 1) := by decide +kernel
theorem dL_aisleOf_2 : decode cL_aisleOf 2 = .ok (.aload_n 0, 1) := by decide +kernel
theorem dL_aisleOf_3 : decode cL_aisleOf 3 = .ok (.iload_n 1, 1) := by decide +kernel
theorem dL_aisleOf_4 : decode cL_aisleOf 4 = .ok (.invokevirtual 94, 3) := by decide +kernel
theorem dL_aisleOf_7 : decode cL_aisleOf 7 = .ok (.i2l, 1) := by decide +kernel
theorem dL_aisleOf_8 : decode cL_aisleOf 8 = .ok (.lastore, 1) := by decide +kernel
theorem dL_aisleOf_9 : decode cL_aisleOf 9 = .ok (.goto 9, 3) := by decide +kernel
theorem dL_aisleOf_12 : decode cL_aisleOf 12 = .ok (.astore_n 3, 1) := by decide +kernel
theorem dL_aisleOf_13 : decode cL_aisleOf 13 = .ok (.iconst 1, 1) := by decide +kernel
theorem dL_aisleOf_14 : decode cL_aisleOf 14 = .ok (.ireturn, 1) := by decide +kernel
theorem dL_aisleOf_15 : decode cL_aisleOf 15 = .ok (.astore_n 3, 1) := by decide +kernel
theorem dL_aisleOf_16 : decode cL_aisleOf 16 = .ok (.iconst 2, 1) := by decide +kernel
theorem dL_aisleOf_17 : decode cL_aisleOf 17 = .ok (.ireturn, 1) := by decide +kernel
theorem dL_aisleOf_18 : decode cL_aisleOf 18 = .ok (.iconst 0, 1) := by decide +kernel
theorem dL_aisleOf_19 : decode cL_aisleOf 19 = .ok (.ireturn, 1) := by decide +kernel
set_option maxHeartbeats 4000000 in
set_option maxRecDepth 100000 in
theorem kw_aisleOf_ (l : Launch) (g : kG) (e0 : Nat) (S O : wPS) (sz x o : Nat) (n1 : Int32) (po : Int32 → wPS → Prop) (Ex : String → Prop) (hx0 : Ob S 5 x) (ho : Ob O 14 o) (hN : pN O o = 1) (hM : kM l g e0 yX5_aisleOf cX5_aisleOf 3 (some .int) 7 103 2 12 [.ref x, .int n1] S sz (pI po) Ex) (hex : ∀ E, Ex E → E = xI ∨ E = xN) : kMw l g e0 yL_aisleOf cL_aisleOf 4 [(0, 9, 12, 21), (0, 9, 15, 80)] 8 125 2 12 [.ref x, .int n1, .ref o] S O sz (fun r S1 O1 => (r = 0 ∧ ∃ v, po v S1 ∧ O1 = setJ O o v.toInt64) ∨ (r = 1 ∧ Ex xI ∧ S1 = S ∧ O1 = O) ∨ (r = 2 ∧ Ex xN ∧ S1 = S ∧ O1 = O)) := by
  refine kMw.of (by decide) (Nat.le_of_ble_eq_true rfl) ?_
  intro p e s m below meth c ls B
  obtain ⟨F, hr, hlk, ht, hP, hO, hK, hD, hDO, hdis, hE, hNc, hS, hA, hl, hsz⟩ := B
  subst hsz
  have hx := F.1
  have hb := F.2.1
  have hl : lv_has ls 4 [(0, .ref x), (1, .int n1), (2, .ref o)] := hl
  refine lv_aload_n hx hb dL_aisleOf_0 rfl (lv_at hl 2 rfl) ?_
  refine lv_iconst (v := 0) hx hb dL_aisleOf_1 (by decide) ?_
  refine lv_aload_n hx hb dL_aisleOf_2 rfl (lv_at hl 0 rfl) ?_
  refine lv_iload_n hx hb dL_aisleOf_3 rfl (lv_at hl 1 rfl) ?_
  refine kcallWI (kV (n := 1) (As := [.int n1]) (rest := [.int 0, .ref o]) (b := x) (C := RX5) F hE hK hP hD hS hA hM (rr_Pickwave hK hP hx0) kw_659 kw_660 kw_661 kw_2 kw_662 (by decide +kernel) ⟨Nat.le_of_ble_eq_true rfl, Nat.le_of_ble_eq_true rfl⟩ rfl hl.1 rfl (Nat.le_of_ble_eq_true rfl) dL_aisleOf_4 ⟨Nat.le_of_ble_eq_true rfl, Nat.le_of_ble_eq_true rfl⟩) rfl hD hS hA (fun E ce q9 H1 locs1 hex1 hP1 _ hf1 hS1 hce hcv hcl => ?_) (fun r S1 H1 locs1 hp hP1 hD1 hDA _ hf1 hS1 => ?_)
  · have hO1 := kO_keep hO hdis hf1
    rcases hex E hex1 with rfl | rfl
    · refine vx_catch (name := "java/lang/IndexOutOfBoundsException") F.2.2.2.1 [] ⟨0, 9, 12, 21⟩ [⟨0, 9, 15, 80⟩] (ht.trans rfl) (fun z hz => by cases hz) rfl (by decide) (F.2.2.2.2 _ kw_190) (va_any rfl (hE.2.2.2.2.2.2.2.2.2.2.2.2.2.2.2.2 _ (List.mem_of_getElem? (i := 2) rfl))) hce hcv hcl ?_
      refine lv_astore_n (lv' := [(3, .ref q9), (0, .ref x), (1, .int n1), (2, .ref o)]) hx hb dL_aisleOf_12 rfl hl (by decide) rfl (fun ls hl => ?_)
      refine lv_iconst (v := 1) hx hb dL_aisleOf_13 (by decide) ?_
      exact kEndW F hr hlk hP1 hO1 hD hDO hdis hS1 (Nat.le_of_ble_eq_true rfl) (Nat.le_of_ble_eq_true rfl) dL_aisleOf_14 (Or.inr (Or.inl ⟨rfl, hex1, rfl, rfl⟩))
    · refine vx_catch (name := "java/util/NoSuchElementException") F.2.2.2.1 [⟨0, 9, 12, 21⟩] ⟨0, 9, 15, 80⟩ [] (ht.trans rfl) (fun z hz => by rcases List.mem_cons.mp hz with rfl | hz; exact Or.inr ⟨by decide, "java/lang/IndexOutOfBoundsException", F.2.2.2.2 _ kw_190, hNc _ (List.mem_of_getElem? (i := 6) rfl)⟩; exact absurd hz List.not_mem_nil) rfl (by decide) (F.2.2.2.2 _ kw_573) (va_any rfl (hE.2.2.2.2.2.2.2.2.2.2.2.2.2.2.2.2 _ (List.mem_of_getElem? (i := 4) rfl))) hce hcv hcl ?_
      refine lv_astore_n (lv' := [(3, .ref q9), (0, .ref x), (1, .int n1), (2, .ref o)]) hx hb dL_aisleOf_15 rfl hl (by decide) rfl (fun ls hl => ?_)
      refine lv_iconst (v := 2) hx hb dL_aisleOf_16 (by decide) ?_
      exact kEndW F hr hlk hP1 hO1 hD hDO hdis hS1 (Nat.le_of_ble_eq_true rfl) (Nat.le_of_ble_eq_true rfl) dL_aisleOf_17 (Or.inr (Or.inr (⟨rfl, hex1, rfl, rfl⟩)))
  · have hO1 := kO_keep hO hdis hf1
    have hdis1 := kdis_keep hO hdis hD1
    refine lv_i2l (v := r.toInt64) hx hb dL_aisleOf_7 rfl ?_
    refine rt2_J F hK hP1 hO1 hDA hDO hdis1 hS1 ho hN dL_aisleOf_8 (fun H2 locs2 hP2 hO2 hDO2 hS2 => ?_)
    refine lv_goto (tgt := 18) hx hb dL_aisleOf_9 (by decide) ?_
    refine lv_iconst (v := 0) hx hb dL_aisleOf_18 (by decide) ?_
    exact kEndW F hr hlk hP2 hO2 hDA hDO2 hdis1 hS2 (Nat.le_of_ble_eq_true rfl) (Nat.le_of_ble_eq_true rfl) dL_aisleOf_19 (Or.inl ⟨rfl, r, hp, rfl⟩)
theorem dL_amount_0 : decode cL_amount 0 = .ok (.aload_n 2, 1) := by decide +kernel
theorem dL_amount_1 : decode cL_amount 1 = .ok (.iconst 0, 1) := by decide +kernel
theorem dL_amount_2 : decode cL_amount 2 = .ok (.aload_n 0, 1) := by decide +kernel
theorem dL_amount_3 : decode cL_amount 3 = .ok (.iload_n 1, 1) := by decide +kernel
theorem dL_amount_4 : decode cL_amount 4 = .ok (.invokevirtual 60, 3) := by decide +kernel
theorem dL_amount_7 : decode cL_amount 7 = .ok (.i2l, 1) := by decide +kernel
theorem dL_amount_8 : decode cL_amount 8 = .ok (.lastore, 1) := by decide +kernel
theorem dL_amount_9 : decode cL_amount 9 = .ok (.goto 6, 3) := by decide +kernel
theorem dL_amount_12 : decode cL_amount 12 = .ok (.astore_n 3, 1) := by decide +kernel
theorem dL_amount_13 : decode cL_amount 13 = .ok (.iconst 1, 1) := by decide +kernel
theorem dL_amount_14 : decode cL_amount 14 = .ok (.ireturn, 1) := by decide +kernel
theorem dL_amount_15 : decode cL_amount 15 = .ok (.iconst 0, 1) := by decide +kernel
theorem dL_amount_16 : decode cL_amount 16 = .ok (.ireturn, 1) := by decide +kernel
set_option maxHeartbeats 4000000 in
set_option maxRecDepth 100000 in
theorem kw_amount_ (l : Launch) (g : kG) (e0 : Nat) (S O : wPS) (sz x o : Nat) (n1 : Int32) (po : Int32 → wPS → Prop) (Ex : String → Prop) (hx0 : Ob S 5 x) (ho : Ob O 14 o) (hN : pN O o = 1) (hM : kM l g e0 yX5_amount cX5_amount 2 (some .int) 7 103 1 6 [.ref x, .int n1] S sz (pI po) Ex) (hex : ∀ E, Ex E → E = xI) : kMw l g e0 yL_amount cL_amount 4 [(0, 9, 12, 21)] 8 124 1 6 [.ref x, .int n1, .ref o] S O sz (fun r S1 O1 => (r = 0 ∧ ∃ v, po v S1 ∧ O1 = setJ O o v.toInt64) ∨ (r = 1 ∧ Ex xI ∧ S1 = S ∧ O1 = O)) := by
  refine kMw.of (by decide) (Nat.le_of_ble_eq_true rfl) ?_
  intro p e s m below meth c ls B
  obtain ⟨F, hr, hlk, ht, hP, hO, hK, hD, hDO, hdis, hE, hNc, hS, hA, hl, hsz⟩ := B
  subst hsz
  have hx := F.1
  have hb := F.2.1
  have hl : lv_has ls 4 [(0, .ref x), (1, .int n1), (2, .ref o)] := hl
  refine lv_aload_n hx hb dL_amount_0 rfl (lv_at hl 2 rfl) ?_
  refine lv_iconst (v := 0) hx hb dL_amount_1 (by decide) ?_
  refine lv_aload_n hx hb dL_amount_2 rfl (lv_at hl 0 rfl) ?_
  refine lv_iload_n hx hb dL_amount_3 rfl (lv_at hl 1 rfl) ?_
  refine kcallWI (kV (n := 1) (As := [.int n1]) (rest := [.int 0, .ref o]) (b := x) (C := RX5) F hE hK hP hD hS hA hM (rr_Pickwave hK hP hx0) kw_477 kw_478 kw_479 kw_2 kw_480 (by decide +kernel) ⟨Nat.le_of_ble_eq_true rfl, Nat.le_of_ble_eq_true rfl⟩ rfl hl.1 rfl (Nat.le_of_ble_eq_true rfl) dL_amount_4 ⟨Nat.le_of_ble_eq_true rfl, Nat.le_of_ble_eq_true rfl⟩) rfl hD hS hA (fun E ce q9 H1 locs1 hex1 hP1 _ hf1 hS1 hce hcv hcl => ?_) (fun r S1 H1 locs1 hp hP1 hD1 hDA _ hf1 hS1 => ?_)
  · have hO1 := kO_keep hO hdis hf1
    obtain rfl := hex E hex1
    refine vx_catch (name := "java/lang/IndexOutOfBoundsException") F.2.2.2.1 [] ⟨0, 9, 12, 21⟩ [] (ht.trans rfl) (fun z hz => by cases hz) rfl (by decide) (F.2.2.2.2 _ kw_190) (va_any rfl (hE.2.2.2.2.2.2.2.2.2.2.2.2.2.2.2.2 _ (List.mem_of_getElem? (i := 2) rfl))) hce hcv hcl ?_
    refine lv_astore_n (lv' := [(3, .ref q9), (0, .ref x), (1, .int n1), (2, .ref o)]) hx hb dL_amount_12 rfl hl (by decide) rfl (fun ls hl => ?_)
    refine lv_iconst (v := 1) hx hb dL_amount_13 (by decide) ?_
    exact kEndW F hr hlk hP1 hO1 hD hDO hdis hS1 (Nat.le_of_ble_eq_true rfl) (Nat.le_of_ble_eq_true rfl) dL_amount_14 (Or.inr (⟨rfl, hex1, rfl, rfl⟩))
  · have hO1 := kO_keep hO hdis hf1
    have hdis1 := kdis_keep hO hdis hD1
    refine lv_i2l (v := r.toInt64) hx hb dL_amount_7 rfl ?_
    refine rt2_J F hK hP1 hO1 hDA hDO hdis1 hS1 ho hN dL_amount_8 (fun H2 locs2 hP2 hO2 hDO2 hS2 => ?_)
    refine lv_goto (tgt := 15) hx hb dL_amount_9 (by decide) ?_
    refine lv_iconst (v := 0) hx hb dL_amount_15 (by decide) ?_
    exact kEndW F hr hlk hP2 hO2 hDA hDO2 hdis1 hS2 (Nat.le_of_ble_eq_true rfl) (Nat.le_of_ble_eq_true rfl) dL_amount_16 (Or.inl ⟨rfl, r, hp, rfl⟩)
theorem dL_carried_0 : decode cL_carried 0 = .ok (.aload_n 2, 1) := by decide +kernel
theorem dL_carried_1 : decode cL_carried 1 = .ok (.iconst 0, 1) := by decide +kernel
theorem dL_carried_2 : decode cL_carried 2 = .ok (.aload_n 0, 1) := by decide +kernel
theorem dL_carried_3 : decode cL_carried 3 = .ok (.iload_n 1, 1) := by decide +kernel
theorem dL_carried_4 : decode cL_carried 4 = .ok (.invokevirtual 88, 3) := by decide +kernel
theorem dL_carried_7 : decode cL_carried 7 = .ok (.i2l, 1) := by decide +kernel
theorem dL_carried_8 : decode cL_carried 8 = .ok (.lastore, 1) := by decide +kernel
theorem dL_carried_9 : decode cL_carried 9 = .ok (.goto 6, 3) := by decide +kernel
theorem dL_carried_12 : decode cL_carried 12 = .ok (.astore_n 3, 1) := by decide +kernel
theorem dL_carried_13 : decode cL_carried 13 = .ok (.iconst 1, 1) := by decide +kernel
theorem dL_carried_14 : decode cL_carried 14 = .ok (.ireturn, 1) := by decide +kernel
theorem dL_carried_15 : decode cL_carried 15 = .ok (.iconst 0, 1) := by decide +kernel
theorem dL_carried_16 : decode cL_carried 16 = .ok (.ireturn, 1) := by decide +kernel
set_option maxHeartbeats 4000000 in
set_option maxRecDepth 100000 in
theorem kw_carried_ (l : Launch) (g : kG) (e0 : Nat) (S O : wPS) (sz x o : Nat) (n1 : Int32) (po : Int32 → wPS → Prop) (Ex : String → Prop) (hx0 : Ob S 5 x) (ho : Ob O 14 o) (hN : pN O o = 1) (hM : kM l g e0 yX5_carried cX5_carried 2 (some .int) 7 103 1 6 [.ref x, .int n1] S sz (pI po) Ex) (hex : ∀ E, Ex E → E = xI) : kMw l g e0 yL_carried cL_carried 4 [(0, 9, 12, 21)] 8 124 1 6 [.ref x, .int n1, .ref o] S O sz (fun r S1 O1 => (r = 0 ∧ ∃ v, po v S1 ∧ O1 = setJ O o v.toInt64) ∨ (r = 1 ∧ Ex xI ∧ S1 = S ∧ O1 = O)) := by
  refine kMw.of (by decide) (Nat.le_of_ble_eq_true rfl) ?_
  intro p e s m below meth c ls B
  obtain ⟨F, hr, hlk, ht, hP, hO, hK, hD, hDO, hdis, hE, hNc, hS, hA, hl, hsz⟩ := B
  subst hsz
  have hx := F.1
  have hb := F.2.1
  have hl : lv_has ls 4 [(0, .ref x), (1, .int n1), (2, .ref o)] := hl
  refine lv_aload_n hx hb dL_carried_0 rfl (lv_at hl 2 rfl) ?_
  refine lv_iconst (v := 0) hx hb dL_carried_1 (by decide) ?_
  refine lv_aload_n hx hb dL_carried_2 rfl (lv_at hl 0 rfl) ?_
  refine lv_iload_n hx hb dL_carried_3 rfl (lv_at hl 1 rfl) ?_
  refine kcallWI (kV (n := 1) (As := [.int n1]) (rest := [.int 0, .ref o]) (b := x) (C := RX5) F hE hK hP hD hS hA hM (rr_Pickwave hK hP hx0) kw_637 kw_638 kw_639 kw_2 kw_640 (by decide +kernel) ⟨Nat.le_of_ble_eq_true rfl, Nat.le_of_ble_eq_true rfl⟩ rfl hl.1 rfl (Nat.le_of_ble_eq_true rfl) dL_carried_4 ⟨Nat.le_of_ble_eq_true rfl, Nat.le_of_ble_eq_true rfl⟩) rfl hD hS hA (fun E ce q9 H1 locs1 hex1 hP1 _ hf1 hS1 hce hcv hcl => ?_) (fun r S1 H1 locs1 hp hP1 hD1 hDA _ hf1 hS1 => ?_)
  · have hO1 := kO_keep hO hdis hf1
    obtain rfl := hex E hex1
    refine vx_catch (name := "java/lang/IndexOutOfBoundsException") F.2.2.2.1 [] ⟨0, 9, 12, 21⟩ [] (ht.trans rfl) (fun z hz => by cases hz) rfl (by decide) (F.2.2.2.2 _ kw_190) (va_any rfl (hE.2.2.2.2.2.2.2.2.2.2.2.2.2.2.2.2 _ (List.mem_of_getElem? (i := 2) rfl))) hce hcv hcl ?_
    refine lv_astore_n (lv' := [(3, .ref q9), (0, .ref x), (1, .int n1), (2, .ref o)]) hx hb dL_carried_12 rfl hl (by decide) rfl (fun ls hl => ?_)
    refine lv_iconst (v := 1) hx hb dL_carried_13 (by decide) ?_
    exact kEndW F hr hlk hP1 hO1 hD hDO hdis hS1 (Nat.le_of_ble_eq_true rfl) (Nat.le_of_ble_eq_true rfl) dL_carried_14 (Or.inr (⟨rfl, hex1, rfl, rfl⟩))
  · have hO1 := kO_keep hO hdis hf1
    have hdis1 := kdis_keep hO hdis hD1
    refine lv_i2l (v := r.toInt64) hx hb dL_carried_7 rfl ?_
    refine rt2_J F hK hP1 hO1 hDA hDO hdis1 hS1 ho hN dL_carried_8 (fun H2 locs2 hP2 hO2 hDO2 hS2 => ?_)
    refine lv_goto (tgt := 15) hx hb dL_carried_9 (by decide) ?_
    refine lv_iconst (v := 0) hx hb dL_carried_15 (by decide) ?_
    exact kEndW F hr hlk hP2 hO2 hDA hDO2 hdis1 hS2 (Nat.le_of_ble_eq_true rfl) (Nat.le_of_ble_eq_true rfl) dL_carried_16 (Or.inl ⟨rfl, r, hp, rfl⟩)
theorem dL_drop_0 : decode cL_drop 0 = .ok (.aload_n 2, 1) := by decide +kernel
theorem dL_drop_1 : decode cL_drop 1 = .ok (.iconst 0, 1) := by decide +kernel
theorem dL_drop_2 : decode cL_drop 2 = .ok (.aload_n 0, 1) := by decide +kernel
theorem dL_drop_3 : decode cL_drop 3 = .ok (.iload_n 1, 1) := by decide +kernel
theorem dL_drop_4 : decode cL_drop 4 = .ok (.invokevirtual 50, 3) := by decide +kernel
theorem dL_drop_7 : decode cL_drop 7 = .ok (.i2l, 1) := by decide +kernel
theorem dL_drop_8 : decode cL_drop 8 = .ok (.lastore, 1) := by decide +kernel
theorem dL_drop_9 : decode cL_drop 9 = .ok (.goto 9, 3) := by decide +kernel
theorem dL_drop_12 : decode cL_drop 12 = .ok (.astore_n 3, 1) := by decide +kernel
theorem dL_drop_13 : decode cL_drop 13 = .ok (.iconst 1, 1) := by decide +kernel
theorem dL_drop_14 : decode cL_drop 14 = .ok (.ireturn, 1) := by decide +kernel
theorem dL_drop_15 : decode cL_drop 15 = .ok (.astore_n 3, 1) := by decide +kernel
theorem dL_drop_16 : decode cL_drop 16 = .ok (.iconst 2, 1) := by decide +kernel
theorem dL_drop_17 : decode cL_drop 17 = .ok (.ireturn, 1) := by decide +kernel
theorem dL_drop_18 : decode cL_drop 18 = .ok (.iconst 0, 1) := by decide +kernel
theorem dL_drop_19 : decode cL_drop 19 = .ok (.ireturn, 1) := by decide +kernel
set_option maxHeartbeats 4000000 in
set_option maxRecDepth 100000 in
theorem kw_drop_ (l : Launch) (g : kG) (e0 : Nat) (S O : wPS) (sz x o : Nat) (n1 : Int32) (po : Int32 → wPS → Prop) (Ex : String → Prop) (hx0 : Ob S 5 x) (ho : Ob O 14 o) (hN : pN O o = 1) (hM : kM l g e0 yX5_drop cX5_drop 3 (some .int) 7 103 2 12 [.ref x, .int n1] S sz (pI po) Ex) (hex : ∀ E, Ex E → E = xI ∨ E = xS) : kMw l g e0 yL_drop cL_drop 4 [(0, 9, 12, 21), (0, 9, 15, 15)] 8 125 2 12 [.ref x, .int n1, .ref o] S O sz (fun r S1 O1 => (r = 0 ∧ ∃ v, po v S1 ∧ O1 = setJ O o v.toInt64) ∨ (r = 1 ∧ Ex xI ∧ S1 = S ∧ O1 = O) ∨ (r = 2 ∧ Ex xS ∧ S1 = S ∧ O1 = O)) := by
  refine kMw.of (by decide) (Nat.le_of_ble_eq_true rfl) ?_
  intro p e s m below meth c ls B
  obtain ⟨F, hr, hlk, ht, hP, hO, hK, hD, hDO, hdis, hE, hNc, hS, hA, hl, hsz⟩ := B
  subst hsz
  have hx := F.1
  have hb := F.2.1
  have hl : lv_has ls 4 [(0, .ref x), (1, .int n1), (2, .ref o)] := hl
  refine lv_aload_n hx hb dL_drop_0 rfl (lv_at hl 2 rfl) ?_
  refine lv_iconst (v := 0) hx hb dL_drop_1 (by decide) ?_
  refine lv_aload_n hx hb dL_drop_2 rfl (lv_at hl 0 rfl) ?_
  refine lv_iload_n hx hb dL_drop_3 rfl (lv_at hl 1 rfl) ?_
  refine kcallWI (kV (n := 1) (As := [.int n1]) (rest := [.int 0, .ref o]) (b := x) (C := RX5) F hE hK hP hD hS hA hM (rr_Pickwave hK hP hx0) kw_435 kw_436 kw_437 kw_2 kw_438 (by decide +kernel) ⟨Nat.le_of_ble_eq_true rfl, Nat.le_of_ble_eq_true rfl⟩ rfl hl.1 rfl (Nat.le_of_ble_eq_true rfl) dL_drop_4 ⟨Nat.le_of_ble_eq_true rfl, Nat.le_of_ble_eq_true rfl⟩) rfl hD hS hA (fun E ce q9 H1 locs1 hex1 hP1 _ hf1 hS1 hce hcv hcl => ?_) (fun r S1 H1 locs1 hp hP1 hD1 hDA _ hf1 hS1 => ?_)
  · have hO1 := kO_keep hO hdis hf1
    rcases hex E hex1 with rfl | rfl
    · refine vx_catch (name := "java/lang/IndexOutOfBoundsException") F.2.2.2.1 [] ⟨0, 9, 12, 21⟩ [⟨0, 9, 15, 15⟩] (ht.trans rfl) (fun z hz => by cases hz) rfl (by decide) (F.2.2.2.2 _ kw_190) (va_any rfl (hE.2.2.2.2.2.2.2.2.2.2.2.2.2.2.2.2 _ (List.mem_of_getElem? (i := 2) rfl))) hce hcv hcl ?_
      refine lv_astore_n (lv' := [(3, .ref q9), (0, .ref x), (1, .int n1), (2, .ref o)]) hx hb dL_drop_12 rfl hl (by decide) rfl (fun ls hl => ?_)
      refine lv_iconst (v := 1) hx hb dL_drop_13 (by decide) ?_
      exact kEndW F hr hlk hP1 hO1 hD hDO hdis hS1 (Nat.le_of_ble_eq_true rfl) (Nat.le_of_ble_eq_true rfl) dL_drop_14 (Or.inr (Or.inl ⟨rfl, hex1, rfl, rfl⟩))
    · refine vx_catch (name := "java/lang/IllegalStateException") F.2.2.2.1 [⟨0, 9, 12, 21⟩] ⟨0, 9, 15, 15⟩ [] (ht.trans rfl) (fun z hz => by rcases List.mem_cons.mp hz with rfl | hz; exact Or.inr ⟨by decide, "java/lang/IndexOutOfBoundsException", F.2.2.2.2 _ kw_190, hNc _ (List.mem_of_getElem? (i := 1) rfl)⟩; exact absurd hz List.not_mem_nil) rfl (by decide) (F.2.2.2.2 _ kw_90) (va_any rfl (hE.2.2.2.2.2.2.2.2.2.2.2.2.2.2.2.2 _ (List.mem_of_getElem? (i := 1) rfl))) hce hcv hcl ?_
      refine lv_astore_n (lv' := [(3, .ref q9), (0, .ref x), (1, .int n1), (2, .ref o)]) hx hb dL_drop_15 rfl hl (by decide) rfl (fun ls hl => ?_)
      refine lv_iconst (v := 2) hx hb dL_drop_16 (by decide) ?_
      exact kEndW F hr hlk hP1 hO1 hD hDO hdis hS1 (Nat.le_of_ble_eq_true rfl) (Nat.le_of_ble_eq_true rfl) dL_drop_17 (Or.inr (Or.inr (⟨rfl, hex1, rfl, rfl⟩)))
  · have hO1 := kO_keep hO hdis hf1
    have hdis1 := kdis_keep hO hdis hD1
    refine lv_i2l (v := r.toInt64) hx hb dL_drop_7 rfl ?_
    refine rt2_J F hK hP1 hO1 hDA hDO hdis1 hS1 ho hN dL_drop_8 (fun H2 locs2 hP2 hO2 hDO2 hS2 => ?_)
    refine lv_goto (tgt := 18) hx hb dL_drop_9 (by decide) ?_
    refine lv_iconst (v := 0) hx hb dL_drop_18 (by decide) ?_
    exact kEndW F hr hlk hP2 hO2 hDA hDO2 hdis1 hS2 (Nat.le_of_ble_eq_true rfl) (Nat.le_of_ble_eq_true rfl) dL_drop_19 (Or.inl ⟨rfl, r, hp, rfl⟩)
theorem dL_free_0 : decode cL_free 0 = .ok (.aload_n 2, 1) := by decide +kernel
theorem dL_free_1 : decode cL_free 1 = .ok (.iconst 0, 1) := by decide +kernel
theorem dL_free_2 : decode cL_free 2 = .ok (.aload_n 0, 1) := by decide +kernel
theorem dL_free_3 : decode cL_free 3 = .ok (.iload_n 1, 1) := by decide +kernel
theorem dL_free_4 : decode cL_free 4 = .ok (.invokevirtual 26, 3) := by decide +kernel
theorem dL_free_7 : decode cL_free 7 = .ok (.i2l, 1) := by decide +kernel
theorem dL_free_8 : decode cL_free 8 = .ok (.lastore, 1) := by decide +kernel
theorem dL_free_9 : decode cL_free 9 = .ok (.goto 6, 3) := by decide +kernel
theorem dL_free_12 : decode cL_free 12 = .ok (.astore_n 3, 1) := by decide +kernel
theorem dL_free_13 : decode cL_free 13 = .ok (.iconst 1, 1) := by decide +kernel
theorem dL_free_14 : decode cL_free 14 = .ok (.ireturn, 1) := by decide +kernel
theorem dL_free_15 : decode cL_free 15 = .ok (.iconst 0, 1) := by decide +kernel
theorem dL_free_16 : decode cL_free 16 = .ok (.ireturn, 1) := by decide +kernel
set_option maxHeartbeats 4000000 in
set_option maxRecDepth 100000 in
theorem kw_free_ (l : Launch) (g : kG) (e0 : Nat) (S O : wPS) (sz x o : Nat) (n1 : Int32) (po : Int32 → wPS → Prop) (Ex : String → Prop) (hx0 : Ob S 5 x) (ho : Ob O 14 o) (hN : pN O o = 1) (hM : kM l g e0 yX5_free cX5_free 2 (some .int) 7 103 1 6 [.ref x, .int n1] S sz (pI po) Ex) (hex : ∀ E, Ex E → E = xI) : kMw l g e0 yL_free cL_free 4 [(0, 9, 12, 21)] 8 124 1 6 [.ref x, .int n1, .ref o] S O sz (fun r S1 O1 => (r = 0 ∧ ∃ v, po v S1 ∧ O1 = setJ O o v.toInt64) ∨ (r = 1 ∧ Ex xI ∧ S1 = S ∧ O1 = O)) := by
  refine kMw.of (by decide) (Nat.le_of_ble_eq_true rfl) ?_
  intro p e s m below meth c ls B
  obtain ⟨F, hr, hlk, ht, hP, hO, hK, hD, hDO, hdis, hE, hNc, hS, hA, hl, hsz⟩ := B
  subst hsz
  have hx := F.1
  have hb := F.2.1
  have hl : lv_has ls 4 [(0, .ref x), (1, .int n1), (2, .ref o)] := hl
  refine lv_aload_n hx hb dL_free_0 rfl (lv_at hl 2 rfl) ?_
  refine lv_iconst (v := 0) hx hb dL_free_1 (by decide) ?_
  refine lv_aload_n hx hb dL_free_2 rfl (lv_at hl 0 rfl) ?_
  refine lv_iload_n hx hb dL_free_3 rfl (lv_at hl 1 rfl) ?_
  refine kcallWI (kV (n := 1) (As := [.int n1]) (rest := [.int 0, .ref o]) (b := x) (C := RX5) F hE hK hP hD hS hA hM (rr_Pickwave hK hP hx0) kw_242 kw_243 kw_244 kw_2 kw_245 (by decide +kernel) ⟨Nat.le_of_ble_eq_true rfl, Nat.le_of_ble_eq_true rfl⟩ rfl hl.1 rfl (Nat.le_of_ble_eq_true rfl) dL_free_4 ⟨Nat.le_of_ble_eq_true rfl, Nat.le_of_ble_eq_true rfl⟩) rfl hD hS hA (fun E ce q9 H1 locs1 hex1 hP1 _ hf1 hS1 hce hcv hcl => ?_) (fun r S1 H1 locs1 hp hP1 hD1 hDA _ hf1 hS1 => ?_)
  · have hO1 := kO_keep hO hdis hf1
    obtain rfl := hex E hex1
    refine vx_catch (name := "java/lang/IndexOutOfBoundsException") F.2.2.2.1 [] ⟨0, 9, 12, 21⟩ [] (ht.trans rfl) (fun z hz => by cases hz) rfl (by decide) (F.2.2.2.2 _ kw_190) (va_any rfl (hE.2.2.2.2.2.2.2.2.2.2.2.2.2.2.2.2 _ (List.mem_of_getElem? (i := 2) rfl))) hce hcv hcl ?_
    refine lv_astore_n (lv' := [(3, .ref q9), (0, .ref x), (1, .int n1), (2, .ref o)]) hx hb dL_free_12 rfl hl (by decide) rfl (fun ls hl => ?_)
    refine lv_iconst (v := 1) hx hb dL_free_13 (by decide) ?_
    exact kEndW F hr hlk hP1 hO1 hD hDO hdis hS1 (Nat.le_of_ble_eq_true rfl) (Nat.le_of_ble_eq_true rfl) dL_free_14 (Or.inr (⟨rfl, hex1, rfl, rfl⟩))
  · have hO1 := kO_keep hO hdis hf1
    have hdis1 := kdis_keep hO hdis hD1
    refine lv_i2l (v := r.toInt64) hx hb dL_free_7 rfl ?_
    refine rt2_J F hK hP1 hO1 hDA hDO hdis1 hS1 ho hN dL_free_8 (fun H2 locs2 hP2 hO2 hDO2 hS2 => ?_)
    refine lv_goto (tgt := 15) hx hb dL_free_9 (by decide) ?_
    refine lv_iconst (v := 0) hx hb dL_free_15 (by decide) ?_
    exact kEndW F hr hlk hP2 hO2 hDA hDO2 hdis1 hS2 (Nat.le_of_ble_eq_true rfl) (Nat.le_of_ble_eq_true rfl) dL_free_16 (Or.inl ⟨rfl, r, hp, rfl⟩)
theorem dL_giveBack_0 : decode cL_giveBack 0 = .ok (.aload 4, 2) := by decide +kernel
theorem dL_giveBack_2 : decode cL_giveBack 2 = .ok (.iconst 0, 1) := by decide +kernel
theorem dL_giveBack_3 : decode cL_giveBack 3 = .ok (.aload_n 0, 1) := by decide +kernel
theorem dL_giveBack_4 : decode cL_giveBack 4 = .ok (.iload_n 1, 1) := by decide +kernel
theorem dL_giveBack_5 : decode cL_giveBack 5 = .ok (.iload_n 2, 1) := by decide +kernel
theorem dL_giveBack_6 : decode cL_giveBack 6 = .ok (.iload_n 3, 1) := by decide +kernel
theorem dL_giveBack_7 : decode cL_giveBack 7 = .ok (.invokevirtual 43, 3) := by decide +kernel
theorem dL_giveBack_10 : decode cL_giveBack 10 = .ok (.i2l, 1) := by decide +kernel
theorem dL_giveBack_11 : decode cL_giveBack 11 = .ok (.lastore, 1) := by decide +kernel
theorem dL_giveBack_12 : decode cL_giveBack 12 = .ok (.goto 15, 3) := by decide +kernel
theorem dL_giveBack_15 : decode cL_giveBack 15 = .ok (.astore 5, 2) := by decide +kernel
theorem dL_giveBack_17 : decode cL_giveBack 17 = .ok (.iconst 1, 1) := by decide +kernel
theorem dL_giveBack_18 : decode cL_giveBack 18 = .ok (.ireturn, 1) := by decide +kernel
theorem dL_giveBack_19 : decode cL_giveBack 19 = .ok (.astore 5, 2) := by decide +kernel
theorem dL_giveBack_21 : decode cL_giveBack 21 = .ok (.iconst 2, 1) := by decide +kernel
theorem dL_giveBack_22 : decode cL_giveBack 22 = .ok (.ireturn, 1) := by decide +kernel
theorem dL_giveBack_23 : decode cL_giveBack 23 = .ok (.astore 5, 2) := by decide +kernel
theorem dL_giveBack_25 : decode cL_giveBack 25 = .ok (.iconst 3, 1) := by decide +kernel
theorem dL_giveBack_26 : decode cL_giveBack 26 = .ok (.ireturn, 1) := by decide +kernel
theorem dL_giveBack_27 : decode cL_giveBack 27 = .ok (.iconst 0, 1) := by decide +kernel
theorem dL_giveBack_28 : decode cL_giveBack 28 = .ok (.ireturn, 1) := by decide +kernel
set_option maxHeartbeats 4000000 in
set_option maxRecDepth 100000 in
theorem kw_giveBack_ (l : Launch) (g : kG) (e0 : Nat) (S O : wPS) (sz x o : Nat) (n1 n2 n3 : Int32) (po : Int32 → wPS → Prop) (Ex : String → Prop) (hx0 : Ob S 5 x) (ho : Ob O 14 o) (hN : pN O o = 1) (hM : kM l g e0 yX5_giveBack cX5_giveBack 6 (some .int) 7 103 2 12 [.ref x, .int n1, .int n2, .int n3] S sz (pI po) Ex) (hex : ∀ E, Ex E → E = xI ∨ E = xA ∨ E = xS) : kMw l g e0 yL_giveBack cL_giveBack 6 [(0, 12, 15, 21), (0, 12, 19, 13), (0, 12, 23, 15)] 8 128 2 12 [.ref x, .int n1, .int n2, .int n3, .ref o] S O sz (fun r S1 O1 => (r = 0 ∧ ∃ v, po v S1 ∧ O1 = setJ O o v.toInt64) ∨ (r = 1 ∧ Ex xI ∧ S1 = S ∧ O1 = O) ∨ (r = 2 ∧ Ex xA ∧ S1 = S ∧ O1 = O) ∨ (r = 3 ∧ Ex xS ∧ S1 = S ∧ O1 = O)) := by
  refine kMw.of (by decide) (Nat.le_of_ble_eq_true rfl) ?_
  intro p e s m below meth c ls B
  obtain ⟨F, hr, hlk, ht, hP, hO, hK, hD, hDO, hdis, hE, hNc, hS, hA, hl, hsz⟩ := B
  subst hsz
  have hx := F.1
  have hb := F.2.1
  have hl : lv_has ls 6 [(0, .ref x), (1, .int n1), (2, .int n2), (3, .int n3), (4, .ref o)] := hl
  refine lv_aload hx hb dL_giveBack_0 (lv_at hl 4 rfl) ?_
  refine lv_iconst (v := 0) hx hb dL_giveBack_2 (by decide) ?_
  refine lv_aload_n hx hb dL_giveBack_3 rfl (lv_at hl 0 rfl) ?_
  refine lv_iload_n hx hb dL_giveBack_4 rfl (lv_at hl 1 rfl) ?_
  refine lv_iload_n hx hb dL_giveBack_5 rfl (lv_at hl 2 rfl) ?_
  refine lv_iload_n hx hb dL_giveBack_6 rfl (lv_at hl 3 rfl) ?_
  refine kcallWI (kV (n := 3) (As := [.int n1, .int n2, .int n3]) (rest := [.int 0, .ref o]) (b := x) (C := RX5) F hE hK hP hD hS hA hM (rr_Pickwave hK hP hx0) kw_363 kw_364 kw_365 kw_2 kw_366 (by decide +kernel) ⟨Nat.le_of_ble_eq_true rfl, Nat.le_of_ble_eq_true rfl⟩ rfl hl.1 rfl (Nat.le_of_ble_eq_true rfl) dL_giveBack_7 ⟨Nat.le_of_ble_eq_true rfl, Nat.le_of_ble_eq_true rfl⟩) rfl hD hS hA (fun E ce q9 H1 locs1 hex1 hP1 _ hf1 hS1 hce hcv hcl => ?_) (fun r S1 H1 locs1 hp hP1 hD1 hDA _ hf1 hS1 => ?_)
  · have hO1 := kO_keep hO hdis hf1
    rcases hex E hex1 with rfl | rfl | rfl
    · refine vx_catch (name := "java/lang/IndexOutOfBoundsException") F.2.2.2.1 [] ⟨0, 12, 15, 21⟩ [⟨0, 12, 19, 13⟩, ⟨0, 12, 23, 15⟩] (ht.trans rfl) (fun z hz => by cases hz) rfl (by decide) (F.2.2.2.2 _ kw_190) (va_any rfl (hE.2.2.2.2.2.2.2.2.2.2.2.2.2.2.2.2 _ (List.mem_of_getElem? (i := 2) rfl))) hce hcv hcl ?_
      refine lv_astore (lv' := [(5, .ref q9), (0, .ref x), (1, .int n1), (2, .int n2), (3, .int n3), (4, .ref o)]) hx hb dL_giveBack_15 hl (by decide) rfl (fun ls hl => ?_)
      refine lv_iconst (v := 1) hx hb dL_giveBack_17 (by decide) ?_
      exact kEndW F hr hlk hP1 hO1 hD hDO hdis hS1 (Nat.le_of_ble_eq_true rfl) (Nat.le_of_ble_eq_true rfl) dL_giveBack_18 (Or.inr (Or.inl ⟨rfl, hex1, rfl, rfl⟩))
    · refine vx_catch (name := "java/lang/IllegalArgumentException") F.2.2.2.1 [⟨0, 12, 15, 21⟩] ⟨0, 12, 19, 13⟩ [⟨0, 12, 23, 15⟩] (ht.trans rfl) (fun z hz => by rcases List.mem_cons.mp hz with rfl | hz; exact Or.inr ⟨by decide, "java/lang/IndexOutOfBoundsException", F.2.2.2.2 _ kw_190, hNc _ (List.mem_of_getElem? (i := 0) rfl)⟩; exact absurd hz List.not_mem_nil) rfl (by decide) (F.2.2.2.2 _ kw_89) (va_any rfl (hE.2.2.2.2.2.2.2.2.2.2.2.2.2.2.2.2 _ (List.mem_of_getElem? (i := 0) rfl))) hce hcv hcl ?_
      refine lv_astore (lv' := [(5, .ref q9), (0, .ref x), (1, .int n1), (2, .int n2), (3, .int n3), (4, .ref o)]) hx hb dL_giveBack_19 hl (by decide) rfl (fun ls hl => ?_)
      refine lv_iconst (v := 2) hx hb dL_giveBack_21 (by decide) ?_
      exact kEndW F hr hlk hP1 hO1 hD hDO hdis hS1 (Nat.le_of_ble_eq_true rfl) (Nat.le_of_ble_eq_true rfl) dL_giveBack_22 (Or.inr (Or.inr (Or.inl ⟨rfl, hex1, rfl, rfl⟩)))
    · refine vx_catch (name := "java/lang/IllegalStateException") F.2.2.2.1 [⟨0, 12, 15, 21⟩, ⟨0, 12, 19, 13⟩] ⟨0, 12, 23, 15⟩ [] (ht.trans rfl) (fun z hz => by rcases List.mem_cons.mp hz with rfl | hz; exact Or.inr ⟨by decide, "java/lang/IndexOutOfBoundsException", F.2.2.2.2 _ kw_190, hNc _ (List.mem_of_getElem? (i := 1) rfl)⟩; rcases List.mem_cons.mp hz with rfl | hz; exact Or.inr ⟨by decide, "java/lang/IllegalArgumentException", F.2.2.2.2 _ kw_89, hNc _ (List.mem_of_getElem? (i := 2) rfl)⟩; exact absurd hz List.not_mem_nil) rfl (by decide) (F.2.2.2.2 _ kw_90) (va_any rfl (hE.2.2.2.2.2.2.2.2.2.2.2.2.2.2.2.2 _ (List.mem_of_getElem? (i := 1) rfl))) hce hcv hcl ?_
      refine lv_astore (lv' := [(5, .ref q9), (0, .ref x), (1, .int n1), (2, .int n2), (3, .int n3), (4, .ref o)]) hx hb dL_giveBack_23 hl (by decide) rfl (fun ls hl => ?_)
      refine lv_iconst (v := 3) hx hb dL_giveBack_25 (by decide) ?_
      exact kEndW F hr hlk hP1 hO1 hD hDO hdis hS1 (Nat.le_of_ble_eq_true rfl) (Nat.le_of_ble_eq_true rfl) dL_giveBack_26 (Or.inr (Or.inr (Or.inr (⟨rfl, hex1, rfl, rfl⟩))))
  · have hO1 := kO_keep hO hdis hf1
    have hdis1 := kdis_keep hO hdis hD1
    refine lv_i2l (v := r.toInt64) hx hb dL_giveBack_10 rfl ?_
    refine rt2_J F hK hP1 hO1 hDA hDO hdis1 hS1 ho hN dL_giveBack_11 (fun H2 locs2 hP2 hO2 hDO2 hS2 => ?_)
    refine lv_goto (tgt := 27) hx hb dL_giveBack_12 (by decide) ?_
    refine lv_iconst (v := 0) hx hb dL_giveBack_27 (by decide) ?_
    exact kEndW F hr hlk hP2 hO2 hDA hDO2 hdis1 hS2 (Nat.le_of_ble_eq_true rfl) (Nat.le_of_ble_eq_true rfl) dL_giveBack_28 (Or.inl ⟨rfl, r, hp, rfl⟩)
theorem dL_minutesLeft_0 : decode cL_minutesLeft 0 = .ok (.aload_n 2, 1) := by decide +kernel
theorem dL_minutesLeft_1 : decode cL_minutesLeft 1 = .ok (.iconst 0, 1) := by decide +kernel
theorem dL_minutesLeft_2 : decode cL_minutesLeft 2 = .ok (.aload_n 0, 1) := by decide +kernel
theorem dL_minutesLeft_3 : decode cL_minutesLeft 3 = .ok (.iload_n 1, 1) := by decide +kernel
theorem dL_minutesLeft_4 : decode cL_minutesLeft 4 = .ok (.invokevirtual 82, 3) := by decide +kernel
theorem dL_minutesLeft_7 : decode cL_minutesLeft 7 = .ok (.i2l, 1) := by decide +kernel
theorem dL_minutesLeft_8 : decode cL_minutesLeft 8 = .ok (.lastore, 1) := by decide +kernel
theorem dL_minutesLeft_9 : decode cL_minutesLeft 9 = .ok (.goto 6, 3) := by decide +kernel
theorem dL_minutesLeft_12 : decode cL_minutesLeft 12 = .ok (.astore_n 3, 1) := by decide +kernel
theorem dL_minutesLeft_13 : decode cL_minutesLeft 13 = .ok (.iconst 1, 1) := by decide +kernel
theorem dL_minutesLeft_14 : decode cL_minutesLeft 14 = .ok (.ireturn, 1) := by decide +kernel
theorem dL_minutesLeft_15 : decode cL_minutesLeft 15 = .ok (.iconst 0, 1) := by decide +kernel
theorem dL_minutesLeft_16 : decode cL_minutesLeft 16 = .ok (.ireturn, 1) := by decide +kernel
set_option maxHeartbeats 4000000 in
set_option maxRecDepth 100000 in
theorem kw_minutesLeft_ (l : Launch) (g : kG) (e0 : Nat) (S O : wPS) (sz x o : Nat) (n1 : Int32) (po : Int32 → wPS → Prop) (Ex : String → Prop) (hx0 : Ob S 5 x) (ho : Ob O 14 o) (hN : pN O o = 1) (hM : kM l g e0 yX5_minutesLeft cX5_minutesLeft 3 (some .int) 7 103 1 6 [.ref x, .int n1] S sz (pI po) Ex) (hex : ∀ E, Ex E → E = xI) : kMw l g e0 yL_minutesLeft cL_minutesLeft 4 [(0, 9, 12, 21)] 8 125 1 6 [.ref x, .int n1, .ref o] S O sz (fun r S1 O1 => (r = 0 ∧ ∃ v, po v S1 ∧ O1 = setJ O o v.toInt64) ∨ (r = 1 ∧ Ex xI ∧ S1 = S ∧ O1 = O)) := by
  refine kMw.of (by decide) (Nat.le_of_ble_eq_true rfl) ?_
  intro p e s m below meth c ls B
  obtain ⟨F, hr, hlk, ht, hP, hO, hK, hD, hDO, hdis, hE, hNc, hS, hA, hl, hsz⟩ := B
  subst hsz
  have hx := F.1
  have hb := F.2.1
  have hl : lv_has ls 4 [(0, .ref x), (1, .int n1), (2, .ref o)] := hl
  refine lv_aload_n hx hb dL_minutesLeft_0 rfl (lv_at hl 2 rfl) ?_
  refine lv_iconst (v := 0) hx hb dL_minutesLeft_1 (by decide) ?_
  refine lv_aload_n hx hb dL_minutesLeft_2 rfl (lv_at hl 0 rfl) ?_
  refine lv_iload_n hx hb dL_minutesLeft_3 rfl (lv_at hl 1 rfl) ?_
  refine kcallWI (kV (n := 1) (As := [.int n1]) (rest := [.int 0, .ref o]) (b := x) (C := RX5) F hE hK hP hD hS hA hM (rr_Pickwave hK hP hx0) kw_595 kw_596 kw_597 kw_2 kw_598 (by decide +kernel) ⟨Nat.le_of_ble_eq_true rfl, Nat.le_of_ble_eq_true rfl⟩ rfl hl.1 rfl (Nat.le_of_ble_eq_true rfl) dL_minutesLeft_4 ⟨Nat.le_of_ble_eq_true rfl, Nat.le_of_ble_eq_true rfl⟩) rfl hD hS hA (fun E ce q9 H1 locs1 hex1 hP1 _ hf1 hS1 hce hcv hcl => ?_) (fun r S1 H1 locs1 hp hP1 hD1 hDA _ hf1 hS1 => ?_)
  · have hO1 := kO_keep hO hdis hf1
    obtain rfl := hex E hex1
    refine vx_catch (name := "java/lang/IndexOutOfBoundsException") F.2.2.2.1 [] ⟨0, 9, 12, 21⟩ [] (ht.trans rfl) (fun z hz => by cases hz) rfl (by decide) (F.2.2.2.2 _ kw_190) (va_any rfl (hE.2.2.2.2.2.2.2.2.2.2.2.2.2.2.2.2 _ (List.mem_of_getElem? (i := 2) rfl))) hce hcv hcl ?_
    refine lv_astore_n (lv' := [(3, .ref q9), (0, .ref x), (1, .int n1), (2, .ref o)]) hx hb dL_minutesLeft_12 rfl hl (by decide) rfl (fun ls hl => ?_)
    refine lv_iconst (v := 1) hx hb dL_minutesLeft_13 (by decide) ?_
    exact kEndW F hr hlk hP1 hO1 hD hDO hdis hS1 (Nat.le_of_ble_eq_true rfl) (Nat.le_of_ble_eq_true rfl) dL_minutesLeft_14 (Or.inr (⟨rfl, hex1, rfl, rfl⟩))
  · have hO1 := kO_keep hO hdis hf1
    have hdis1 := kdis_keep hO hdis hD1
    refine lv_i2l (v := r.toInt64) hx hb dL_minutesLeft_7 rfl ?_
    refine rt2_J F hK hP1 hO1 hDA hDO hdis1 hS1 ho hN dL_minutesLeft_8 (fun H2 locs2 hP2 hO2 hDO2 hS2 => ?_)
    refine lv_goto (tgt := 15) hx hb dL_minutesLeft_9 (by decide) ?_
    refine lv_iconst (v := 0) hx hb dL_minutesLeft_15 (by decide) ?_
    exact kEndW F hr hlk hP2 hO2 hDA hDO2 hdis1 hS2 (Nat.le_of_ble_eq_true rfl) (Nat.le_of_ble_eq_true rfl) dL_minutesLeft_16 (Or.inl ⟨rfl, r, hp, rfl⟩)
theorem dL_minutesOf_0 : decode cL_minutesOf 0 = .ok (.aload_n 2, 1) := by decide +kernel
theorem dL_minutesOf_1 : decode cL_minutesOf 1 = .ok (.iconst 0, 1) := by decide +kernel
theorem dL_minutesOf_2 : decode cL_minutesOf 2 = .ok (.aload_n 0, 1) := by decide +kernel
theorem dL_minutesOf_3 : decode cL_minutesOf 3 = .ok (.iload_n 1, 1) := by decide +kernel
theorem dL_minutesOf_4 : decode cL_minutesOf 4 = .ok (.invokevirtual 91, 3) := by decide +kernel
theorem dL_minutesOf_7 : decode cL_minutesOf 7 = .ok (.i2l, 1) := by decide +kernel
theorem dL_minutesOf_8 : decode cL_minutesOf 8 = .ok (.lastore, 1) := by decide +kernel
theorem dL_minutesOf_9 : decode cL_minutesOf 9 = .ok (.goto 6, 3) := by decide +kernel
theorem dL_minutesOf_12 : decode cL_minutesOf 12 = .ok (.astore_n 3, 1) := by decide +kernel
theorem dL_minutesOf_13 : decode cL_minutesOf 13 = .ok (.iconst 1, 1) := by decide +kernel
theorem dL_minutesOf_14 : decode cL_minutesOf 14 = .ok (.ireturn, 1) := by decide +kernel
theorem dL_minutesOf_15 : decode cL_minutesOf 15 = .ok (.iconst 0, 1) := by decide +kernel
theorem dL_minutesOf_16 : decode cL_minutesOf 16 = .ok (.ireturn, 1) := by decide +kernel
set_option maxHeartbeats 4000000 in
set_option maxRecDepth 100000 in
theorem kw_minutesOf_ (l : Launch) (g : kG) (e0 : Nat) (S O : wPS) (sz x o : Nat) (n1 : Int32) (po : Int32 → wPS → Prop) (Ex : String → Prop) (hx0 : Ob S 5 x) (ho : Ob O 14 o) (hN : pN O o = 1) (hM : kM l g e0 yX5_minutesOf cX5_minutesOf 2 (some .int) 7 103 1 6 [.ref x, .int n1] S sz (pI po) Ex) (hex : ∀ E, Ex E → E = xI) : kMw l g e0 yL_minutesOf cL_minutesOf 4 [(0, 9, 12, 21)] 8 124 1 6 [.ref x, .int n1, .ref o] S O sz (fun r S1 O1 => (r = 0 ∧ ∃ v, po v S1 ∧ O1 = setJ O o v.toInt64) ∨ (r = 1 ∧ Ex xI ∧ S1 = S ∧ O1 = O)) := by
  refine kMw.of (by decide) (Nat.le_of_ble_eq_true rfl) ?_
  intro p e s m below meth c ls B
  obtain ⟨F, hr, hlk, ht, hP, hO, hK, hD, hDO, hdis, hE, hNc, hS, hA, hl, hsz⟩ := B
  subst hsz
  have hx := F.1
  have hb := F.2.1
  have hl : lv_has ls 4 [(0, .ref x), (1, .int n1), (2, .ref o)] := hl
  refine lv_aload_n hx hb dL_minutesOf_0 rfl (lv_at hl 2 rfl) ?_
  refine lv_iconst (v := 0) hx hb dL_minutesOf_1 (by decide) ?_
  refine lv_aload_n hx hb dL_minutesOf_2 rfl (lv_at hl 0 rfl) ?_
  refine lv_iload_n hx hb dL_minutesOf_3 rfl (lv_at hl 1 rfl) ?_
  refine kcallWI (kV (n := 1) (As := [.int n1]) (rest := [.int 0, .ref o]) (b := x) (C := RX5) F hE hK hP hD hS hA hM (rr_Pickwave hK hP hx0) kw_648 kw_649 kw_650 kw_2 kw_651 (by decide +kernel) ⟨Nat.le_of_ble_eq_true rfl, Nat.le_of_ble_eq_true rfl⟩ rfl hl.1 rfl (Nat.le_of_ble_eq_true rfl) dL_minutesOf_4 ⟨Nat.le_of_ble_eq_true rfl, Nat.le_of_ble_eq_true rfl⟩) rfl hD hS hA (fun E ce q9 H1 locs1 hex1 hP1 _ hf1 hS1 hce hcv hcl => ?_) (fun r S1 H1 locs1 hp hP1 hD1 hDA _ hf1 hS1 => ?_)
  · have hO1 := kO_keep hO hdis hf1
    obtain rfl := hex E hex1
    refine vx_catch (name := "java/lang/IndexOutOfBoundsException") F.2.2.2.1 [] ⟨0, 9, 12, 21⟩ [] (ht.trans rfl) (fun z hz => by cases hz) rfl (by decide) (F.2.2.2.2 _ kw_190) (va_any rfl (hE.2.2.2.2.2.2.2.2.2.2.2.2.2.2.2.2 _ (List.mem_of_getElem? (i := 2) rfl))) hce hcv hcl ?_
    refine lv_astore_n (lv' := [(3, .ref q9), (0, .ref x), (1, .int n1), (2, .ref o)]) hx hb dL_minutesOf_12 rfl hl (by decide) rfl (fun ls hl => ?_)
    refine lv_iconst (v := 1) hx hb dL_minutesOf_13 (by decide) ?_
    exact kEndW F hr hlk hP1 hO1 hD hDO hdis hS1 (Nat.le_of_ble_eq_true rfl) (Nat.le_of_ble_eq_true rfl) dL_minutesOf_14 (Or.inr (⟨rfl, hex1, rfl, rfl⟩))
  · have hO1 := kO_keep hO hdis hf1
    have hdis1 := kdis_keep hO hdis hD1
    refine lv_i2l (v := r.toInt64) hx hb dL_minutesOf_7 rfl ?_
    refine rt2_J F hK hP1 hO1 hDA hDO hdis1 hS1 ho hN dL_minutesOf_8 (fun H2 locs2 hP2 hO2 hDO2 hS2 => ?_)
    refine lv_goto (tgt := 15) hx hb dL_minutesOf_9 (by decide) ?_
    refine lv_iconst (v := 0) hx hb dL_minutesOf_15 (by decide) ?_
    exact kEndW F hr hlk hP2 hO2 hDA hDO2 hdis1 hS2 (Nat.le_of_ble_eq_true rfl) (Nat.le_of_ble_eq_true rfl) dL_minutesOf_16 (Or.inl ⟨rfl, r, hp, rfl⟩)
theorem dL_order_0 : decode cL_order 0 = .ok (.aload 4, 2) := by decide +kernel
theorem dL_order_2 : decode cL_order 2 = .ok (.iconst 0, 1) := by decide +kernel
theorem dL_order_3 : decode cL_order 3 = .ok (.aload_n 0, 1) := by decide +kernel
theorem dL_order_4 : decode cL_order 4 = .ok (.iload_n 1, 1) := by decide +kernel
theorem dL_order_5 : decode cL_order 5 = .ok (.iload_n 2, 1) := by decide +kernel
theorem dL_order_6 : decode cL_order 6 = .ok (.iload_n 3, 1) := by decide +kernel
theorem dL_order_7 : decode cL_order 7 = .ok (.invokevirtual 47, 3) := by decide +kernel
theorem dL_order_10 : decode cL_order 10 = .ok (.i2l, 1) := by decide +kernel
theorem dL_order_11 : decode cL_order 11 = .ok (.lastore, 1) := by decide +kernel
theorem dL_order_12 : decode cL_order 12 = .ok (.goto 15, 3) := by decide +kernel
theorem dL_order_15 : decode cL_order 15 = .ok (.astore 5, 2) := by decide +kernel
theorem dL_order_17 : decode cL_order 17 = .ok (.iconst 1, 1) := by decide +kernel
theorem dL_order_18 : decode cL_order 18 = .ok (.ireturn, 1) := by decide +kernel
theorem dL_order_19 : decode cL_order 19 = .ok (.astore 5, 2) := by decide +kernel
theorem dL_order_21 : decode cL_order 21 = .ok (.iconst 2, 1) := by decide +kernel
theorem dL_order_22 : decode cL_order 22 = .ok (.ireturn, 1) := by decide +kernel
theorem dL_order_23 : decode cL_order 23 = .ok (.astore 5, 2) := by decide +kernel
theorem dL_order_25 : decode cL_order 25 = .ok (.iconst 3, 1) := by decide +kernel
theorem dL_order_26 : decode cL_order 26 = .ok (.ireturn, 1) := by decide +kernel
theorem dL_order_27 : decode cL_order 27 = .ok (.iconst 0, 1) := by decide +kernel
theorem dL_order_28 : decode cL_order 28 = .ok (.ireturn, 1) := by decide +kernel
set_option maxHeartbeats 4000000 in
set_option maxRecDepth 100000 in
theorem kw_order_ (l : Launch) (g : kG) (e0 : Nat) (S O : wPS) (sz x o : Nat) (n1 n2 n3 : Int32) (po : Int32 → wPS → Prop) (Ex : String → Prop) (hx0 : Ob S 5 x) (ho : Ob O 14 o) (hN : pN O o = 1) (hM : kM l g e0 yX5_order cX5_order 5 (some .int) 8 179 3 27 [.ref x, .int n1, .int n2, .int n3] S sz (pI po) Ex) (hex : ∀ E, Ex E → E = xI ∨ E = xA ∨ E = xS) : kMw l g e0 yL_order cL_order 6 [(0, 12, 15, 21), (0, 12, 19, 13), (0, 12, 23, 15)] 9 203 3 27 [.ref x, .int n1, .int n2, .int n3, .ref o] S O sz (fun r S1 O1 => (r = 0 ∧ ∃ v, po v S1 ∧ O1 = setJ O o v.toInt64) ∨ (r = 1 ∧ Ex xI ∧ S1 = S ∧ O1 = O) ∨ (r = 2 ∧ Ex xA ∧ S1 = S ∧ O1 = O) ∨ (r = 3 ∧ Ex xS ∧ S1 = S ∧ O1 = O)) := by
  refine kMw.of (by decide) (Nat.le_of_ble_eq_true rfl) ?_
  intro p e s m below meth c ls B
  obtain ⟨F, hr, hlk, ht, hP, hO, hK, hD, hDO, hdis, hE, hNc, hS, hA, hl, hsz⟩ := B
  subst hsz
  have hx := F.1
  have hb := F.2.1
  have hl : lv_has ls 6 [(0, .ref x), (1, .int n1), (2, .int n2), (3, .int n3), (4, .ref o)] := hl
  refine lv_aload hx hb dL_order_0 (lv_at hl 4 rfl) ?_
  refine lv_iconst (v := 0) hx hb dL_order_2 (by decide) ?_
  refine lv_aload_n hx hb dL_order_3 rfl (lv_at hl 0 rfl) ?_
  refine lv_iload_n hx hb dL_order_4 rfl (lv_at hl 1 rfl) ?_
  refine lv_iload_n hx hb dL_order_5 rfl (lv_at hl 2 rfl) ?_
  refine lv_iload_n hx hb dL_order_6 rfl (lv_at hl 3 rfl) ?_
  refine kcallWI (kV (n := 3) (As := [.int n1, .int n2, .int n3]) (rest := [.int 0, .ref o]) (b := x) (C := RX5) F hE hK hP hD hS hA hM (rr_Pickwave hK hP hx0) kw_399 kw_400 kw_401 kw_2 kw_402 (by decide +kernel) ⟨Nat.le_of_ble_eq_true rfl, Nat.le_of_ble_eq_true rfl⟩ rfl hl.1 rfl (Nat.le_of_ble_eq_true rfl) dL_order_7 ⟨Nat.le_of_ble_eq_true rfl, Nat.le_of_ble_eq_true rfl⟩) rfl hD hS hA (fun E ce q9 H1 locs1 hex1 hP1 _ hf1 hS1 hce hcv hcl => ?_) (fun r S1 H1 locs1 hp hP1 hD1 hDA _ hf1 hS1 => ?_)
  · have hO1 := kO_keep hO hdis hf1
    rcases hex E hex1 with rfl | rfl | rfl
    · refine vx_catch (name := "java/lang/IndexOutOfBoundsException") F.2.2.2.1 [] ⟨0, 12, 15, 21⟩ [⟨0, 12, 19, 13⟩, ⟨0, 12, 23, 15⟩] (ht.trans rfl) (fun z hz => by cases hz) rfl (by decide) (F.2.2.2.2 _ kw_190) (va_any rfl (hE.2.2.2.2.2.2.2.2.2.2.2.2.2.2.2.2 _ (List.mem_of_getElem? (i := 2) rfl))) hce hcv hcl ?_
      refine lv_astore (lv' := [(5, .ref q9), (0, .ref x), (1, .int n1), (2, .int n2), (3, .int n3), (4, .ref o)]) hx hb dL_order_15 hl (by decide) rfl (fun ls hl => ?_)
      refine lv_iconst (v := 1) hx hb dL_order_17 (by decide) ?_
      exact kEndW F hr hlk hP1 hO1 hD hDO hdis hS1 (Nat.le_of_ble_eq_true rfl) (Nat.le_of_ble_eq_true rfl) dL_order_18 (Or.inr (Or.inl ⟨rfl, hex1, rfl, rfl⟩))
    · refine vx_catch (name := "java/lang/IllegalArgumentException") F.2.2.2.1 [⟨0, 12, 15, 21⟩] ⟨0, 12, 19, 13⟩ [⟨0, 12, 23, 15⟩] (ht.trans rfl) (fun z hz => by rcases List.mem_cons.mp hz with rfl | hz; exact Or.inr ⟨by decide, "java/lang/IndexOutOfBoundsException", F.2.2.2.2 _ kw_190, hNc _ (List.mem_of_getElem? (i := 0) rfl)⟩; exact absurd hz List.not_mem_nil) rfl (by decide) (F.2.2.2.2 _ kw_89) (va_any rfl (hE.2.2.2.2.2.2.2.2.2.2.2.2.2.2.2.2 _ (List.mem_of_getElem? (i := 0) rfl))) hce hcv hcl ?_
      refine lv_astore (lv' := [(5, .ref q9), (0, .ref x), (1, .int n1), (2, .int n2), (3, .int n3), (4, .ref o)]) hx hb dL_order_19 hl (by decide) rfl (fun ls hl => ?_)
      refine lv_iconst (v := 2) hx hb dL_order_21 (by decide) ?_
      exact kEndW F hr hlk hP1 hO1 hD hDO hdis hS1 (Nat.le_of_ble_eq_true rfl) (Nat.le_of_ble_eq_true rfl) dL_order_22 (Or.inr (Or.inr (Or.inl ⟨rfl, hex1, rfl, rfl⟩)))
    · refine vx_catch (name := "java/lang/IllegalStateException") F.2.2.2.1 [⟨0, 12, 15, 21⟩, ⟨0, 12, 19, 13⟩] ⟨0, 12, 23, 15⟩ [] (ht.trans rfl) (fun z hz => by rcases List.mem_cons.mp hz with rfl | hz; exact Or.inr ⟨by decide, "java/lang/IndexOutOfBoundsException", F.2.2.2.2 _ kw_190, hNc _ (List.mem_of_getElem? (i := 1) rfl)⟩; rcases List.mem_cons.mp hz with rfl | hz; exact Or.inr ⟨by decide, "java/lang/IllegalArgumentException", F.2.2.2.2 _ kw_89, hNc _ (List.mem_of_getElem? (i := 2) rfl)⟩; exact absurd hz List.not_mem_nil) rfl (by decide) (F.2.2.2.2 _ kw_90) (va_any rfl (hE.2.2.2.2.2.2.2.2.2.2.2.2.2.2.2.2 _ (List.mem_of_getElem? (i := 1) rfl))) hce hcv hcl ?_
      refine lv_astore (lv' := [(5, .ref q9), (0, .ref x), (1, .int n1), (2, .int n2), (3, .int n3), (4, .ref o)]) hx hb dL_order_23 hl (by decide) rfl (fun ls hl => ?_)
      refine lv_iconst (v := 3) hx hb dL_order_25 (by decide) ?_
      exact kEndW F hr hlk hP1 hO1 hD hDO hdis hS1 (Nat.le_of_ble_eq_true rfl) (Nat.le_of_ble_eq_true rfl) dL_order_26 (Or.inr (Or.inr (Or.inr (⟨rfl, hex1, rfl, rfl⟩))))
  · have hO1 := kO_keep hO hdis hf1
    have hdis1 := kdis_keep hO hdis hD1
    refine lv_i2l (v := r.toInt64) hx hb dL_order_10 rfl ?_
    refine rt2_J F hK hP1 hO1 hDA hDO hdis1 hS1 ho hN dL_order_11 (fun H2 locs2 hP2 hO2 hDO2 hS2 => ?_)
    refine lv_goto (tgt := 27) hx hb dL_order_12 (by decide) ?_
    refine lv_iconst (v := 0) hx hb dL_order_27 (by decide) ?_
    exact kEndW F hr hlk hP2 hO2 hDA hDO2 hdis1 hS2 (Nat.le_of_ble_eq_true rfl) (Nat.le_of_ble_eq_true rfl) dL_order_28 (Or.inl ⟨rfl, r, hp, rfl⟩)
theorem dL_pass_0 : decode cL_pass 0 = .ok (.aload_n 2, 1) := by decide +kernel
theorem dL_pass_1 : decode cL_pass 1 = .ok (.iconst 0, 1) := by decide +kernel
theorem dL_pass_2 : decode cL_pass 2 = .ok (.aload_n 0, 1) := by decide +kernel
theorem dL_pass_3 : decode cL_pass 3 = .ok (.iload_n 1, 1) := by decide +kernel
theorem dL_pass_4 : decode cL_pass 4 = .ok (.invokevirtual 97, 3) := by decide +kernel
theorem dL_pass_7 : decode cL_pass 7 = .ok (.i2l, 1) := by decide +kernel
theorem dL_pass_8 : decode cL_pass 8 = .ok (.lastore, 1) := by decide +kernel
theorem dL_pass_9 : decode cL_pass 9 = .ok (.goto 6, 3) := by decide +kernel
theorem dL_pass_12 : decode cL_pass 12 = .ok (.astore_n 3, 1) := by decide +kernel
theorem dL_pass_13 : decode cL_pass 13 = .ok (.iconst 1, 1) := by decide +kernel
theorem dL_pass_14 : decode cL_pass 14 = .ok (.ireturn, 1) := by decide +kernel
theorem dL_pass_15 : decode cL_pass 15 = .ok (.iconst 0, 1) := by decide +kernel
theorem dL_pass_16 : decode cL_pass 16 = .ok (.ireturn, 1) := by decide +kernel
set_option maxHeartbeats 4000000 in
set_option maxRecDepth 100000 in
theorem kw_pass_ (l : Launch) (g : kG) (e0 : Nat) (S O : wPS) (sz x o : Nat) (n1 : Int32) (po : Int32 → wPS → Prop) (Ex : String → Prop) (hx0 : Ob S 5 x) (ho : Ob O 14 o) (hN : pN O o = 1) (hM : kM l g e0 yX5_pass cX5_pass 5 (some .int) 6 82 1 6 [.ref x, .int n1] S sz (pI po) Ex) (hex : ∀ E, Ex E → E = xA) : kMw l g e0 yL_pass cL_pass 4 [(0, 9, 12, 13)] 7 106 1 6 [.ref x, .int n1, .ref o] S O sz (fun r S1 O1 => (r = 0 ∧ ∃ v, po v S1 ∧ O1 = setJ O o v.toInt64) ∨ (r = 1 ∧ Ex xA ∧ S1 = S ∧ O1 = O)) := by
  refine kMw.of (by decide) (Nat.le_of_ble_eq_true rfl) ?_
  intro p e s m below meth c ls B
  obtain ⟨F, hr, hlk, ht, hP, hO, hK, hD, hDO, hdis, hE, hNc, hS, hA, hl, hsz⟩ := B
  subst hsz
  have hx := F.1
  have hb := F.2.1
  have hl : lv_has ls 4 [(0, .ref x), (1, .int n1), (2, .ref o)] := hl
  refine lv_aload_n hx hb dL_pass_0 rfl (lv_at hl 2 rfl) ?_
  refine lv_iconst (v := 0) hx hb dL_pass_1 (by decide) ?_
  refine lv_aload_n hx hb dL_pass_2 rfl (lv_at hl 0 rfl) ?_
  refine lv_iload_n hx hb dL_pass_3 rfl (lv_at hl 1 rfl) ?_
  refine kcallWI (kV (n := 1) (As := [.int n1]) (rest := [.int 0, .ref o]) (b := x) (C := RX5) F hE hK hP hD hS hA hM (rr_Pickwave hK hP hx0) kw_671 kw_672 kw_673 kw_2 kw_674 (by decide +kernel) ⟨Nat.le_of_ble_eq_true rfl, Nat.le_of_ble_eq_true rfl⟩ rfl hl.1 rfl (Nat.le_of_ble_eq_true rfl) dL_pass_4 ⟨Nat.le_of_ble_eq_true rfl, Nat.le_of_ble_eq_true rfl⟩) rfl hD hS hA (fun E ce q9 H1 locs1 hex1 hP1 _ hf1 hS1 hce hcv hcl => ?_) (fun r S1 H1 locs1 hp hP1 hD1 hDA _ hf1 hS1 => ?_)
  · have hO1 := kO_keep hO hdis hf1
    obtain rfl := hex E hex1
    refine vx_catch (name := "java/lang/IllegalArgumentException") F.2.2.2.1 [] ⟨0, 9, 12, 13⟩ [] (ht.trans rfl) (fun z hz => by cases hz) rfl (by decide) (F.2.2.2.2 _ kw_89) (va_any rfl (hE.2.2.2.2.2.2.2.2.2.2.2.2.2.2.2.2 _ (List.mem_of_getElem? (i := 0) rfl))) hce hcv hcl ?_
    refine lv_astore_n (lv' := [(3, .ref q9), (0, .ref x), (1, .int n1), (2, .ref o)]) hx hb dL_pass_12 rfl hl (by decide) rfl (fun ls hl => ?_)
    refine lv_iconst (v := 1) hx hb dL_pass_13 (by decide) ?_
    exact kEndW F hr hlk hP1 hO1 hD hDO hdis hS1 (Nat.le_of_ble_eq_true rfl) (Nat.le_of_ble_eq_true rfl) dL_pass_14 (Or.inr (⟨rfl, hex1, rfl, rfl⟩))
  · have hO1 := kO_keep hO hdis hf1
    have hdis1 := kdis_keep hO hdis hD1
    refine lv_i2l (v := r.toInt64) hx hb dL_pass_7 rfl ?_
    refine rt2_J F hK hP1 hO1 hDA hDO hdis1 hS1 ho hN dL_pass_8 (fun H2 locs2 hP2 hO2 hDO2 hS2 => ?_)
    refine lv_goto (tgt := 15) hx hb dL_pass_9 (by decide) ?_
    refine lv_iconst (v := 0) hx hb dL_pass_15 (by decide) ?_
    exact kEndW F hr hlk hP2 hO2 hDA hDO2 hdis1 hS2 (Nat.le_of_ble_eq_true rfl) (Nat.le_of_ble_eq_true rfl) dL_pass_16 (Or.inl ⟨rfl, r, hp, rfl⟩)
theorem dL_pick_0 : decode cL_pick 0 = .ok (.aload_n 3, 1) := by decide +kernel
theorem dL_pick_1 : decode cL_pick 1 = .ok (.iconst 0, 1) := by decide +kernel
theorem dL_pick_2 : decode cL_pick 2 = .ok (.aload_n 0, 1) := by decide +kernel
theorem dL_pick_3 : decode cL_pick 3 = .ok (.iload_n 1, 1) := by decide +kernel
theorem dL_pick_4 : decode cL_pick 4 = .ok (.iload_n 2, 1) := by decide +kernel
theorem dL_pick_5 : decode cL_pick 5 = .ok (.invokevirtual 63, 3) := by decide +kernel
theorem dL_pick_8 : decode cL_pick 8 = .ok (.i2l, 1) := by decide +kernel
theorem dL_pick_9 : decode cL_pick 9 = .ok (.lastore, 1) := by decide +kernel
theorem dL_pick_10 : decode cL_pick 10 = .ok (.goto 19, 3) := by decide +kernel
theorem dL_pick_13 : decode cL_pick 13 = .ok (.astore 4, 2) := by decide +kernel
theorem dL_pick_15 : decode cL_pick 15 = .ok (.iconst 1, 1) := by decide +kernel
theorem dL_pick_16 : decode cL_pick 16 = .ok (.ireturn, 1) := by decide +kernel
theorem dL_pick_17 : decode cL_pick 17 = .ok (.astore 4, 2) := by decide +kernel
theorem dL_pick_19 : decode cL_pick 19 = .ok (.iconst 2, 1) := by decide +kernel
theorem dL_pick_20 : decode cL_pick 20 = .ok (.ireturn, 1) := by decide +kernel
theorem dL_pick_21 : decode cL_pick 21 = .ok (.astore 4, 2) := by decide +kernel
theorem dL_pick_23 : decode cL_pick 23 = .ok (.iconst 3, 1) := by decide +kernel
theorem dL_pick_24 : decode cL_pick 24 = .ok (.ireturn, 1) := by decide +kernel
theorem dL_pick_25 : decode cL_pick 25 = .ok (.astore 4, 2) := by decide +kernel
theorem dL_pick_27 : decode cL_pick 27 = .ok (.iconst 4, 1) := by decide +kernel
theorem dL_pick_28 : decode cL_pick 28 = .ok (.ireturn, 1) := by decide +kernel
theorem dL_pick_29 : decode cL_pick 29 = .ok (.iconst 0, 1) := by decide +kernel
theorem dL_pick_30 : decode cL_pick 30 = .ok (.ireturn, 1) := by decide +kernel
set_option maxHeartbeats 4000000 in
set_option maxRecDepth 100000 in
theorem kw_pick_ (l : Launch) (g : kG) (e0 : Nat) (S O : wPS) (sz x o : Nat) (n1 n2 : Int32) (po : Int32 → wPS → Prop) (Ex : String → Prop) (hx0 : Ob S 5 x) (ho : Ob O 14 o) (hN : pN O o = 1) (hM : kM l g e0 yX5_pick cX5_pick 4 (some .int) 9 203 3 27 [.ref x, .int n1, .int n2] S sz (pI po) Ex) (hex : ∀ E, Ex E → E = xI ∨ E = xA ∨ E = xU ∨ E = xS) : kMw l g e0 yL_pick cL_pick 5 [(0, 10, 13, 21), (0, 10, 17, 13), (0, 10, 21, 66), (0, 10, 25, 15)] 10 226 3 27 [.ref x, .int n1, .int n2, .ref o] S O sz (fun r S1 O1 => (r = 0 ∧ ∃ v, po v S1 ∧ O1 = setJ O o v.toInt64) ∨ (r = 1 ∧ Ex xI ∧ S1 = S ∧ O1 = O) ∨ (r = 2 ∧ Ex xA ∧ S1 = S ∧ O1 = O) ∨ (r = 3 ∧ Ex xU ∧ S1 = S ∧ O1 = O) ∨ (r = 4 ∧ Ex xS ∧ S1 = S ∧ O1 = O)) := by
  refine kMw.of (by decide) (Nat.le_of_ble_eq_true rfl) ?_
  intro p e s m below meth c ls B
  obtain ⟨F, hr, hlk, ht, hP, hO, hK, hD, hDO, hdis, hE, hNc, hS, hA, hl, hsz⟩ := B
  subst hsz
  have hx := F.1
  have hb := F.2.1
  have hl : lv_has ls 5 [(0, .ref x), (1, .int n1), (2, .int n2), (3, .ref o)] := hl
  refine lv_aload_n hx hb dL_pick_0 rfl (lv_at hl 3 rfl) ?_
  refine lv_iconst (v := 0) hx hb dL_pick_1 (by decide) ?_
  refine lv_aload_n hx hb dL_pick_2 rfl (lv_at hl 0 rfl) ?_
  refine lv_iload_n hx hb dL_pick_3 rfl (lv_at hl 1 rfl) ?_
  refine lv_iload_n hx hb dL_pick_4 rfl (lv_at hl 2 rfl) ?_
  refine kcallWI (kV (n := 2) (As := [.int n1, .int n2]) (rest := [.int 0, .ref o]) (b := x) (C := RX5) F hE hK hP hD hS hA hM (rr_Pickwave hK hP hx0) kw_497 kw_498 kw_499 kw_2 kw_500 (by decide +kernel) ⟨Nat.le_of_ble_eq_true rfl, Nat.le_of_ble_eq_true rfl⟩ rfl hl.1 rfl (Nat.le_of_ble_eq_true rfl) dL_pick_5 ⟨Nat.le_of_ble_eq_true rfl, Nat.le_of_ble_eq_true rfl⟩) rfl hD hS hA (fun E ce q9 H1 locs1 hex1 hP1 _ hf1 hS1 hce hcv hcl => ?_) (fun r S1 H1 locs1 hp hP1 hD1 hDA _ hf1 hS1 => ?_)
  · have hO1 := kO_keep hO hdis hf1
    rcases hex E hex1 with rfl | rfl | rfl | rfl
    · refine vx_catch (name := "java/lang/IndexOutOfBoundsException") F.2.2.2.1 [] ⟨0, 10, 13, 21⟩ [⟨0, 10, 17, 13⟩, ⟨0, 10, 21, 66⟩, ⟨0, 10, 25, 15⟩] (ht.trans rfl) (fun z hz => by cases hz) rfl (by decide) (F.2.2.2.2 _ kw_190) (va_any rfl (hE.2.2.2.2.2.2.2.2.2.2.2.2.2.2.2.2 _ (List.mem_of_getElem? (i := 2) rfl))) hce hcv hcl ?_
      refine lv_astore (lv' := [(4, .ref q9), (0, .ref x), (1, .int n1), (2, .int n2), (3, .ref o)]) hx hb dL_pick_13 hl (by decide) rfl (fun ls hl => ?_)
      refine lv_iconst (v := 1) hx hb dL_pick_15 (by decide) ?_
      exact kEndW F hr hlk hP1 hO1 hD hDO hdis hS1 (Nat.le_of_ble_eq_true rfl) (Nat.le_of_ble_eq_true rfl) dL_pick_16 (Or.inr (Or.inl ⟨rfl, hex1, rfl, rfl⟩))
    · refine vx_catch (name := "java/lang/IllegalArgumentException") F.2.2.2.1 [⟨0, 10, 13, 21⟩] ⟨0, 10, 17, 13⟩ [⟨0, 10, 21, 66⟩, ⟨0, 10, 25, 15⟩] (ht.trans rfl) (fun z hz => by rcases List.mem_cons.mp hz with rfl | hz; exact Or.inr ⟨by decide, "java/lang/IndexOutOfBoundsException", F.2.2.2.2 _ kw_190, hNc _ (List.mem_of_getElem? (i := 0) rfl)⟩; exact absurd hz List.not_mem_nil) rfl (by decide) (F.2.2.2.2 _ kw_89) (va_any rfl (hE.2.2.2.2.2.2.2.2.2.2.2.2.2.2.2.2 _ (List.mem_of_getElem? (i := 0) rfl))) hce hcv hcl ?_
      refine lv_astore (lv' := [(4, .ref q9), (0, .ref x), (1, .int n1), (2, .int n2), (3, .ref o)]) hx hb dL_pick_17 hl (by decide) rfl (fun ls hl => ?_)
      refine lv_iconst (v := 2) hx hb dL_pick_19 (by decide) ?_
      exact kEndW F hr hlk hP1 hO1 hD hDO hdis hS1 (Nat.le_of_ble_eq_true rfl) (Nat.le_of_ble_eq_true rfl) dL_pick_20 (Or.inr (Or.inr (Or.inl ⟨rfl, hex1, rfl, rfl⟩)))
    · refine vx_catch (name := "java/lang/UnsupportedOperationException") F.2.2.2.1 [⟨0, 10, 13, 21⟩, ⟨0, 10, 17, 13⟩] ⟨0, 10, 21, 66⟩ [⟨0, 10, 25, 15⟩] (ht.trans rfl) (fun z hz => by rcases List.mem_cons.mp hz with rfl | hz; exact Or.inr ⟨by decide, "java/lang/IndexOutOfBoundsException", F.2.2.2.2 _ kw_190, hNc _ (List.mem_of_getElem? (i := 3) rfl)⟩; rcases List.mem_cons.mp hz with rfl | hz; exact Or.inr ⟨by decide, "java/lang/IllegalArgumentException", F.2.2.2.2 _ kw_89, hNc _ (List.mem_of_getElem? (i := 4) rfl)⟩; exact absurd hz List.not_mem_nil) rfl (by decide) (F.2.2.2.2 _ kw_496) (va_any rfl (hE.2.2.2.2.2.2.2.2.2.2.2.2.2.2.2.2 _ (List.mem_of_getElem? (i := 3) rfl))) hce hcv hcl ?_
      refine lv_astore (lv' := [(4, .ref q9), (0, .ref x), (1, .int n1), (2, .int n2), (3, .ref o)]) hx hb dL_pick_21 hl (by decide) rfl (fun ls hl => ?_)
      refine lv_iconst (v := 3) hx hb dL_pick_23 (by decide) ?_
      exact kEndW F hr hlk hP1 hO1 hD hDO hdis hS1 (Nat.le_of_ble_eq_true rfl) (Nat.le_of_ble_eq_true rfl) dL_pick_24 (Or.inr (Or.inr (Or.inr (Or.inl ⟨rfl, hex1, rfl, rfl⟩))))
    · refine vx_catch (name := "java/lang/IllegalStateException") F.2.2.2.1 [⟨0, 10, 13, 21⟩, ⟨0, 10, 17, 13⟩, ⟨0, 10, 21, 66⟩] ⟨0, 10, 25, 15⟩ [] (ht.trans rfl) (fun z hz => by rcases List.mem_cons.mp hz with rfl | hz; exact Or.inr ⟨by decide, "java/lang/IndexOutOfBoundsException", F.2.2.2.2 _ kw_190, hNc _ (List.mem_of_getElem? (i := 1) rfl)⟩; rcases List.mem_cons.mp hz with rfl | hz; exact Or.inr ⟨by decide, "java/lang/IllegalArgumentException", F.2.2.2.2 _ kw_89, hNc _ (List.mem_of_getElem? (i := 2) rfl)⟩; rcases List.mem_cons.mp hz with rfl | hz; exact Or.inr ⟨by decide, "java/lang/UnsupportedOperationException", F.2.2.2.2 _ kw_496, hNc _ (List.mem_of_getElem? (i := 5) rfl)⟩; exact absurd hz List.not_mem_nil) rfl (by decide) (F.2.2.2.2 _ kw_90) (va_any rfl (hE.2.2.2.2.2.2.2.2.2.2.2.2.2.2.2.2 _ (List.mem_of_getElem? (i := 1) rfl))) hce hcv hcl ?_
      refine lv_astore (lv' := [(4, .ref q9), (0, .ref x), (1, .int n1), (2, .int n2), (3, .ref o)]) hx hb dL_pick_25 hl (by decide) rfl (fun ls hl => ?_)
      refine lv_iconst (v := 4) hx hb dL_pick_27 (by decide) ?_
      exact kEndW F hr hlk hP1 hO1 hD hDO hdis hS1 (Nat.le_of_ble_eq_true rfl) (Nat.le_of_ble_eq_true rfl) dL_pick_28 (Or.inr (Or.inr (Or.inr (Or.inr (⟨rfl, hex1, rfl, rfl⟩)))))
  · have hO1 := kO_keep hO hdis hf1
    have hdis1 := kdis_keep hO hdis hD1
    refine lv_i2l (v := r.toInt64) hx hb dL_pick_8 rfl ?_
    refine rt2_J F hK hP1 hO1 hDA hDO hdis1 hS1 ho hN dL_pick_9 (fun H2 locs2 hP2 hO2 hDO2 hS2 => ?_)
    refine lv_goto (tgt := 29) hx hb dL_pick_10 (by decide) ?_
    refine lv_iconst (v := 0) hx hb dL_pick_29 (by decide) ?_
    exact kEndW F hr hlk hP2 hO2 hDA hDO2 hdis1 hS2 (Nat.le_of_ble_eq_true rfl) (Nat.le_of_ble_eq_true rfl) dL_pick_30 (Or.inl ⟨rfl, r, hp, rfl⟩)
theorem dL_promised_0 : decode cL_promised 0 = .ok (.aload_n 2, 1) := by decide +kernel
theorem dL_promised_1 : decode cL_promised 1 = .ok (.iconst 0, 1) := by decide +kernel
theorem dL_promised_2 : decode cL_promised 2 = .ok (.aload_n 0, 1) := by decide +kernel
theorem dL_promised_3 : decode cL_promised 3 = .ok (.iload_n 1, 1) := by decide +kernel
theorem dL_promised_4 : decode cL_promised 4 = .ok (.invokevirtual 29, 3) := by decide +kernel
theorem dL_promised_7 : decode cL_promised 7 = .ok (.i2l, 1) := by decide +kernel
theorem dL_promised_8 : decode cL_promised 8 = .ok (.lastore, 1) := by decide +kernel
theorem dL_promised_9 : decode cL_promised 9 = .ok (.goto 6, 3) := by decide +kernel
theorem dL_promised_12 : decode cL_promised 12 = .ok (.astore_n 3, 1) := by decide +kernel
theorem dL_promised_13 : decode cL_promised 13 = .ok (.iconst 1, 1) := by decide +kernel
theorem dL_promised_14 : decode cL_promised 14 = .ok (.ireturn, 1) := by decide +kernel
theorem dL_promised_15 : decode cL_promised 15 = .ok (.iconst 0, 1) := by decide +kernel
theorem dL_promised_16 : decode cL_promised 16 = .ok (.ireturn, 1) := by decide +kernel
set_option maxHeartbeats 4000000 in
set_option maxRecDepth 100000 in
theorem kw_promised_ (l : Launch) (g : kG) (e0 : Nat) (S O : wPS) (sz x o : Nat) (n1 : Int32) (po : Int32 → wPS → Prop) (Ex : String → Prop) (hx0 : Ob S 5 x) (ho : Ob O 14 o) (hN : pN O o = 1) (hM : kM l g e0 yX5_promised cX5_promised 2 (some .int) 7 103 1 6 [.ref x, .int n1] S sz (pI po) Ex) (hex : ∀ E, Ex E → E = xI) : kMw l g e0 yL_promised cL_promised 4 [(0, 9, 12, 21)] 8 124 1 6 [.ref x, .int n1, .ref o] S O sz (fun r S1 O1 => (r = 0 ∧ ∃ v, po v S1 ∧ O1 = setJ O o v.toInt64) ∨ (r = 1 ∧ Ex xI ∧ S1 = S ∧ O1 = O)) := by
  refine kMw.of (by decide) (Nat.le_of_ble_eq_true rfl) ?_
  intro p e s m below meth c ls B
  obtain ⟨F, hr, hlk, ht, hP, hO, hK, hD, hDO, hdis, hE, hNc, hS, hA, hl, hsz⟩ := B
  subst hsz
  have hx := F.1
  have hb := F.2.1
  have hl : lv_has ls 4 [(0, .ref x), (1, .int n1), (2, .ref o)] := hl
  refine lv_aload_n hx hb dL_promised_0 rfl (lv_at hl 2 rfl) ?_
  refine lv_iconst (v := 0) hx hb dL_promised_1 (by decide) ?_
  refine lv_aload_n hx hb dL_promised_2 rfl (lv_at hl 0 rfl) ?_
  refine lv_iload_n hx hb dL_promised_3 rfl (lv_at hl 1 rfl) ?_
  refine kcallWI (kV (n := 1) (As := [.int n1]) (rest := [.int 0, .ref o]) (b := x) (C := RX5) F hE hK hP hD hS hA hM (rr_Pickwave hK hP hx0) kw_267 kw_268 kw_269 kw_2 kw_270 (by decide +kernel) ⟨Nat.le_of_ble_eq_true rfl, Nat.le_of_ble_eq_true rfl⟩ rfl hl.1 rfl (Nat.le_of_ble_eq_true rfl) dL_promised_4 ⟨Nat.le_of_ble_eq_true rfl, Nat.le_of_ble_eq_true rfl⟩) rfl hD hS hA (fun E ce q9 H1 locs1 hex1 hP1 _ hf1 hS1 hce hcv hcl => ?_) (fun r S1 H1 locs1 hp hP1 hD1 hDA _ hf1 hS1 => ?_)
  · have hO1 := kO_keep hO hdis hf1
    obtain rfl := hex E hex1
    refine vx_catch (name := "java/lang/IndexOutOfBoundsException") F.2.2.2.1 [] ⟨0, 9, 12, 21⟩ [] (ht.trans rfl) (fun z hz => by cases hz) rfl (by decide) (F.2.2.2.2 _ kw_190) (va_any rfl (hE.2.2.2.2.2.2.2.2.2.2.2.2.2.2.2.2 _ (List.mem_of_getElem? (i := 2) rfl))) hce hcv hcl ?_
    refine lv_astore_n (lv' := [(3, .ref q9), (0, .ref x), (1, .int n1), (2, .ref o)]) hx hb dL_promised_12 rfl hl (by decide) rfl (fun ls hl => ?_)
    refine lv_iconst (v := 1) hx hb dL_promised_13 (by decide) ?_
    exact kEndW F hr hlk hP1 hO1 hD hDO hdis hS1 (Nat.le_of_ble_eq_true rfl) (Nat.le_of_ble_eq_true rfl) dL_promised_14 (Or.inr (⟨rfl, hex1, rfl, rfl⟩))
  · have hO1 := kO_keep hO hdis hf1
    have hdis1 := kdis_keep hO hdis hD1
    refine lv_i2l (v := r.toInt64) hx hb dL_promised_7 rfl ?_
    refine rt2_J F hK hP1 hO1 hDA hDO hdis1 hS1 ho hN dL_promised_8 (fun H2 locs2 hP2 hO2 hDO2 hS2 => ?_)
    refine lv_goto (tgt := 15) hx hb dL_promised_9 (by decide) ?_
    refine lv_iconst (v := 0) hx hb dL_promised_15 (by decide) ?_
    exact kEndW F hr hlk hP2 hO2 hDA hDO2 hdis1 hS2 (Nat.le_of_ble_eq_true rfl) (Nat.le_of_ble_eq_true rfl) dL_promised_16 (Or.inl ⟨rfl, r, hp, rfl⟩)
theorem dL_promisedByScans_0 : decode cL_promisedByScans 0 = .ok (.aload_n 2, 1) := by decide +kernel
theorem dL_promisedByScans_1 : decode cL_promisedByScans 1 = .ok (.iconst 0, 1) := by decide +kernel
theorem dL_promisedByScans_2 : decode cL_promisedByScans 2 = .ok (.aload_n 0, 1) := by decide +kernel
theorem dL_promisedByScans_3 : decode cL_promisedByScans 3 = .ok (.iload_n 1, 1) := by decide +kernel
theorem dL_promisedByScans_4 : decode cL_promisedByScans 4 = .ok (.invokevirtual 32, 3) := by decide +kernel
theorem dL_promisedByScans_7 : decode cL_promisedByScans 7 = .ok (.i2l, 1) := by decide +kernel
theorem dL_promisedByScans_8 : decode cL_promisedByScans 8 = .ok (.lastore, 1) := by decide +kernel
theorem dL_promisedByScans_9 : decode cL_promisedByScans 9 = .ok (.goto 6, 3) := by decide +kernel
theorem dL_promisedByScans_12 : decode cL_promisedByScans 12 = .ok (.astore_n 3, 1) := by decide +kernel
theorem dL_promisedByScans_13 : decode cL_promisedByScans 13 = .ok (.iconst 1, 1) := by decide +kernel
theorem dL_promisedByScans_14 : decode cL_promisedByScans 14 = .ok (.ireturn, 1) := by decide +kernel
theorem dL_promisedByScans_15 : decode cL_promisedByScans 15 = .ok (.iconst 0, 1) := by decide +kernel
theorem dL_promisedByScans_16 : decode cL_promisedByScans 16 = .ok (.ireturn, 1) := by decide +kernel
set_option maxHeartbeats 4000000 in
set_option maxRecDepth 100000 in
theorem kw_promisedByScans_ (l : Launch) (g : kG) (e0 : Nat) (S O : wPS) (sz x o : Nat) (n1 : Int32) (po : Int32 → wPS → Prop) (Ex : String → Prop) (hx0 : Ob S 5 x) (ho : Ob O 14 o) (hN : pN O o = 1) (hM : kM l g e0 yX5_promisedByScans cX5_promisedByScans 6 (some .int) 7 103 1 6 [.ref x, .int n1] S sz (pI po) Ex) (hex : ∀ E, Ex E → E = xI) : kMw l g e0 yL_promisedByScans cL_promisedByScans 4 [(0, 9, 12, 21)] 8 128 1 6 [.ref x, .int n1, .ref o] S O sz (fun r S1 O1 => (r = 0 ∧ ∃ v, po v S1 ∧ O1 = setJ O o v.toInt64) ∨ (r = 1 ∧ Ex xI ∧ S1 = S ∧ O1 = O)) := by
  refine kMw.of (by decide) (Nat.le_of_ble_eq_true rfl) ?_
  intro p e s m below meth c ls B
  obtain ⟨F, hr, hlk, ht, hP, hO, hK, hD, hDO, hdis, hE, hNc, hS, hA, hl, hsz⟩ := B
  subst hsz
  have hx := F.1
  have hb := F.2.1
  have hl : lv_has ls 4 [(0, .ref x), (1, .int n1), (2, .ref o)] := hl
  refine lv_aload_n hx hb dL_promisedByScans_0 rfl (lv_at hl 2 rfl) ?_
  refine lv_iconst (v := 0) hx hb dL_promisedByScans_1 (by decide) ?_
  refine lv_aload_n hx hb dL_promisedByScans_2 rfl (lv_at hl 0 rfl) ?_
  refine lv_iload_n hx hb dL_promisedByScans_3 rfl (lv_at hl 1 rfl) ?_
  refine kcallWI (kV (n := 1) (As := [.int n1]) (rest := [.int 0, .ref o]) (b := x) (C := RX5) F hE hK hP hD hS hA hM (rr_Pickwave hK hP hx0) kw_279 kw_280 kw_281 kw_2 kw_282 (by decide +kernel) ⟨Nat.le_of_ble_eq_true rfl, Nat.le_of_ble_eq_true rfl⟩ rfl hl.1 rfl (Nat.le_of_ble_eq_true rfl) dL_promisedByScans_4 ⟨Nat.le_of_ble_eq_true rfl, Nat.le_of_ble_eq_true rfl⟩) rfl hD hS hA (fun E ce q9 H1 locs1 hex1 hP1 _ hf1 hS1 hce hcv hcl => ?_) (fun r S1 H1 locs1 hp hP1 hD1 hDA _ hf1 hS1 => ?_)
  · have hO1 := kO_keep hO hdis hf1
    obtain rfl := hex E hex1
    refine vx_catch (name := "java/lang/IndexOutOfBoundsException") F.2.2.2.1 [] ⟨0, 9, 12, 21⟩ [] (ht.trans rfl) (fun z hz => by cases hz) rfl (by decide) (F.2.2.2.2 _ kw_190) (va_any rfl (hE.2.2.2.2.2.2.2.2.2.2.2.2.2.2.2.2 _ (List.mem_of_getElem? (i := 2) rfl))) hce hcv hcl ?_
    refine lv_astore_n (lv' := [(3, .ref q9), (0, .ref x), (1, .int n1), (2, .ref o)]) hx hb dL_promisedByScans_12 rfl hl (by decide) rfl (fun ls hl => ?_)
    refine lv_iconst (v := 1) hx hb dL_promisedByScans_13 (by decide) ?_
    exact kEndW F hr hlk hP1 hO1 hD hDO hdis hS1 (Nat.le_of_ble_eq_true rfl) (Nat.le_of_ble_eq_true rfl) dL_promisedByScans_14 (Or.inr (⟨rfl, hex1, rfl, rfl⟩))
  · have hO1 := kO_keep hO hdis hf1
    have hdis1 := kdis_keep hO hdis hD1
    refine lv_i2l (v := r.toInt64) hx hb dL_promisedByScans_7 rfl ?_
    refine rt2_J F hK hP1 hO1 hDA hDO hdis1 hS1 ho hN dL_promisedByScans_8 (fun H2 locs2 hP2 hO2 hDO2 hS2 => ?_)
    refine lv_goto (tgt := 15) hx hb dL_promisedByScans_9 (by decide) ?_
    refine lv_iconst (v := 0) hx hb dL_promisedByScans_15 (by decide) ?_
    exact kEndW F hr hlk hP2 hO2 hDA hDO2 hdis1 hS2 (Nat.le_of_ble_eq_true rfl) (Nat.le_of_ble_eq_true rfl) dL_promisedByScans_16 (Or.inl ⟨rfl, r, hp, rfl⟩)
theorem dL_reserve_0 : decode cL_reserve 0 = .ok (.aload_n 2, 1) := by decide +kernel
theorem dL_reserve_1 : decode cL_reserve 1 = .ok (.iconst 0, 1) := by decide +kernel
theorem dL_reserve_2 : decode cL_reserve 2 = .ok (.aload_n 0, 1) := by decide +kernel
theorem dL_reserve_3 : decode cL_reserve 3 = .ok (.iload_n 1, 1) := by decide +kernel
theorem dL_reserve_4 : decode cL_reserve 4 = .ok (.invokevirtual 23, 3) := by decide +kernel
theorem dL_reserve_7 : decode cL_reserve 7 = .ok (.i2l, 1) := by decide +kernel
theorem dL_reserve_8 : decode cL_reserve 8 = .ok (.lastore, 1) := by decide +kernel
theorem dL_reserve_9 : decode cL_reserve 9 = .ok (.goto 6, 3) := by decide +kernel
theorem dL_reserve_12 : decode cL_reserve 12 = .ok (.astore_n 3, 1) := by decide +kernel
theorem dL_reserve_13 : decode cL_reserve 13 = .ok (.iconst 1, 1) := by decide +kernel
theorem dL_reserve_14 : decode cL_reserve 14 = .ok (.ireturn, 1) := by decide +kernel
theorem dL_reserve_15 : decode cL_reserve 15 = .ok (.iconst 0, 1) := by decide +kernel
theorem dL_reserve_16 : decode cL_reserve 16 = .ok (.ireturn, 1) := by decide +kernel
set_option maxHeartbeats 4000000 in
set_option maxRecDepth 100000 in
theorem kw_reserve_ (l : Launch) (g : kG) (e0 : Nat) (S O : wPS) (sz x o : Nat) (n1 : Int32) (po : Int32 → wPS → Prop) (Ex : String → Prop) (hx0 : Ob S 5 x) (ho : Ob O 14 o) (hN : pN O o = 1) (hM : kM l g e0 yX5_reserve cX5_reserve 2 (some .int) 7 103 1 6 [.ref x, .int n1] S sz (pI po) Ex) (hex : ∀ E, Ex E → E = xI) : kMw l g e0 yL_reserve cL_reserve 4 [(0, 9, 12, 21)] 8 124 1 6 [.ref x, .int n1, .ref o] S O sz (fun r S1 O1 => (r = 0 ∧ ∃ v, po v S1 ∧ O1 = setJ O o v.toInt64) ∨ (r = 1 ∧ Ex xI ∧ S1 = S ∧ O1 = O)) := by
  refine kMw.of (by decide) (Nat.le_of_ble_eq_true rfl) ?_
  intro p e s m below meth c ls B
  obtain ⟨F, hr, hlk, ht, hP, hO, hK, hD, hDO, hdis, hE, hNc, hS, hA, hl, hsz⟩ := B
  subst hsz
  have hx := F.1
  have hb := F.2.1
  have hl : lv_has ls 4 [(0, .ref x), (1, .int n1), (2, .ref o)] := hl
  refine lv_aload_n hx hb dL_reserve_0 rfl (lv_at hl 2 rfl) ?_
  refine lv_iconst (v := 0) hx hb dL_reserve_1 (by decide) ?_
  refine lv_aload_n hx hb dL_reserve_2 rfl (lv_at hl 0 rfl) ?_
  refine lv_iload_n hx hb dL_reserve_3 rfl (lv_at hl 1 rfl) ?_
  refine kcallWI (kV (n := 1) (As := [.int n1]) (rest := [.int 0, .ref o]) (b := x) (C := RX5) F hE hK hP hD hS hA hM (rr_Pickwave hK hP hx0) kw_230 kw_231 kw_232 kw_2 kw_233 (by decide +kernel) ⟨Nat.le_of_ble_eq_true rfl, Nat.le_of_ble_eq_true rfl⟩ rfl hl.1 rfl (Nat.le_of_ble_eq_true rfl) dL_reserve_4 ⟨Nat.le_of_ble_eq_true rfl, Nat.le_of_ble_eq_true rfl⟩) rfl hD hS hA (fun E ce q9 H1 locs1 hex1 hP1 _ hf1 hS1 hce hcv hcl => ?_) (fun r S1 H1 locs1 hp hP1 hD1 hDA _ hf1 hS1 => ?_)
  · have hO1 := kO_keep hO hdis hf1
    obtain rfl := hex E hex1
    refine vx_catch (name := "java/lang/IndexOutOfBoundsException") F.2.2.2.1 [] ⟨0, 9, 12, 21⟩ [] (ht.trans rfl) (fun z hz => by cases hz) rfl (by decide) (F.2.2.2.2 _ kw_190) (va_any rfl (hE.2.2.2.2.2.2.2.2.2.2.2.2.2.2.2.2 _ (List.mem_of_getElem? (i := 2) rfl))) hce hcv hcl ?_
    refine lv_astore_n (lv' := [(3, .ref q9), (0, .ref x), (1, .int n1), (2, .ref o)]) hx hb dL_reserve_12 rfl hl (by decide) rfl (fun ls hl => ?_)
    refine lv_iconst (v := 1) hx hb dL_reserve_13 (by decide) ?_
    exact kEndW F hr hlk hP1 hO1 hD hDO hdis hS1 (Nat.le_of_ble_eq_true rfl) (Nat.le_of_ble_eq_true rfl) dL_reserve_14 (Or.inr (⟨rfl, hex1, rfl, rfl⟩))
  · have hO1 := kO_keep hO hdis hf1
    have hdis1 := kdis_keep hO hdis hD1
    refine lv_i2l (v := r.toInt64) hx hb dL_reserve_7 rfl ?_
    refine rt2_J F hK hP1 hO1 hDA hDO hdis1 hS1 ho hN dL_reserve_8 (fun H2 locs2 hP2 hO2 hDO2 hS2 => ?_)
    refine lv_goto (tgt := 15) hx hb dL_reserve_9 (by decide) ?_
    refine lv_iconst (v := 0) hx hb dL_reserve_15 (by decide) ?_
    exact kEndW F hr hlk hP2 hO2 hDA hDO2 hdis1 hS2 (Nat.le_of_ble_eq_true rfl) (Nat.le_of_ble_eq_true rfl) dL_reserve_16 (Or.inl ⟨rfl, r, hp, rfl⟩)
theorem dL_scanOrder_0 : decode cL_scanOrder 0 = .ok (.aload_n 2, 1) := by decide +kernel
theorem dL_scanOrder_1 : decode cL_scanOrder 1 = .ok (.iconst 0, 1) := by decide +kernel
theorem dL_scanOrder_2 : decode cL_scanOrder 2 = .ok (.aload_n 0, 1) := by decide +kernel
theorem dL_scanOrder_3 : decode cL_scanOrder 3 = .ok (.iload_n 1, 1) := by decide +kernel
theorem dL_scanOrder_4 : decode cL_scanOrder 4 = .ok (.invokevirtual 100, 3) := by decide +kernel
theorem dL_scanOrder_7 : decode cL_scanOrder 7 = .ok (.i2l, 1) := by decide +kernel
theorem dL_scanOrder_8 : decode cL_scanOrder 8 = .ok (.lastore, 1) := by decide +kernel
theorem dL_scanOrder_9 : decode cL_scanOrder 9 = .ok (.goto 6, 3) := by decide +kernel
theorem dL_scanOrder_12 : decode cL_scanOrder 12 = .ok (.astore_n 3, 1) := by decide +kernel
theorem dL_scanOrder_13 : decode cL_scanOrder 13 = .ok (.iconst 1, 1) := by decide +kernel
theorem dL_scanOrder_14 : decode cL_scanOrder 14 = .ok (.ireturn, 1) := by decide +kernel
theorem dL_scanOrder_15 : decode cL_scanOrder 15 = .ok (.iconst 0, 1) := by decide +kernel
theorem dL_scanOrder_16 : decode cL_scanOrder 16 = .ok (.ireturn, 1) := by decide +kernel
set_option maxHeartbeats 4000000 in
set_option maxRecDepth 100000 in
theorem kw_scanOrder_ (l : Launch) (g : kG) (e0 : Nat) (S O : wPS) (sz x o : Nat) (n1 : Int32) (po : Int32 → wPS → Prop) (Ex : String → Prop) (hx0 : Ob S 5 x) (ho : Ob O 14 o) (hN : pN O o = 1) (hM : kM l g e0 yX5_scanOrder cX5_scanOrder 2 (some .int) 6 82 1 6 [.ref x, .int n1] S sz (pI po) Ex) (hex : ∀ E, Ex E → E = xI) : kMw l g e0 yL_scanOrder cL_scanOrder 4 [(0, 9, 12, 21)] 7 103 1 6 [.ref x, .int n1, .ref o] S O sz (fun r S1 O1 => (r = 0 ∧ ∃ v, po v S1 ∧ O1 = setJ O o v.toInt64) ∨ (r = 1 ∧ Ex xI ∧ S1 = S ∧ O1 = O)) := by
  refine kMw.of (by decide) (Nat.le_of_ble_eq_true rfl) ?_
  intro p e s m below meth c ls B
  obtain ⟨F, hr, hlk, ht, hP, hO, hK, hD, hDO, hdis, hE, hNc, hS, hA, hl, hsz⟩ := B
  subst hsz
  have hx := F.1
  have hb := F.2.1
  have hl : lv_has ls 4 [(0, .ref x), (1, .int n1), (2, .ref o)] := hl
  refine lv_aload_n hx hb dL_scanOrder_0 rfl (lv_at hl 2 rfl) ?_
  refine lv_iconst (v := 0) hx hb dL_scanOrder_1 (by decide) ?_
  refine lv_aload_n hx hb dL_scanOrder_2 rfl (lv_at hl 0 rfl) ?_
  refine lv_iload_n hx hb dL_scanOrder_3 rfl (lv_at hl 1 rfl) ?_
  refine kcallWI (kV (n := 1) (As := [.int n1]) (rest := [.int 0, .ref o]) (b := x) (C := RX5) F hE hK hP hD hS hA hM (rr_Pickwave hK hP hx0) kw_702 kw_703 kw_704 kw_2 kw_705 (by decide +kernel) ⟨Nat.le_of_ble_eq_true rfl, Nat.le_of_ble_eq_true rfl⟩ rfl hl.1 rfl (Nat.le_of_ble_eq_true rfl) dL_scanOrder_4 ⟨Nat.le_of_ble_eq_true rfl, Nat.le_of_ble_eq_true rfl⟩) rfl hD hS hA (fun E ce q9 H1 locs1 hex1 hP1 _ hf1 hS1 hce hcv hcl => ?_) (fun r S1 H1 locs1 hp hP1 hD1 hDA _ hf1 hS1 => ?_)
  · have hO1 := kO_keep hO hdis hf1
    obtain rfl := hex E hex1
    refine vx_catch (name := "java/lang/IndexOutOfBoundsException") F.2.2.2.1 [] ⟨0, 9, 12, 21⟩ [] (ht.trans rfl) (fun z hz => by cases hz) rfl (by decide) (F.2.2.2.2 _ kw_190) (va_any rfl (hE.2.2.2.2.2.2.2.2.2.2.2.2.2.2.2.2 _ (List.mem_of_getElem? (i := 2) rfl))) hce hcv hcl ?_
    refine lv_astore_n (lv' := [(3, .ref q9), (0, .ref x), (1, .int n1), (2, .ref o)]) hx hb dL_scanOrder_12 rfl hl (by decide) rfl (fun ls hl => ?_)
    refine lv_iconst (v := 1) hx hb dL_scanOrder_13 (by decide) ?_
    exact kEndW F hr hlk hP1 hO1 hD hDO hdis hS1 (Nat.le_of_ble_eq_true rfl) (Nat.le_of_ble_eq_true rfl) dL_scanOrder_14 (Or.inr (⟨rfl, hex1, rfl, rfl⟩))
  · have hO1 := kO_keep hO hdis hf1
    have hdis1 := kdis_keep hO hdis hD1
    refine lv_i2l (v := r.toInt64) hx hb dL_scanOrder_7 rfl ?_
    refine rt2_J F hK hP1 hO1 hDA hDO hdis1 hS1 ho hN dL_scanOrder_8 (fun H2 locs2 hP2 hO2 hDO2 hS2 => ?_)
    refine lv_goto (tgt := 15) hx hb dL_scanOrder_9 (by decide) ?_
    refine lv_iconst (v := 0) hx hb dL_scanOrder_15 (by decide) ?_
    exact kEndW F hr hlk hP2 hO2 hDA hDO2 hdis1 hS2 (Nat.le_of_ble_eq_true rfl) (Nat.le_of_ble_eq_true rfl) dL_scanOrder_16 (Or.inl ⟨rfl, r, hp, rfl⟩)
theorem dL_scanSign_0 : decode cL_scanSign 0 = .ok (.aload_n 2, 1) := by decide +kernel
theorem dL_scanSign_1 : decode cL_scanSign 1 = .ok (.iconst 0, 1) := by decide +kernel
theorem dL_scanSign_2 : decode cL_scanSign 2 = .ok (.aload_n 0, 1) := by decide +kernel
theorem dL_scanSign_3 : decode cL_scanSign 3 = .ok (.iload_n 1, 1) := by decide +kernel
theorem dL_scanSign_4 : decode cL_scanSign 4 = .ok (.invokevirtual 103, 3) := by decide +kernel
theorem dL_scanSign_7 : decode cL_scanSign 7 = .ok (.i2l, 1) := by decide +kernel
theorem dL_scanSign_8 : decode cL_scanSign 8 = .ok (.lastore, 1) := by decide +kernel
theorem dL_scanSign_9 : decode cL_scanSign 9 = .ok (.goto 6, 3) := by decide +kernel
theorem dL_scanSign_12 : decode cL_scanSign 12 = .ok (.astore_n 3, 1) := by decide +kernel
theorem dL_scanSign_13 : decode cL_scanSign 13 = .ok (.iconst 1, 1) := by decide +kernel
theorem dL_scanSign_14 : decode cL_scanSign 14 = .ok (.ireturn, 1) := by decide +kernel
theorem dL_scanSign_15 : decode cL_scanSign 15 = .ok (.iconst 0, 1) := by decide +kernel
theorem dL_scanSign_16 : decode cL_scanSign 16 = .ok (.ireturn, 1) := by decide +kernel
set_option maxHeartbeats 4000000 in
set_option maxRecDepth 100000 in
theorem kw_scanSign_ (l : Launch) (g : kG) (e0 : Nat) (S O : wPS) (sz x o : Nat) (n1 : Int32) (po : Int32 → wPS → Prop) (Ex : String → Prop) (hx0 : Ob S 5 x) (ho : Ob O 14 o) (hN : pN O o = 1) (hM : kM l g e0 yX5_scanSign cX5_scanSign 2 (some .char) 6 82 1 6 [.ref x, .int n1] S sz (pI po) Ex) (hex : ∀ E, Ex E → E = xI) : kMw l g e0 yL_scanSign cL_scanSign 4 [(0, 9, 12, 21)] 7 103 1 6 [.ref x, .int n1, .ref o] S O sz (fun r S1 O1 => (r = 0 ∧ ∃ v, po v S1 ∧ O1 = setJ O o v.toInt64) ∨ (r = 1 ∧ Ex xI ∧ S1 = S ∧ O1 = O)) := by
  refine kMw.of (by decide) (Nat.le_of_ble_eq_true rfl) ?_
  intro p e s m below meth c ls B
  obtain ⟨F, hr, hlk, ht, hP, hO, hK, hD, hDO, hdis, hE, hNc, hS, hA, hl, hsz⟩ := B
  subst hsz
  have hx := F.1
  have hb := F.2.1
  have hl : lv_has ls 4 [(0, .ref x), (1, .int n1), (2, .ref o)] := hl
  refine lv_aload_n hx hb dL_scanSign_0 rfl (lv_at hl 2 rfl) ?_
  refine lv_iconst (v := 0) hx hb dL_scanSign_1 (by decide) ?_
  refine lv_aload_n hx hb dL_scanSign_2 rfl (lv_at hl 0 rfl) ?_
  refine lv_iload_n hx hb dL_scanSign_3 rfl (lv_at hl 1 rfl) ?_
  refine kcallWI (kV (n := 1) (As := [.int n1]) (rest := [.int 0, .ref o]) (b := x) (C := RX5) F hE hK hP hD hS hA hM (rr_Pickwave hK hP hx0) kw_718 kw_719 kw_720 kw_2 kw_721 (by decide +kernel) ⟨Nat.le_of_ble_eq_true rfl, Nat.le_of_ble_eq_true rfl⟩ rfl hl.1 rfl (Nat.le_of_ble_eq_true rfl) dL_scanSign_4 ⟨Nat.le_of_ble_eq_true rfl, Nat.le_of_ble_eq_true rfl⟩) rfl hD hS hA (fun E ce q9 H1 locs1 hex1 hP1 _ hf1 hS1 hce hcv hcl => ?_) (fun r S1 H1 locs1 hp hP1 hD1 hDA _ hf1 hS1 => ?_)
  · have hO1 := kO_keep hO hdis hf1
    obtain rfl := hex E hex1
    refine vx_catch (name := "java/lang/IndexOutOfBoundsException") F.2.2.2.1 [] ⟨0, 9, 12, 21⟩ [] (ht.trans rfl) (fun z hz => by cases hz) rfl (by decide) (F.2.2.2.2 _ kw_190) (va_any rfl (hE.2.2.2.2.2.2.2.2.2.2.2.2.2.2.2.2 _ (List.mem_of_getElem? (i := 2) rfl))) hce hcv hcl ?_
    refine lv_astore_n (lv' := [(3, .ref q9), (0, .ref x), (1, .int n1), (2, .ref o)]) hx hb dL_scanSign_12 rfl hl (by decide) rfl (fun ls hl => ?_)
    refine lv_iconst (v := 1) hx hb dL_scanSign_13 (by decide) ?_
    exact kEndW F hr hlk hP1 hO1 hD hDO hdis hS1 (Nat.le_of_ble_eq_true rfl) (Nat.le_of_ble_eq_true rfl) dL_scanSign_14 (Or.inr (⟨rfl, hex1, rfl, rfl⟩))
  · have hO1 := kO_keep hO hdis hf1
    have hdis1 := kdis_keep hO hdis hD1
    refine lv_i2l (v := r.toInt64) hx hb dL_scanSign_7 rfl ?_
    refine rt2_J F hK hP1 hO1 hDA hDO hdis1 hS1 ho hN dL_scanSign_8 (fun H2 locs2 hP2 hO2 hDO2 hS2 => ?_)
    refine lv_goto (tgt := 15) hx hb dL_scanSign_9 (by decide) ?_
    refine lv_iconst (v := 0) hx hb dL_scanSign_15 (by decide) ?_
    exact kEndW F hr hlk hP2 hO2 hDA hDO2 hdis1 hS2 (Nat.le_of_ble_eq_true rfl) (Nat.le_of_ble_eq_true rfl) dL_scanSign_16 (Or.inl ⟨rfl, r, hp, rfl⟩)
theorem dL_send_0 : decode cL_send 0 = .ok (.aload_n 3, 1) := by decide +kernel
theorem dL_send_1 : decode cL_send 1 = .ok (.iconst 0, 1) := by decide +kernel
theorem dL_send_2 : decode cL_send 2 = .ok (.aload_n 0, 1) := by decide +kernel
theorem dL_send_3 : decode cL_send 3 = .ok (.iload_n 1, 1) := by decide +kernel
theorem dL_send_4 : decode cL_send 4 = .ok (.iload_n 2, 1) := by decide +kernel
theorem dL_send_5 : decode cL_send 5 = .ok (.invokevirtual 85, 3) := by decide +kernel
theorem dL_send_8 : decode cL_send 8 = .ok (.i2l, 1) := by decide +kernel
theorem dL_send_9 : decode cL_send 9 = .ok (.lastore, 1) := by decide +kernel
theorem dL_send_10 : decode cL_send 10 = .ok (.goto 19, 3) := by decide +kernel
theorem dL_send_13 : decode cL_send 13 = .ok (.astore 4, 2) := by decide +kernel
theorem dL_send_15 : decode cL_send 15 = .ok (.iconst 1, 1) := by decide +kernel
theorem dL_send_16 : decode cL_send 16 = .ok (.ireturn, 1) := by decide +kernel
theorem dL_send_17 : decode cL_send 17 = .ok (.astore 4, 2) := by decide +kernel
theorem dL_send_19 : decode cL_send 19 = .ok (.iconst 2, 1) := by decide +kernel
theorem dL_send_20 : decode cL_send 20 = .ok (.ireturn, 1) := by decide +kernel
theorem dL_send_21 : decode cL_send 21 = .ok (.astore 4, 2) := by decide +kernel
theorem dL_send_23 : decode cL_send 23 = .ok (.iconst 3, 1) := by decide +kernel
theorem dL_send_24 : decode cL_send 24 = .ok (.ireturn, 1) := by decide +kernel
theorem dL_send_25 : decode cL_send 25 = .ok (.astore 4, 2) := by decide +kernel
theorem dL_send_27 : decode cL_send 27 = .ok (.iconst 4, 1) := by decide +kernel
theorem dL_send_28 : decode cL_send 28 = .ok (.ireturn, 1) := by decide +kernel
theorem dL_send_29 : decode cL_send 29 = .ok (.iconst 0, 1) := by decide +kernel
theorem dL_send_30 : decode cL_send 30 = .ok (.ireturn, 1) := by decide +kernel
set_option maxHeartbeats 4000000 in
set_option maxRecDepth 100000 in
theorem kw_send_ (l : Launch) (g : kG) (e0 : Nat) (S O : wPS) (sz x o : Nat) (n1 n2 : Int32) (po : Int32 → wPS → Prop) (Ex : String → Prop) (hx0 : Ob S 5 x) (ho : Ob O 14 o) (hN : pN O o = 1) (hM : kM l g e0 yX5_send cX5_send 6 (some .int) 7 103 3 18 [.ref x, .int n1, .int n2] S sz (pI po) Ex) (hex : ∀ E, Ex E → E = xI ∨ E = xU ∨ E = xS ∨ E = xN) : kMw l g e0 yL_send cL_send 5 [(0, 10, 13, 21), (0, 10, 17, 66), (0, 10, 21, 15), (0, 10, 25, 80)] 8 128 3 18 [.ref x, .int n1, .int n2, .ref o] S O sz (fun r S1 O1 => (r = 0 ∧ ∃ v, po v S1 ∧ O1 = setJ O o v.toInt64) ∨ (r = 1 ∧ Ex xI ∧ S1 = S ∧ O1 = O) ∨ (r = 2 ∧ Ex xU ∧ S1 = S ∧ O1 = O) ∨ (r = 3 ∧ Ex xS ∧ S1 = S ∧ O1 = O) ∨ (r = 4 ∧ Ex xN ∧ S1 = S ∧ O1 = O)) := by
  refine kMw.of (by decide) (Nat.le_of_ble_eq_true rfl) ?_
  intro p e s m below meth c ls B
  obtain ⟨F, hr, hlk, ht, hP, hO, hK, hD, hDO, hdis, hE, hNc, hS, hA, hl, hsz⟩ := B
  subst hsz
  have hx := F.1
  have hb := F.2.1
  have hl : lv_has ls 5 [(0, .ref x), (1, .int n1), (2, .int n2), (3, .ref o)] := hl
  refine lv_aload_n hx hb dL_send_0 rfl (lv_at hl 3 rfl) ?_
  refine lv_iconst (v := 0) hx hb dL_send_1 (by decide) ?_
  refine lv_aload_n hx hb dL_send_2 rfl (lv_at hl 0 rfl) ?_
  refine lv_iload_n hx hb dL_send_3 rfl (lv_at hl 1 rfl) ?_
  refine lv_iload_n hx hb dL_send_4 rfl (lv_at hl 2 rfl) ?_
  refine kcallWI (kV (n := 2) (As := [.int n1, .int n2]) (rest := [.int 0, .ref o]) (b := x) (C := RX5) F hE hK hP hD hS hA hM (rr_Pickwave hK hP hx0) kw_606 kw_607 kw_608 kw_2 kw_609 (by decide +kernel) ⟨Nat.le_of_ble_eq_true rfl, Nat.le_of_ble_eq_true rfl⟩ rfl hl.1 rfl (Nat.le_of_ble_eq_true rfl) dL_send_5 ⟨Nat.le_of_ble_eq_true rfl, Nat.le_of_ble_eq_true rfl⟩) rfl hD hS hA (fun E ce q9 H1 locs1 hex1 hP1 _ hf1 hS1 hce hcv hcl => ?_) (fun r S1 H1 locs1 hp hP1 hD1 hDA _ hf1 hS1 => ?_)
  · have hO1 := kO_keep hO hdis hf1
    rcases hex E hex1 with rfl | rfl | rfl | rfl
    · refine vx_catch (name := "java/lang/IndexOutOfBoundsException") F.2.2.2.1 [] ⟨0, 10, 13, 21⟩ [⟨0, 10, 17, 66⟩, ⟨0, 10, 21, 15⟩, ⟨0, 10, 25, 80⟩] (ht.trans rfl) (fun z hz => by cases hz) rfl (by decide) (F.2.2.2.2 _ kw_190) (va_any rfl (hE.2.2.2.2.2.2.2.2.2.2.2.2.2.2.2.2 _ (List.mem_of_getElem? (i := 2) rfl))) hce hcv hcl ?_
      refine lv_astore (lv' := [(4, .ref q9), (0, .ref x), (1, .int n1), (2, .int n2), (3, .ref o)]) hx hb dL_send_13 hl (by decide) rfl (fun ls hl => ?_)
      refine lv_iconst (v := 1) hx hb dL_send_15 (by decide) ?_
      exact kEndW F hr hlk hP1 hO1 hD hDO hdis hS1 (Nat.le_of_ble_eq_true rfl) (Nat.le_of_ble_eq_true rfl) dL_send_16 (Or.inr (Or.inl ⟨rfl, hex1, rfl, rfl⟩))
    · refine vx_catch (name := "java/lang/UnsupportedOperationException") F.2.2.2.1 [⟨0, 10, 13, 21⟩] ⟨0, 10, 17, 66⟩ [⟨0, 10, 21, 15⟩, ⟨0, 10, 25, 80⟩] (ht.trans rfl) (fun z hz => by rcases List.mem_cons.mp hz with rfl | hz; exact Or.inr ⟨by decide, "java/lang/IndexOutOfBoundsException", F.2.2.2.2 _ kw_190, hNc _ (List.mem_of_getElem? (i := 3) rfl)⟩; exact absurd hz List.not_mem_nil) rfl (by decide) (F.2.2.2.2 _ kw_496) (va_any rfl (hE.2.2.2.2.2.2.2.2.2.2.2.2.2.2.2.2 _ (List.mem_of_getElem? (i := 3) rfl))) hce hcv hcl ?_
      refine lv_astore (lv' := [(4, .ref q9), (0, .ref x), (1, .int n1), (2, .int n2), (3, .ref o)]) hx hb dL_send_17 hl (by decide) rfl (fun ls hl => ?_)
      refine lv_iconst (v := 2) hx hb dL_send_19 (by decide) ?_
      exact kEndW F hr hlk hP1 hO1 hD hDO hdis hS1 (Nat.le_of_ble_eq_true rfl) (Nat.le_of_ble_eq_true rfl) dL_send_20 (Or.inr (Or.inr (Or.inl ⟨rfl, hex1, rfl, rfl⟩)))
    · refine vx_catch (name := "java/lang/IllegalStateException") F.2.2.2.1 [⟨0, 10, 13, 21⟩, ⟨0, 10, 17, 66⟩] ⟨0, 10, 21, 15⟩ [⟨0, 10, 25, 80⟩] (ht.trans rfl) (fun z hz => by rcases List.mem_cons.mp hz with rfl | hz; exact Or.inr ⟨by decide, "java/lang/IndexOutOfBoundsException", F.2.2.2.2 _ kw_190, hNc _ (List.mem_of_getElem? (i := 1) rfl)⟩; rcases List.mem_cons.mp hz with rfl | hz; exact Or.inr ⟨by decide, "java/lang/UnsupportedOperationException", F.2.2.2.2 _ kw_496, hNc _ (List.mem_of_getElem? (i := 5) rfl)⟩; exact absurd hz List.not_mem_nil) rfl (by decide) (F.2.2.2.2 _ kw_90) (va_any rfl (hE.2.2.2.2.2.2.2.2.2.2.2.2.2.2.2.2 _ (List.mem_of_getElem? (i := 1) rfl))) hce hcv hcl ?_
      refine lv_astore (lv' := [(4, .ref q9), (0, .ref x), (1, .int n1), (2, .int n2), (3, .ref o)]) hx hb dL_send_21 hl (by decide) rfl (fun ls hl => ?_)
      refine lv_iconst (v := 3) hx hb dL_send_23 (by decide) ?_
      exact kEndW F hr hlk hP1 hO1 hD hDO hdis hS1 (Nat.le_of_ble_eq_true rfl) (Nat.le_of_ble_eq_true rfl) dL_send_24 (Or.inr (Or.inr (Or.inr (Or.inl ⟨rfl, hex1, rfl, rfl⟩))))
    · refine vx_catch (name := "java/util/NoSuchElementException") F.2.2.2.1 [⟨0, 10, 13, 21⟩, ⟨0, 10, 17, 66⟩, ⟨0, 10, 21, 15⟩] ⟨0, 10, 25, 80⟩ [] (ht.trans rfl) (fun z hz => by rcases List.mem_cons.mp hz with rfl | hz; exact Or.inr ⟨by decide, "java/lang/IndexOutOfBoundsException", F.2.2.2.2 _ kw_190, hNc _ (List.mem_of_getElem? (i := 6) rfl)⟩; rcases List.mem_cons.mp hz with rfl | hz; exact Or.inr ⟨by decide, "java/lang/UnsupportedOperationException", F.2.2.2.2 _ kw_496, hNc _ (List.mem_of_getElem? (i := 7) rfl)⟩; rcases List.mem_cons.mp hz with rfl | hz; exact Or.inr ⟨by decide, "java/lang/IllegalStateException", F.2.2.2.2 _ kw_90, hNc _ (List.mem_of_getElem? (i := 8) rfl)⟩; exact absurd hz List.not_mem_nil) rfl (by decide) (F.2.2.2.2 _ kw_573) (va_any rfl (hE.2.2.2.2.2.2.2.2.2.2.2.2.2.2.2.2 _ (List.mem_of_getElem? (i := 4) rfl))) hce hcv hcl ?_
      refine lv_astore (lv' := [(4, .ref q9), (0, .ref x), (1, .int n1), (2, .int n2), (3, .ref o)]) hx hb dL_send_25 hl (by decide) rfl (fun ls hl => ?_)
      refine lv_iconst (v := 4) hx hb dL_send_27 (by decide) ?_
      exact kEndW F hr hlk hP1 hO1 hD hDO hdis hS1 (Nat.le_of_ble_eq_true rfl) (Nat.le_of_ble_eq_true rfl) dL_send_28 (Or.inr (Or.inr (Or.inr (Or.inr (⟨rfl, hex1, rfl, rfl⟩)))))
  · have hO1 := kO_keep hO hdis hf1
    have hdis1 := kdis_keep hO hdis hD1
    refine lv_i2l (v := r.toInt64) hx hb dL_send_8 rfl ?_
    refine rt2_J F hK hP1 hO1 hDA hDO hdis1 hS1 ho hN dL_send_9 (fun H2 locs2 hP2 hO2 hDO2 hS2 => ?_)
    refine lv_goto (tgt := 29) hx hb dL_send_10 (by decide) ?_
    refine lv_iconst (v := 0) hx hb dL_send_29 (by decide) ?_
    exact kEndW F hr hlk hP2 hO2 hDA hDO2 hdis1 hS2 (Nat.le_of_ble_eq_true rfl) (Nat.le_of_ble_eq_true rfl) dL_send_30 (Or.inl ⟨rfl, r, hp, rfl⟩)
theorem dL_setBlocked_0 : decode cL_setBlocked 0 = .ok (.aload_n 3, 1) := by decide +kernel
theorem dL_setBlocked_1 : decode cL_setBlocked 1 = .ok (.iconst 0, 1) := by decide +kernel
theorem dL_setBlocked_2 : decode cL_setBlocked 2 = .ok (.aload_n 0, 1) := by decide +kernel
theorem dL_setBlocked_3 : decode cL_setBlocked 3 = .ok (.iload_n 1, 1) := by decide +kernel
theorem dL_setBlocked_4 : decode cL_setBlocked 4 = .ok (.iload_n 2, 1) := by decide +kernel
theorem dL_setBlocked_5 : decode cL_setBlocked 5 = .ok (.invokevirtual 35, 3) := by decide +kernel
theorem dL_setBlocked_8 : decode cL_setBlocked 8 = .ok (.ifCond .eq 7, 3) := by decide +kernel
theorem dL_setBlocked_11 : decode cL_setBlocked 11 = .ok (.lconst 1, 1) := by decide +kernel
theorem dL_setBlocked_12 : decode cL_setBlocked 12 = .ok (.goto 4, 3) := by decide +kernel
theorem dL_setBlocked_15 : decode cL_setBlocked 15 = .ok (.lconst 0, 1) := by decide +kernel
theorem dL_setBlocked_16 : decode cL_setBlocked 16 = .ok (.lastore, 1) := by decide +kernel
theorem dL_setBlocked_17 : decode cL_setBlocked 17 = .ok (.goto 7, 3) := by decide +kernel
theorem dL_setBlocked_20 : decode cL_setBlocked 20 = .ok (.astore 4, 2) := by decide +kernel
theorem dL_setBlocked_22 : decode cL_setBlocked 22 = .ok (.iconst 1, 1) := by decide +kernel
theorem dL_setBlocked_23 : decode cL_setBlocked 23 = .ok (.ireturn, 1) := by decide +kernel
theorem dL_setBlocked_24 : decode cL_setBlocked 24 = .ok (.iconst 0, 1) := by decide +kernel
theorem dL_setBlocked_25 : decode cL_setBlocked 25 = .ok (.ireturn, 1) := by decide +kernel
set_option maxHeartbeats 4000000 in
set_option maxRecDepth 100000 in
theorem kw_setBlocked_ (l : Launch) (g : kG) (e0 : Nat) (S O : wPS) (sz x o : Nat) (n1 n2 : Int32) (po : Int32 → wPS → Prop) (Ex : String → Prop) (hx0 : Ob S 5 x) (ho : Ob O 14 o) (hN : pN O o = 1) (hM : kM l g e0 yX5_setBlocked cX5_setBlocked 5 (some .boolean) 7 103 1 6 [.ref x, .int n1, .int n2] S sz (pI po) Ex) (hex : ∀ E, Ex E → E = xI) : kMw l g e0 yL_setBlocked cL_setBlocked 5 [(0, 17, 20, 21)] 8 127 1 6 [.ref x, .int n1, .int n2, .ref o] S O sz (fun r S1 O1 => (r = 0 ∧ ∃ v, po v S1 ∧ ((¬ v = 0 ∧ O1 = setJ O o 1) ∨ (v = 0 ∧ O1 = setJ O o 0))) ∨ (r = 1 ∧ Ex xI ∧ S1 = S ∧ O1 = O)) := by
  refine kMw.of (by decide) (Nat.le_of_ble_eq_true rfl) ?_
  intro p e s m below meth c ls B
  obtain ⟨F, hr, hlk, ht, hP, hO, hK, hD, hDO, hdis, hE, hNc, hS, hA, hl, hsz⟩ := B
  subst hsz
  have hx := F.1
  have hb := F.2.1
  have hl : lv_has ls 5 [(0, .ref x), (1, .int n1), (2, .int n2), (3, .ref o)] := hl
  refine lv_aload_n hx hb dL_setBlocked_0 rfl (lv_at hl 3 rfl) ?_
  refine lv_iconst (v := 0) hx hb dL_setBlocked_1 (by decide) ?_
  refine lv_aload_n hx hb dL_setBlocked_2 rfl (lv_at hl 0 rfl) ?_
  refine lv_iload_n hx hb dL_setBlocked_3 rfl (lv_at hl 1 rfl) ?_
  refine lv_iload_n hx hb dL_setBlocked_4 rfl (lv_at hl 2 rfl) ?_
  refine kcallWI (kV (n := 2) (As := [.int n1, .int n2]) (rest := [.int 0, .ref o]) (b := x) (C := RX5) F hE hK hP hD hS hA hM (rr_Pickwave hK hP hx0) kw_308 kw_309 kw_310 kw_2 kw_311 (by decide +kernel) ⟨Nat.le_of_ble_eq_true rfl, Nat.le_of_ble_eq_true rfl⟩ rfl hl.1 rfl (Nat.le_of_ble_eq_true rfl) dL_setBlocked_5 ⟨Nat.le_of_ble_eq_true rfl, Nat.le_of_ble_eq_true rfl⟩) rfl hD hS hA (fun E ce q9 H1 locs1 hex1 hP1 _ hf1 hS1 hce hcv hcl => ?_) (fun r S1 H1 locs1 hp hP1 hD1 hDA _ hf1 hS1 => ?_)
  · have hO1 := kO_keep hO hdis hf1
    obtain rfl := hex E hex1
    refine vx_catch (name := "java/lang/IndexOutOfBoundsException") F.2.2.2.1 [] ⟨0, 17, 20, 21⟩ [] (ht.trans rfl) (fun z hz => by cases hz) rfl (by decide) (F.2.2.2.2 _ kw_190) (va_any rfl (hE.2.2.2.2.2.2.2.2.2.2.2.2.2.2.2.2 _ (List.mem_of_getElem? (i := 2) rfl))) hce hcv hcl ?_
    refine lv_astore (lv' := [(4, .ref q9), (0, .ref x), (1, .int n1), (2, .int n2), (3, .ref o)]) hx hb dL_setBlocked_20 hl (by decide) rfl (fun ls hl => ?_)
    refine lv_iconst (v := 1) hx hb dL_setBlocked_22 (by decide) ?_
    exact kEndW F hr hlk hP1 hO1 hD hDO hdis hS1 (Nat.le_of_ble_eq_true rfl) (Nat.le_of_ble_eq_true rfl) dL_setBlocked_23 (Or.inr (⟨rfl, hex1, rfl, rfl⟩))
  · have hO1 := kO_keep hO hdis hf1
    have hdis1 := kdis_keep hO hdis hD1
    refine lv_if_eq (tgt := 15) hx hb dL_setBlocked_8 (by decide) (fun c1 => ?_) (fun c1 => ?_)
    · refine lv_lconst (v := 0) hx hb dL_setBlocked_15 (by decide) ?_
      refine rt2_J F hK hP1 hO1 hDA hDO hdis1 hS1 ho hN dL_setBlocked_16 (fun H2 locs2 hP2 hO2 hDO2 hS2 => ?_)
      refine lv_goto (tgt := 24) hx hb dL_setBlocked_17 (by decide) ?_
      refine lv_iconst (v := 0) hx hb dL_setBlocked_24 (by decide) ?_
      exact kEndW F hr hlk hP2 hO2 hDA hDO2 hdis1 hS2 (Nat.le_of_ble_eq_true rfl) (Nat.le_of_ble_eq_true rfl) dL_setBlocked_25 (Or.inl ⟨rfl, r, hp, Or.inr ⟨c1, rfl⟩⟩)
    · refine lv_lconst (v := 1) hx hb dL_setBlocked_11 (by decide) ?_
      refine lv_goto (tgt := 16) hx hb dL_setBlocked_12 (by decide) ?_
      refine rt2_J F hK hP1 hO1 hDA hDO hdis1 hS1 ho hN dL_setBlocked_16 (fun H2 locs2 hP2 hO2 hDO2 hS2 => ?_)
      refine lv_goto (tgt := 24) hx hb dL_setBlocked_17 (by decide) ?_
      refine lv_iconst (v := 0) hx hb dL_setBlocked_24 (by decide) ?_
      exact kEndW F hr hlk hP2 hO2 hDA hDO2 hdis1 hS2 (Nat.le_of_ble_eq_true rfl) (Nat.le_of_ble_eq_true rfl) dL_setBlocked_25 (Or.inl ⟨rfl, r, hp, Or.inl ⟨c1, rfl⟩⟩)
theorem dL_setCutOff_0 : decode cL_setCutOff 0 = .ok (.aload_n 3, 1) := by decide +kernel
theorem dL_setCutOff_1 : decode cL_setCutOff 1 = .ok (.iconst 0, 1) := by decide +kernel
theorem dL_setCutOff_2 : decode cL_setCutOff 2 = .ok (.aload_n 0, 1) := by decide +kernel
theorem dL_setCutOff_3 : decode cL_setCutOff 3 = .ok (.iload_n 1, 1) := by decide +kernel
theorem dL_setCutOff_4 : decode cL_setCutOff 4 = .ok (.iload_n 2, 1) := by decide +kernel
theorem dL_setCutOff_5 : decode cL_setCutOff 5 = .ok (.invokevirtual 71, 3) := by decide +kernel
theorem dL_setCutOff_8 : decode cL_setCutOff 8 = .ok (.i2l, 1) := by decide +kernel
theorem dL_setCutOff_9 : decode cL_setCutOff 9 = .ok (.lastore, 1) := by decide +kernel
theorem dL_setCutOff_10 : decode cL_setCutOff 10 = .ok (.goto 11, 3) := by decide +kernel
theorem dL_setCutOff_13 : decode cL_setCutOff 13 = .ok (.astore 4, 2) := by decide +kernel
theorem dL_setCutOff_15 : decode cL_setCutOff 15 = .ok (.iconst 1, 1) := by decide +kernel
theorem dL_setCutOff_16 : decode cL_setCutOff 16 = .ok (.ireturn, 1) := by decide +kernel
theorem dL_setCutOff_17 : decode cL_setCutOff 17 = .ok (.astore 4, 2) := by decide +kernel
theorem dL_setCutOff_19 : decode cL_setCutOff 19 = .ok (.iconst 2, 1) := by decide +kernel
theorem dL_setCutOff_20 : decode cL_setCutOff 20 = .ok (.ireturn, 1) := by decide +kernel
theorem dL_setCutOff_21 : decode cL_setCutOff 21 = .ok (.iconst 0, 1) := by decide +kernel
theorem dL_setCutOff_22 : decode cL_setCutOff 22 = .ok (.ireturn, 1) := by decide +kernel
set_option maxHeartbeats 4000000 in
set_option maxRecDepth 100000 in
theorem kw_setCutOff_ (l : Launch) (g : kG) (e0 : Nat) (S O : wPS) (sz x o : Nat) (n1 n2 : Int32) (po : Int32 → wPS → Prop) (Ex : String → Prop) (hx0 : Ob S 5 x) (ho : Ob O 14 o) (hN : pN O o = 1) (hM : kM l g e0 yX5_setCutOff cX5_setCutOff 4 (some .int) 7 103 2 12 [.ref x, .int n1, .int n2] S sz (pI po) Ex) (hex : ∀ E, Ex E → E = xI ∨ E = xA) : kMw l g e0 yL_setCutOff cL_setCutOff 5 [(0, 10, 13, 21), (0, 10, 17, 13)] 8 126 2 12 [.ref x, .int n1, .int n2, .ref o] S O sz (fun r S1 O1 => (r = 0 ∧ ∃ v, po v S1 ∧ O1 = setJ O o v.toInt64) ∨ (r = 1 ∧ Ex xI ∧ S1 = S ∧ O1 = O) ∨ (r = 2 ∧ Ex xA ∧ S1 = S ∧ O1 = O)) := by
  refine kMw.of (by decide) (Nat.le_of_ble_eq_true rfl) ?_
  intro p e s m below meth c ls B
  obtain ⟨F, hr, hlk, ht, hP, hO, hK, hD, hDO, hdis, hE, hNc, hS, hA, hl, hsz⟩ := B
  subst hsz
  have hx := F.1
  have hb := F.2.1
  have hl : lv_has ls 5 [(0, .ref x), (1, .int n1), (2, .int n2), (3, .ref o)] := hl
  refine lv_aload_n hx hb dL_setCutOff_0 rfl (lv_at hl 3 rfl) ?_
  refine lv_iconst (v := 0) hx hb dL_setCutOff_1 (by decide) ?_
  refine lv_aload_n hx hb dL_setCutOff_2 rfl (lv_at hl 0 rfl) ?_
  refine lv_iload_n hx hb dL_setCutOff_3 rfl (lv_at hl 1 rfl) ?_
  refine lv_iload_n hx hb dL_setCutOff_4 rfl (lv_at hl 2 rfl) ?_
  refine kcallWI (kV (n := 2) (As := [.int n1, .int n2]) (rest := [.int 0, .ref o]) (b := x) (C := RX5) F hE hK hP hD hS hA hM (rr_Pickwave hK hP hx0) kw_539 kw_540 kw_541 kw_2 kw_542 (by decide +kernel) ⟨Nat.le_of_ble_eq_true rfl, Nat.le_of_ble_eq_true rfl⟩ rfl hl.1 rfl (Nat.le_of_ble_eq_true rfl) dL_setCutOff_5 ⟨Nat.le_of_ble_eq_true rfl, Nat.le_of_ble_eq_true rfl⟩) rfl hD hS hA (fun E ce q9 H1 locs1 hex1 hP1 _ hf1 hS1 hce hcv hcl => ?_) (fun r S1 H1 locs1 hp hP1 hD1 hDA _ hf1 hS1 => ?_)
  · have hO1 := kO_keep hO hdis hf1
    rcases hex E hex1 with rfl | rfl
    · refine vx_catch (name := "java/lang/IndexOutOfBoundsException") F.2.2.2.1 [] ⟨0, 10, 13, 21⟩ [⟨0, 10, 17, 13⟩] (ht.trans rfl) (fun z hz => by cases hz) rfl (by decide) (F.2.2.2.2 _ kw_190) (va_any rfl (hE.2.2.2.2.2.2.2.2.2.2.2.2.2.2.2.2 _ (List.mem_of_getElem? (i := 2) rfl))) hce hcv hcl ?_
      refine lv_astore (lv' := [(4, .ref q9), (0, .ref x), (1, .int n1), (2, .int n2), (3, .ref o)]) hx hb dL_setCutOff_13 hl (by decide) rfl (fun ls hl => ?_)
      refine lv_iconst (v := 1) hx hb dL_setCutOff_15 (by decide) ?_
      exact kEndW F hr hlk hP1 hO1 hD hDO hdis hS1 (Nat.le_of_ble_eq_true rfl) (Nat.le_of_ble_eq_true rfl) dL_setCutOff_16 (Or.inr (Or.inl ⟨rfl, hex1, rfl, rfl⟩))
    · refine vx_catch (name := "java/lang/IllegalArgumentException") F.2.2.2.1 [⟨0, 10, 13, 21⟩] ⟨0, 10, 17, 13⟩ [] (ht.trans rfl) (fun z hz => by rcases List.mem_cons.mp hz with rfl | hz; exact Or.inr ⟨by decide, "java/lang/IndexOutOfBoundsException", F.2.2.2.2 _ kw_190, hNc _ (List.mem_of_getElem? (i := 0) rfl)⟩; exact absurd hz List.not_mem_nil) rfl (by decide) (F.2.2.2.2 _ kw_89) (va_any rfl (hE.2.2.2.2.2.2.2.2.2.2.2.2.2.2.2.2 _ (List.mem_of_getElem? (i := 0) rfl))) hce hcv hcl ?_
      refine lv_astore (lv' := [(4, .ref q9), (0, .ref x), (1, .int n1), (2, .int n2), (3, .ref o)]) hx hb dL_setCutOff_17 hl (by decide) rfl (fun ls hl => ?_)
      refine lv_iconst (v := 2) hx hb dL_setCutOff_19 (by decide) ?_
      exact kEndW F hr hlk hP1 hO1 hD hDO hdis hS1 (Nat.le_of_ble_eq_true rfl) (Nat.le_of_ble_eq_true rfl) dL_setCutOff_20 (Or.inr (Or.inr (⟨rfl, hex1, rfl, rfl⟩)))
  · have hO1 := kO_keep hO hdis hf1
    have hdis1 := kdis_keep hO hdis hD1
    refine lv_i2l (v := r.toInt64) hx hb dL_setCutOff_8 rfl ?_
    refine rt2_J F hK hP1 hO1 hDA hDO hdis1 hS1 ho hN dL_setCutOff_9 (fun H2 locs2 hP2 hO2 hDO2 hS2 => ?_)
    refine lv_goto (tgt := 21) hx hb dL_setCutOff_10 (by decide) ?_
    refine lv_iconst (v := 0) hx hb dL_setCutOff_21 (by decide) ?_
    exact kEndW F hr hlk hP2 hO2 hDA hDO2 hdis1 hS2 (Nat.le_of_ble_eq_true rfl) (Nat.le_of_ble_eq_true rfl) dL_setCutOff_22 (Or.inl ⟨rfl, r, hp, rfl⟩)
theorem dL_setPickers_0 : decode cL_setPickers 0 = .ok (.aload_n 3, 1) := by decide +kernel
theorem dL_setPickers_1 : decode cL_setPickers 1 = .ok (.iconst 0, 1) := by decide +kernel
theorem dL_setPickers_2 : decode cL_setPickers 2 = .ok (.aload_n 0, 1) := by decide +kernel
theorem dL_setPickers_3 : decode cL_setPickers 3 = .ok (.iload_n 1, 1) := by decide +kernel
theorem dL_setPickers_4 : decode cL_setPickers 4 = .ok (.iload_n 2, 1) := by decide +kernel
theorem dL_setPickers_5 : decode cL_setPickers 5 = .ok (.invokevirtual 39, 3) := by decide +kernel
theorem dL_setPickers_8 : decode cL_setPickers 8 = .ok (.i2l, 1) := by decide +kernel
theorem dL_setPickers_9 : decode cL_setPickers 9 = .ok (.lastore, 1) := by decide +kernel
theorem dL_setPickers_10 : decode cL_setPickers 10 = .ok (.goto 11, 3) := by decide +kernel
theorem dL_setPickers_13 : decode cL_setPickers 13 = .ok (.astore 4, 2) := by decide +kernel
theorem dL_setPickers_15 : decode cL_setPickers 15 = .ok (.iconst 1, 1) := by decide +kernel
theorem dL_setPickers_16 : decode cL_setPickers 16 = .ok (.ireturn, 1) := by decide +kernel
theorem dL_setPickers_17 : decode cL_setPickers 17 = .ok (.astore 4, 2) := by decide +kernel
theorem dL_setPickers_19 : decode cL_setPickers 19 = .ok (.iconst 2, 1) := by decide +kernel
theorem dL_setPickers_20 : decode cL_setPickers 20 = .ok (.ireturn, 1) := by decide +kernel
theorem dL_setPickers_21 : decode cL_setPickers 21 = .ok (.iconst 0, 1) := by decide +kernel
theorem dL_setPickers_22 : decode cL_setPickers 22 = .ok (.ireturn, 1) := by decide +kernel
set_option maxHeartbeats 4000000 in
set_option maxRecDepth 100000 in
theorem kw_setPickers_ (l : Launch) (g : kG) (e0 : Nat) (S O : wPS) (sz x o : Nat) (n1 n2 : Int32) (po : Int32 → wPS → Prop) (Ex : String → Prop) (hx0 : Ob S 5 x) (ho : Ob O 14 o) (hN : pN O o = 1) (hM : kM l g e0 yX5_setPickers cX5_setPickers 5 (some .int) 7 103 2 12 [.ref x, .int n1, .int n2] S sz (pI po) Ex) (hex : ∀ E, Ex E → E = xI ∨ E = xA) : kMw l g e0 yL_setPickers cL_setPickers 5 [(0, 10, 13, 21), (0, 10, 17, 13)] 8 127 2 12 [.ref x, .int n1, .int n2, .ref o] S O sz (fun r S1 O1 => (r = 0 ∧ ∃ v, po v S1 ∧ O1 = setJ O o v.toInt64) ∨ (r = 1 ∧ Ex xI ∧ S1 = S ∧ O1 = O) ∨ (r = 2 ∧ Ex xA ∧ S1 = S ∧ O1 = O)) := by
  refine kMw.of (by decide) (Nat.le_of_ble_eq_true rfl) ?_
  intro p e s m below meth c ls B
  obtain ⟨F, hr, hlk, ht, hP, hO, hK, hD, hDO, hdis, hE, hNc, hS, hA, hl, hsz⟩ := B
  subst hsz
  have hx := F.1
  have hb := F.2.1
  have hl : lv_has ls 5 [(0, .ref x), (1, .int n1), (2, .int n2), (3, .ref o)] := hl
  refine lv_aload_n hx hb dL_setPickers_0 rfl (lv_at hl 3 rfl) ?_
  refine lv_iconst (v := 0) hx hb dL_setPickers_1 (by decide) ?_
  refine lv_aload_n hx hb dL_setPickers_2 rfl (lv_at hl 0 rfl) ?_
  refine lv_iload_n hx hb dL_setPickers_3 rfl (lv_at hl 1 rfl) ?_
  refine lv_iload_n hx hb dL_setPickers_4 rfl (lv_at hl 2 rfl) ?_
  refine kcallWI (kV (n := 2) (As := [.int n1, .int n2]) (rest := [.int 0, .ref o]) (b := x) (C := RX5) F hE hK hP hD hS hA hM (rr_Pickwave hK hP hx0) kw_351 kw_352 kw_353 kw_2 kw_354 (by decide +kernel) ⟨Nat.le_of_ble_eq_true rfl, Nat.le_of_ble_eq_true rfl⟩ rfl hl.1 rfl (Nat.le_of_ble_eq_true rfl) dL_setPickers_5 ⟨Nat.le_of_ble_eq_true rfl, Nat.le_of_ble_eq_true rfl⟩) rfl hD hS hA (fun E ce q9 H1 locs1 hex1 hP1 _ hf1 hS1 hce hcv hcl => ?_) (fun r S1 H1 locs1 hp hP1 hD1 hDA _ hf1 hS1 => ?_)
  · have hO1 := kO_keep hO hdis hf1
    rcases hex E hex1 with rfl | rfl
    · refine vx_catch (name := "java/lang/IndexOutOfBoundsException") F.2.2.2.1 [] ⟨0, 10, 13, 21⟩ [⟨0, 10, 17, 13⟩] (ht.trans rfl) (fun z hz => by cases hz) rfl (by decide) (F.2.2.2.2 _ kw_190) (va_any rfl (hE.2.2.2.2.2.2.2.2.2.2.2.2.2.2.2.2 _ (List.mem_of_getElem? (i := 2) rfl))) hce hcv hcl ?_
      refine lv_astore (lv' := [(4, .ref q9), (0, .ref x), (1, .int n1), (2, .int n2), (3, .ref o)]) hx hb dL_setPickers_13 hl (by decide) rfl (fun ls hl => ?_)
      refine lv_iconst (v := 1) hx hb dL_setPickers_15 (by decide) ?_
      exact kEndW F hr hlk hP1 hO1 hD hDO hdis hS1 (Nat.le_of_ble_eq_true rfl) (Nat.le_of_ble_eq_true rfl) dL_setPickers_16 (Or.inr (Or.inl ⟨rfl, hex1, rfl, rfl⟩))
    · refine vx_catch (name := "java/lang/IllegalArgumentException") F.2.2.2.1 [⟨0, 10, 13, 21⟩] ⟨0, 10, 17, 13⟩ [] (ht.trans rfl) (fun z hz => by rcases List.mem_cons.mp hz with rfl | hz; exact Or.inr ⟨by decide, "java/lang/IndexOutOfBoundsException", F.2.2.2.2 _ kw_190, hNc _ (List.mem_of_getElem? (i := 0) rfl)⟩; exact absurd hz List.not_mem_nil) rfl (by decide) (F.2.2.2.2 _ kw_89) (va_any rfl (hE.2.2.2.2.2.2.2.2.2.2.2.2.2.2.2.2 _ (List.mem_of_getElem? (i := 0) rfl))) hce hcv hcl ?_
      refine lv_astore (lv' := [(4, .ref q9), (0, .ref x), (1, .int n1), (2, .int n2), (3, .ref o)]) hx hb dL_setPickers_17 hl (by decide) rfl (fun ls hl => ?_)
      refine lv_iconst (v := 2) hx hb dL_setPickers_19 (by decide) ?_
      exact kEndW F hr hlk hP1 hO1 hD hDO hdis hS1 (Nat.le_of_ble_eq_true rfl) (Nat.le_of_ble_eq_true rfl) dL_setPickers_20 (Or.inr (Or.inr (⟨rfl, hex1, rfl, rfl⟩)))
  · have hO1 := kO_keep hO hdis hf1
    have hdis1 := kdis_keep hO hdis hD1
    refine lv_i2l (v := r.toInt64) hx hb dL_setPickers_8 rfl ?_
    refine rt2_J F hK hP1 hO1 hDA hDO hdis1 hS1 ho hN dL_setPickers_9 (fun H2 locs2 hP2 hO2 hDO2 hS2 => ?_)
    refine lv_goto (tgt := 21) hx hb dL_setPickers_10 (by decide) ?_
    refine lv_iconst (v := 0) hx hb dL_setPickers_21 (by decide) ?_
    exact kEndW F hr hlk hP2 hO2 hDA hDO2 hdis1 hS2 (Nat.le_of_ble_eq_true rfl) (Nat.le_of_ble_eq_true rfl) dL_setPickers_22 (Or.inl ⟨rfl, r, hp, rfl⟩)
theorem dL_ship_0 : decode cL_ship 0 = .ok (.aload_n 2, 1) := by decide +kernel
theorem dL_ship_1 : decode cL_ship 1 = .ok (.iconst 0, 1) := by decide +kernel
theorem dL_ship_2 : decode cL_ship 2 = .ok (.aload_n 0, 1) := by decide +kernel
theorem dL_ship_3 : decode cL_ship 3 = .ok (.iload_n 1, 1) := by decide +kernel
theorem dL_ship_4 : decode cL_ship 4 = .ok (.invokevirtual 68, 3) := by decide +kernel
theorem dL_ship_7 : decode cL_ship 7 = .ok (.i2l, 1) := by decide +kernel
theorem dL_ship_8 : decode cL_ship 8 = .ok (.lastore, 1) := by decide +kernel
theorem dL_ship_9 : decode cL_ship 9 = .ok (.goto 6, 3) := by decide +kernel
theorem dL_ship_12 : decode cL_ship 12 = .ok (.astore_n 3, 1) := by decide +kernel
theorem dL_ship_13 : decode cL_ship 13 = .ok (.iconst 1, 1) := by decide +kernel
theorem dL_ship_14 : decode cL_ship 14 = .ok (.ireturn, 1) := by decide +kernel
theorem dL_ship_15 : decode cL_ship 15 = .ok (.iconst 0, 1) := by decide +kernel
theorem dL_ship_16 : decode cL_ship 16 = .ok (.ireturn, 1) := by decide +kernel
set_option maxHeartbeats 4000000 in
set_option maxRecDepth 100000 in
theorem kw_ship_ (l : Launch) (g : kG) (e0 : Nat) (S O : wPS) (sz x o : Nat) (n1 : Int32) (po : Int32 → wPS → Prop) (Ex : String → Prop) (hx0 : Ob S 5 x) (ho : Ob O 14 o) (hN : pN O o = 1) (hM : kM l g e0 yX5_ship cX5_ship 5 (some .int) 7 103 1 6 [.ref x, .int n1] S sz (pI po) Ex) (hex : ∀ E, Ex E → E = xI) : kMw l g e0 yL_ship cL_ship 4 [(0, 9, 12, 21)] 8 127 1 6 [.ref x, .int n1, .ref o] S O sz (fun r S1 O1 => (r = 0 ∧ ∃ v, po v S1 ∧ O1 = setJ O o v.toInt64) ∨ (r = 1 ∧ Ex xI ∧ S1 = S ∧ O1 = O)) := by
  refine kMw.of (by decide) (Nat.le_of_ble_eq_true rfl) ?_
  intro p e s m below meth c ls B
  obtain ⟨F, hr, hlk, ht, hP, hO, hK, hD, hDO, hdis, hE, hNc, hS, hA, hl, hsz⟩ := B
  subst hsz
  have hx := F.1
  have hb := F.2.1
  have hl : lv_has ls 4 [(0, .ref x), (1, .int n1), (2, .ref o)] := hl
  refine lv_aload_n hx hb dL_ship_0 rfl (lv_at hl 2 rfl) ?_
  refine lv_iconst (v := 0) hx hb dL_ship_1 (by decide) ?_
  refine lv_aload_n hx hb dL_ship_2 rfl (lv_at hl 0 rfl) ?_
  refine lv_iload_n hx hb dL_ship_3 rfl (lv_at hl 1 rfl) ?_
  refine kcallWI (kV (n := 1) (As := [.int n1]) (rest := [.int 0, .ref o]) (b := x) (C := RX5) F hE hK hP hD hS hA hM (rr_Pickwave hK hP hx0) kw_519 kw_520 kw_521 kw_2 kw_522 (by decide +kernel) ⟨Nat.le_of_ble_eq_true rfl, Nat.le_of_ble_eq_true rfl⟩ rfl hl.1 rfl (Nat.le_of_ble_eq_true rfl) dL_ship_4 ⟨Nat.le_of_ble_eq_true rfl, Nat.le_of_ble_eq_true rfl⟩) rfl hD hS hA (fun E ce q9 H1 locs1 hex1 hP1 _ hf1 hS1 hce hcv hcl => ?_) (fun r S1 H1 locs1 hp hP1 hD1 hDA _ hf1 hS1 => ?_)
  · have hO1 := kO_keep hO hdis hf1
    obtain rfl := hex E hex1
    refine vx_catch (name := "java/lang/IndexOutOfBoundsException") F.2.2.2.1 [] ⟨0, 9, 12, 21⟩ [] (ht.trans rfl) (fun z hz => by cases hz) rfl (by decide) (F.2.2.2.2 _ kw_190) (va_any rfl (hE.2.2.2.2.2.2.2.2.2.2.2.2.2.2.2.2 _ (List.mem_of_getElem? (i := 2) rfl))) hce hcv hcl ?_
    refine lv_astore_n (lv' := [(3, .ref q9), (0, .ref x), (1, .int n1), (2, .ref o)]) hx hb dL_ship_12 rfl hl (by decide) rfl (fun ls hl => ?_)
    refine lv_iconst (v := 1) hx hb dL_ship_13 (by decide) ?_
    exact kEndW F hr hlk hP1 hO1 hD hDO hdis hS1 (Nat.le_of_ble_eq_true rfl) (Nat.le_of_ble_eq_true rfl) dL_ship_14 (Or.inr (⟨rfl, hex1, rfl, rfl⟩))
  · have hO1 := kO_keep hO hdis hf1
    have hdis1 := kdis_keep hO hdis hD1
    refine lv_i2l (v := r.toInt64) hx hb dL_ship_7 rfl ?_
    refine rt2_J F hK hP1 hO1 hDA hDO hdis1 hS1 ho hN dL_ship_8 (fun H2 locs2 hP2 hO2 hDO2 hS2 => ?_)
    refine lv_goto (tgt := 15) hx hb dL_ship_9 (by decide) ?_
    refine lv_iconst (v := 0) hx hb dL_ship_15 (by decide) ?_
    exact kEndW F hr hlk hP2 hO2 hDA hDO2 hdis1 hS2 (Nat.le_of_ble_eq_true rfl) (Nat.le_of_ble_eq_true rfl) dL_ship_16 (Or.inl ⟨rfl, r, hp, rfl⟩)
theorem dL_shippedShare_0 : decode cL_shippedShare 0 = .ok (.aload_n 1, 1) := by decide +kernel
theorem dL_shippedShare_1 : decode cL_shippedShare 1 = .ok (.iconst 0, 1) := by decide +kernel
theorem dL_shippedShare_2 : decode cL_shippedShare 2 = .ok (.aload_n 0, 1) := by decide +kernel
theorem dL_shippedShare_3 : decode cL_shippedShare 3 = .ok (.invokevirtual 106, 3) := by decide +kernel
theorem dL_shippedShare_6 : decode cL_shippedShare 6 = .ok (.f2d, 1) := by decide +kernel
theorem dL_shippedShare_7 : decode cL_shippedShare 7 = .ok (.dastore, 1) := by decide +kernel
theorem dL_shippedShare_8 : decode cL_shippedShare 8 = .ok (.goto 6, 3) := by decide +kernel
theorem dL_shippedShare_11 : decode cL_shippedShare 11 = .ok (.astore_n 2, 1) := by decide +kernel
theorem dL_shippedShare_12 : decode cL_shippedShare 12 = .ok (.iconst 1, 1) := by decide +kernel
theorem dL_shippedShare_13 : decode cL_shippedShare 13 = .ok (.ireturn, 1) := by decide +kernel
theorem dL_shippedShare_14 : decode cL_shippedShare 14 = .ok (.iconst 0, 1) := by decide +kernel
theorem dL_shippedShare_15 : decode cL_shippedShare 15 = .ok (.ireturn, 1) := by decide +kernel
set_option maxHeartbeats 4000000 in
set_option maxRecDepth 100000 in
theorem kw_shippedShare_ (l : Launch) (g : kG) (e0 : Nat) (S O : wPS) (sz x o : Nat) (po : UInt32 → wPS → Prop) (Ex : String → Prop) (hx0 : Ob S 5 x) (ho : Ob O 15 o) (hN : pN O o = 1) (hM : kM l g e0 yX5_shippedShare cX5_shippedShare 4 (some .float) 6 82 1 6 [.ref x] S sz (pFl po) Ex) (hex : ∀ E, Ex E → E = xN) (hne : ∀ v T, po v T → vf_n64 (FP.f2d v)) : kMw l g e0 yL_shippedShare cL_shippedShare 3 [(0, 8, 11, 80)] 7 105 1 6 [.ref x, .ref o] S O sz (fun r S1 O1 => (r = 0 ∧ ∃ v, po v S1 ∧ O1 = setJ O o (FP.f2d v).toInt64) ∨ (r = 1 ∧ Ex xN ∧ S1 = S ∧ O1 = O)) := by
  refine kMw.of (by decide) (Nat.le_of_ble_eq_true rfl) ?_
  intro p e s m below meth c ls B
  obtain ⟨F, hr, hlk, ht, hP, hO, hK, hD, hDO, hdis, hE, hNc, hS, hA, hl, hsz⟩ := B
  subst hsz
  have hx := F.1
  have hb := F.2.1
  have hl : lv_has ls 3 [(0, .ref x), (1, .ref o)] := hl
  refine lv_aload_n hx hb dL_shippedShare_0 rfl (lv_at hl 1 rfl) ?_
  refine lv_iconst (v := 0) hx hb dL_shippedShare_1 (by decide) ?_
  refine lv_aload_n hx hb dL_shippedShare_2 rfl (lv_at hl 0 rfl) ?_
  refine kcallWF (kV (n := 0) (As := []) (rest := [.int 0, .ref o]) (b := x) (C := RX5) F hE hK hP hD hS hA hM (rr_Pickwave hK hP hx0) kw_738 kw_739 kw_740 kw_2 kw_741 (by decide +kernel) ⟨Nat.le_of_ble_eq_true rfl, Nat.le_of_ble_eq_true rfl⟩ rfl hl.1 rfl (Nat.le_of_ble_eq_true rfl) dL_shippedShare_3 ⟨Nat.le_of_ble_eq_true rfl, Nat.le_of_ble_eq_true rfl⟩) rfl hD hS hA (fun E ce q9 H1 locs1 hex1 hP1 _ hf1 hS1 hce hcv hcl => ?_) (fun r S1 H1 locs1 hp hP1 hD1 hDA _ hf1 hS1 => ?_)
  · have hO1 := kO_keep hO hdis hf1
    obtain rfl := hex E hex1
    refine vx_catch (name := "java/util/NoSuchElementException") F.2.2.2.1 [] ⟨0, 8, 11, 80⟩ [] (ht.trans rfl) (fun z hz => by cases hz) rfl (by decide) (F.2.2.2.2 _ kw_573) (va_any rfl (hE.2.2.2.2.2.2.2.2.2.2.2.2.2.2.2.2 _ (List.mem_of_getElem? (i := 4) rfl))) hce hcv hcl ?_
    refine lv_astore_n (lv' := [(2, .ref q9), (0, .ref x), (1, .ref o)]) hx hb dL_shippedShare_11 rfl hl (by decide) rfl (fun ls hl => ?_)
    refine lv_iconst (v := 1) hx hb dL_shippedShare_12 (by decide) ?_
    exact kEndW F hr hlk hP1 hO1 hD hDO hdis hS1 (Nat.le_of_ble_eq_true rfl) (Nat.le_of_ble_eq_true rfl) dL_shippedShare_13 (Or.inr (⟨rfl, hex1, rfl, rfl⟩))
  · have hO1 := kO_keep hO hdis hf1
    have hdis1 := kdis_keep hO hdis hD1
    refine lv_f2d hx hb dL_shippedShare_6 (hne r S1 hp) ?_
    refine rt2_D F hK hP1 hO1 hDA hDO hdis1 hS1 ho hN dL_shippedShare_7 (fun H2 locs2 hP2 hO2 hDO2 hS2 => ?_)
    refine lv_goto (tgt := 14) hx hb dL_shippedShare_8 (by decide) ?_
    refine lv_iconst (v := 0) hx hb dL_shippedShare_14 (by decide) ?_
    exact kEndW F hr hlk hP2 hO2 hDA hDO2 hdis1 hS2 (Nat.le_of_ble_eq_true rfl) (Nat.le_of_ble_eq_true rfl) dL_shippedShare_15 (Or.inl ⟨rfl, r, hp, rfl⟩)
theorem dL_state_0 : decode cL_state 0 = .ok (.aload_n 2, 1) := by decide +kernel
theorem dL_state_1 : decode cL_state 1 = .ok (.iconst 0, 1) := by decide +kernel
theorem dL_state_2 : decode cL_state 2 = .ok (.aload_n 0, 1) := by decide +kernel
theorem dL_state_3 : decode cL_state 3 = .ok (.iload_n 1, 1) := by decide +kernel
theorem dL_state_4 : decode cL_state 4 = .ok (.invokevirtual 53, 3) := by decide +kernel
theorem dL_state_7 : decode cL_state 7 = .ok (.i2l, 1) := by decide +kernel
theorem dL_state_8 : decode cL_state 8 = .ok (.lastore, 1) := by decide +kernel
theorem dL_state_9 : decode cL_state 9 = .ok (.goto 6, 3) := by decide +kernel
theorem dL_state_12 : decode cL_state 12 = .ok (.astore_n 3, 1) := by decide +kernel
theorem dL_state_13 : decode cL_state 13 = .ok (.iconst 1, 1) := by decide +kernel
theorem dL_state_14 : decode cL_state 14 = .ok (.ireturn, 1) := by decide +kernel
theorem dL_state_15 : decode cL_state 15 = .ok (.iconst 0, 1) := by decide +kernel
theorem dL_state_16 : decode cL_state 16 = .ok (.ireturn, 1) := by decide +kernel
set_option maxHeartbeats 4000000 in
set_option maxRecDepth 100000 in
theorem kw_state_ (l : Launch) (g : kG) (e0 : Nat) (S O : wPS) (sz x o : Nat) (n1 : Int32) (po : Int32 → wPS → Prop) (Ex : String → Prop) (hx0 : Ob S 5 x) (ho : Ob O 14 o) (hN : pN O o = 1) (hM : kM l g e0 yX5_state cX5_state 2 (some .char) 7 103 1 6 [.ref x, .int n1] S sz (pI po) Ex) (hex : ∀ E, Ex E → E = xI) : kMw l g e0 yL_state cL_state 4 [(0, 9, 12, 21)] 8 124 1 6 [.ref x, .int n1, .ref o] S O sz (fun r S1 O1 => (r = 0 ∧ ∃ v, po v S1 ∧ O1 = setJ O o v.toInt64) ∨ (r = 1 ∧ Ex xI ∧ S1 = S ∧ O1 = O)) := by
  refine kMw.of (by decide) (Nat.le_of_ble_eq_true rfl) ?_
  intro p e s m below meth c ls B
  obtain ⟨F, hr, hlk, ht, hP, hO, hK, hD, hDO, hdis, hE, hNc, hS, hA, hl, hsz⟩ := B
  subst hsz
  have hx := F.1
  have hb := F.2.1
  have hl : lv_has ls 4 [(0, .ref x), (1, .int n1), (2, .ref o)] := hl
  refine lv_aload_n hx hb dL_state_0 rfl (lv_at hl 2 rfl) ?_
  refine lv_iconst (v := 0) hx hb dL_state_1 (by decide) ?_
  refine lv_aload_n hx hb dL_state_2 rfl (lv_at hl 0 rfl) ?_
  refine lv_iload_n hx hb dL_state_3 rfl (lv_at hl 1 rfl) ?_
  refine kcallWI (kV (n := 1) (As := [.int n1]) (rest := [.int 0, .ref o]) (b := x) (C := RX5) F hE hK hP hD hS hA hM (rr_Pickwave hK hP hx0) kw_454 kw_455 kw_456 kw_2 kw_457 (by decide +kernel) ⟨Nat.le_of_ble_eq_true rfl, Nat.le_of_ble_eq_true rfl⟩ rfl hl.1 rfl (Nat.le_of_ble_eq_true rfl) dL_state_4 ⟨Nat.le_of_ble_eq_true rfl, Nat.le_of_ble_eq_true rfl⟩) rfl hD hS hA (fun E ce q9 H1 locs1 hex1 hP1 _ hf1 hS1 hce hcv hcl => ?_) (fun r S1 H1 locs1 hp hP1 hD1 hDA _ hf1 hS1 => ?_)
  · have hO1 := kO_keep hO hdis hf1
    obtain rfl := hex E hex1
    refine vx_catch (name := "java/lang/IndexOutOfBoundsException") F.2.2.2.1 [] ⟨0, 9, 12, 21⟩ [] (ht.trans rfl) (fun z hz => by cases hz) rfl (by decide) (F.2.2.2.2 _ kw_190) (va_any rfl (hE.2.2.2.2.2.2.2.2.2.2.2.2.2.2.2.2 _ (List.mem_of_getElem? (i := 2) rfl))) hce hcv hcl ?_
    refine lv_astore_n (lv' := [(3, .ref q9), (0, .ref x), (1, .int n1), (2, .ref o)]) hx hb dL_state_12 rfl hl (by decide) rfl (fun ls hl => ?_)
    refine lv_iconst (v := 1) hx hb dL_state_13 (by decide) ?_
    exact kEndW F hr hlk hP1 hO1 hD hDO hdis hS1 (Nat.le_of_ble_eq_true rfl) (Nat.le_of_ble_eq_true rfl) dL_state_14 (Or.inr (⟨rfl, hex1, rfl, rfl⟩))
  · have hO1 := kO_keep hO hdis hf1
    have hdis1 := kdis_keep hO hdis hD1
    refine lv_i2l (v := r.toInt64) hx hb dL_state_7 rfl ?_
    refine rt2_J F hK hP1 hO1 hDA hDO hdis1 hS1 ho hN dL_state_8 (fun H2 locs2 hP2 hO2 hDO2 hS2 => ?_)
    refine lv_goto (tgt := 15) hx hb dL_state_9 (by decide) ?_
    refine lv_iconst (v := 0) hx hb dL_state_15 (by decide) ?_
    exact kEndW F hr hlk hP2 hO2 hDA hDO2 hdis1 hS2 (Nat.le_of_ble_eq_true rfl) (Nat.le_of_ble_eq_true rfl) dL_state_16 (Or.inl ⟨rfl, r, hp, rfl⟩)
theorem dL_stateByScans_0 : decode cL_stateByScans 0 = .ok (.aload_n 2, 1) := by decide +kernel
theorem dL_stateByScans_1 : decode cL_stateByScans 1 = .ok (.iconst 0, 1) := by decide +kernel
theorem dL_stateByScans_2 : decode cL_stateByScans 2 = .ok (.aload_n 0, 1) := by decide +kernel
theorem dL_stateByScans_3 : decode cL_stateByScans 3 = .ok (.iload_n 1, 1) := by decide +kernel
theorem dL_stateByScans_4 : decode cL_stateByScans 4 = .ok (.invokevirtual 57, 3) := by decide +kernel
theorem dL_stateByScans_7 : decode cL_stateByScans 7 = .ok (.i2l, 1) := by decide +kernel
theorem dL_stateByScans_8 : decode cL_stateByScans 8 = .ok (.lastore, 1) := by decide +kernel
theorem dL_stateByScans_9 : decode cL_stateByScans 9 = .ok (.goto 6, 3) := by decide +kernel
theorem dL_stateByScans_12 : decode cL_stateByScans 12 = .ok (.astore_n 3, 1) := by decide +kernel
theorem dL_stateByScans_13 : decode cL_stateByScans 13 = .ok (.iconst 1, 1) := by decide +kernel
theorem dL_stateByScans_14 : decode cL_stateByScans 14 = .ok (.ireturn, 1) := by decide +kernel
theorem dL_stateByScans_15 : decode cL_stateByScans 15 = .ok (.iconst 0, 1) := by decide +kernel
theorem dL_stateByScans_16 : decode cL_stateByScans 16 = .ok (.ireturn, 1) := by decide +kernel
set_option maxHeartbeats 4000000 in
set_option maxRecDepth 100000 in
theorem kw_stateByScans_ (l : Launch) (g : kG) (e0 : Nat) (S O : wPS) (sz x o : Nat) (n1 : Int32) (po : Int32 → wPS → Prop) (Ex : String → Prop) (hx0 : Ob S 5 x) (ho : Ob O 14 o) (hN : pN O o = 1) (hM : kM l g e0 yX5_stateByScans cX5_stateByScans 2 (some .char) 7 103 1 6 [.ref x, .int n1] S sz (pI po) Ex) (hex : ∀ E, Ex E → E = xI) : kMw l g e0 yL_stateByScans cL_stateByScans 4 [(0, 9, 12, 21)] 8 124 1 6 [.ref x, .int n1, .ref o] S O sz (fun r S1 O1 => (r = 0 ∧ ∃ v, po v S1 ∧ O1 = setJ O o v.toInt64) ∨ (r = 1 ∧ Ex xI ∧ S1 = S ∧ O1 = O)) := by
  refine kMw.of (by decide) (Nat.le_of_ble_eq_true rfl) ?_
  intro p e s m below meth c ls B
  obtain ⟨F, hr, hlk, ht, hP, hO, hK, hD, hDO, hdis, hE, hNc, hS, hA, hl, hsz⟩ := B
  subst hsz
  have hx := F.1
  have hb := F.2.1
  have hl : lv_has ls 4 [(0, .ref x), (1, .int n1), (2, .ref o)] := hl
  refine lv_aload_n hx hb dL_stateByScans_0 rfl (lv_at hl 2 rfl) ?_
  refine lv_iconst (v := 0) hx hb dL_stateByScans_1 (by decide) ?_
  refine lv_aload_n hx hb dL_stateByScans_2 rfl (lv_at hl 0 rfl) ?_
  refine lv_iload_n hx hb dL_stateByScans_3 rfl (lv_at hl 1 rfl) ?_
  refine kcallWI (kV (n := 1) (As := [.int n1]) (rest := [.int 0, .ref o]) (b := x) (C := RX5) F hE hK hP hD hS hA hM (rr_Pickwave hK hP hx0) kw_465 kw_466 kw_467 kw_2 kw_468 (by decide +kernel) ⟨Nat.le_of_ble_eq_true rfl, Nat.le_of_ble_eq_true rfl⟩ rfl hl.1 rfl (Nat.le_of_ble_eq_true rfl) dL_stateByScans_4 ⟨Nat.le_of_ble_eq_true rfl, Nat.le_of_ble_eq_true rfl⟩) rfl hD hS hA (fun E ce q9 H1 locs1 hex1 hP1 _ hf1 hS1 hce hcv hcl => ?_) (fun r S1 H1 locs1 hp hP1 hD1 hDA _ hf1 hS1 => ?_)
  · have hO1 := kO_keep hO hdis hf1
    obtain rfl := hex E hex1
    refine vx_catch (name := "java/lang/IndexOutOfBoundsException") F.2.2.2.1 [] ⟨0, 9, 12, 21⟩ [] (ht.trans rfl) (fun z hz => by cases hz) rfl (by decide) (F.2.2.2.2 _ kw_190) (va_any rfl (hE.2.2.2.2.2.2.2.2.2.2.2.2.2.2.2.2 _ (List.mem_of_getElem? (i := 2) rfl))) hce hcv hcl ?_
    refine lv_astore_n (lv' := [(3, .ref q9), (0, .ref x), (1, .int n1), (2, .ref o)]) hx hb dL_stateByScans_12 rfl hl (by decide) rfl (fun ls hl => ?_)
    refine lv_iconst (v := 1) hx hb dL_stateByScans_13 (by decide) ?_
    exact kEndW F hr hlk hP1 hO1 hD hDO hdis hS1 (Nat.le_of_ble_eq_true rfl) (Nat.le_of_ble_eq_true rfl) dL_stateByScans_14 (Or.inr (⟨rfl, hex1, rfl, rfl⟩))
  · have hO1 := kO_keep hO hdis hf1
    have hdis1 := kdis_keep hO hdis hD1
    refine lv_i2l (v := r.toInt64) hx hb dL_stateByScans_7 rfl ?_
    refine rt2_J F hK hP1 hO1 hDA hDO hdis1 hS1 ho hN dL_stateByScans_8 (fun H2 locs2 hP2 hO2 hDO2 hS2 => ?_)
    refine lv_goto (tgt := 15) hx hb dL_stateByScans_9 (by decide) ?_
    refine lv_iconst (v := 0) hx hb dL_stateByScans_15 (by decide) ?_
    exact kEndW F hr hlk hP2 hO2 hDA hDO2 hdis1 hS2 (Nat.le_of_ble_eq_true rfl) (Nat.le_of_ble_eq_true rfl) dL_stateByScans_16 (Or.inl ⟨rfl, r, hp, rfl⟩)
theorem dL_stock_0 : decode cL_stock 0 = .ok (.aload_n 2, 1) := by decide +kernel
theorem dL_stock_1 : decode cL_stock 1 = .ok (.iconst 0, 1) := by decide +kernel
theorem dL_stock_2 : decode cL_stock 2 = .ok (.aload_n 0, 1) := by decide +kernel
theorem dL_stock_3 : decode cL_stock 3 = .ok (.iload_n 1, 1) := by decide +kernel
theorem dL_stock_4 : decode cL_stock 4 = .ok (.invokevirtual 17, 3) := by decide +kernel
theorem dL_stock_7 : decode cL_stock 7 = .ok (.i2l, 1) := by decide +kernel
theorem dL_stock_8 : decode cL_stock 8 = .ok (.lastore, 1) := by decide +kernel
theorem dL_stock_9 : decode cL_stock 9 = .ok (.goto 6, 3) := by decide +kernel
theorem dL_stock_12 : decode cL_stock 12 = .ok (.astore_n 3, 1) := by decide +kernel
theorem dL_stock_13 : decode cL_stock 13 = .ok (.iconst 1, 1) := by decide +kernel
theorem dL_stock_14 : decode cL_stock 14 = .ok (.ireturn, 1) := by decide +kernel
theorem dL_stock_15 : decode cL_stock 15 = .ok (.iconst 0, 1) := by decide +kernel
theorem dL_stock_16 : decode cL_stock 16 = .ok (.ireturn, 1) := by decide +kernel
set_option maxHeartbeats 4000000 in
set_option maxRecDepth 100000 in
theorem kw_stock_ (l : Launch) (g : kG) (e0 : Nat) (S O : wPS) (sz x o : Nat) (n1 : Int32) (po : Int32 → wPS → Prop) (Ex : String → Prop) (hx0 : Ob S 5 x) (ho : Ob O 14 o) (hN : pN O o = 1) (hM : kM l g e0 yX5_stock cX5_stock 2 (some .int) 7 103 1 6 [.ref x, .int n1] S sz (pI po) Ex) (hex : ∀ E, Ex E → E = xI) : kMw l g e0 yL_stock cL_stock 4 [(0, 9, 12, 21)] 8 124 1 6 [.ref x, .int n1, .ref o] S O sz (fun r S1 O1 => (r = 0 ∧ ∃ v, po v S1 ∧ O1 = setJ O o v.toInt64) ∨ (r = 1 ∧ Ex xI ∧ S1 = S ∧ O1 = O)) := by
  refine kMw.of (by decide) (Nat.le_of_ble_eq_true rfl) ?_
  intro p e s m below meth c ls B
  obtain ⟨F, hr, hlk, ht, hP, hO, hK, hD, hDO, hdis, hE, hNc, hS, hA, hl, hsz⟩ := B
  subst hsz
  have hx := F.1
  have hb := F.2.1
  have hl : lv_has ls 4 [(0, .ref x), (1, .int n1), (2, .ref o)] := hl
  refine lv_aload_n hx hb dL_stock_0 rfl (lv_at hl 2 rfl) ?_
  refine lv_iconst (v := 0) hx hb dL_stock_1 (by decide) ?_
  refine lv_aload_n hx hb dL_stock_2 rfl (lv_at hl 0 rfl) ?_
  refine lv_iload_n hx hb dL_stock_3 rfl (lv_at hl 1 rfl) ?_
  refine kcallWI (kV (n := 1) (As := [.int n1]) (rest := [.int 0, .ref o]) (b := x) (C := RX5) F hE hK hP hD hS hA hM (rr_Pickwave hK hP hx0) kw_191 kw_192 kw_193 kw_2 kw_194 (by decide +kernel) ⟨Nat.le_of_ble_eq_true rfl, Nat.le_of_ble_eq_true rfl⟩ rfl hl.1 rfl (Nat.le_of_ble_eq_true rfl) dL_stock_4 ⟨Nat.le_of_ble_eq_true rfl, Nat.le_of_ble_eq_true rfl⟩) rfl hD hS hA (fun E ce q9 H1 locs1 hex1 hP1 _ hf1 hS1 hce hcv hcl => ?_) (fun r S1 H1 locs1 hp hP1 hD1 hDA _ hf1 hS1 => ?_)
  · have hO1 := kO_keep hO hdis hf1
    obtain rfl := hex E hex1
    refine vx_catch (name := "java/lang/IndexOutOfBoundsException") F.2.2.2.1 [] ⟨0, 9, 12, 21⟩ [] (ht.trans rfl) (fun z hz => by cases hz) rfl (by decide) (F.2.2.2.2 _ kw_190) (va_any rfl (hE.2.2.2.2.2.2.2.2.2.2.2.2.2.2.2.2 _ (List.mem_of_getElem? (i := 2) rfl))) hce hcv hcl ?_
    refine lv_astore_n (lv' := [(3, .ref q9), (0, .ref x), (1, .int n1), (2, .ref o)]) hx hb dL_stock_12 rfl hl (by decide) rfl (fun ls hl => ?_)
    refine lv_iconst (v := 1) hx hb dL_stock_13 (by decide) ?_
    exact kEndW F hr hlk hP1 hO1 hD hDO hdis hS1 (Nat.le_of_ble_eq_true rfl) (Nat.le_of_ble_eq_true rfl) dL_stock_14 (Or.inr (⟨rfl, hex1, rfl, rfl⟩))
  · have hO1 := kO_keep hO hdis hf1
    have hdis1 := kdis_keep hO hdis hD1
    refine lv_i2l (v := r.toInt64) hx hb dL_stock_7 rfl ?_
    refine rt2_J F hK hP1 hO1 hDA hDO hdis1 hS1 ho hN dL_stock_8 (fun H2 locs2 hP2 hO2 hDO2 hS2 => ?_)
    refine lv_goto (tgt := 15) hx hb dL_stock_9 (by decide) ?_
    refine lv_iconst (v := 0) hx hb dL_stock_15 (by decide) ?_
    exact kEndW F hr hlk hP2 hO2 hDA hDO2 hdis1 hS2 (Nat.le_of_ble_eq_true rfl) (Nat.le_of_ble_eq_true rfl) dL_stock_16 (Or.inl ⟨rfl, r, hp, rfl⟩)
theorem dL_wave_0 : decode cL_wave 0 = .ok (.aload_n 2, 1) := by decide +kernel
theorem dL_wave_1 : decode cL_wave 1 = .ok (.iconst 0, 1) := by decide +kernel
theorem dL_wave_2 : decode cL_wave 2 = .ok (.aload_n 0, 1) := by decide +kernel
theorem dL_wave_3 : decode cL_wave 3 = .ok (.iload_n 1, 1) := by decide +kernel
theorem dL_wave_4 : decode cL_wave 4 = .ok (.invokevirtual 74, 3) := by decide +kernel
theorem dL_wave_7 : decode cL_wave 7 = .ok (.i2l, 1) := by decide +kernel
theorem dL_wave_8 : decode cL_wave 8 = .ok (.lastore, 1) := by decide +kernel
theorem dL_wave_9 : decode cL_wave 9 = .ok (.goto 12, 3) := by decide +kernel
theorem dL_wave_12 : decode cL_wave 12 = .ok (.astore_n 3, 1) := by decide +kernel
theorem dL_wave_13 : decode cL_wave 13 = .ok (.iconst 1, 1) := by decide +kernel
theorem dL_wave_14 : decode cL_wave 14 = .ok (.ireturn, 1) := by decide +kernel
theorem dL_wave_15 : decode cL_wave 15 = .ok (.astore_n 3, 1) := by decide +kernel
theorem dL_wave_16 : decode cL_wave 16 = .ok (.iconst 2, 1) := by decide +kernel
theorem dL_wave_17 : decode cL_wave 17 = .ok (.ireturn, 1) := by decide +kernel
theorem dL_wave_18 : decode cL_wave 18 = .ok (.astore_n 3, 1) := by decide +kernel
theorem dL_wave_19 : decode cL_wave 19 = .ok (.iconst 3, 1) := by decide +kernel
theorem dL_wave_20 : decode cL_wave 20 = .ok (.ireturn, 1) := by decide +kernel
theorem dL_wave_21 : decode cL_wave 21 = .ok (.iconst 0, 1) := by decide +kernel
theorem dL_wave_22 : decode cL_wave 22 = .ok (.ireturn, 1) := by decide +kernel
set_option maxHeartbeats 4000000 in
set_option maxRecDepth 100000 in
theorem kw_wave_ (l : Launch) (g : kG) (e0 : Nat) (S O : wPS) (sz x o : Nat) (n1 : Int32) (po : Int32 → wPS → Prop) (Ex : String → Prop) (hx0 : Ob S 5 x) (ho : Ob O 14 o) (hN : pN O o = 1) (hM : kM l g e0 yX5_wave cX5_wave 5 (some .int) 7 103 2 12 [.ref x, .int n1] S sz (pI po) Ex) (hex : ∀ E, Ex E → E = xI ∨ E = xU ∨ E = xS) : kMw l g e0 yL_wave cL_wave 4 [(0, 9, 12, 21), (0, 9, 15, 66), (0, 9, 18, 15)] 8 127 2 12 [.ref x, .int n1, .ref o] S O sz (fun r S1 O1 => (r = 0 ∧ ∃ v, po v S1 ∧ O1 = setJ O o v.toInt64) ∨ (r = 1 ∧ Ex xI ∧ S1 = S ∧ O1 = O) ∨ (r = 2 ∧ Ex xU ∧ S1 = S ∧ O1 = O) ∨ (r = 3 ∧ Ex xS ∧ S1 = S ∧ O1 = O)) := by
  refine kMw.of (by decide) (Nat.le_of_ble_eq_true rfl) ?_
  intro p e s m below meth c ls B
  obtain ⟨F, hr, hlk, ht, hP, hO, hK, hD, hDO, hdis, hE, hNc, hS, hA, hl, hsz⟩ := B
  subst hsz
  have hx := F.1
  have hb := F.2.1
  have hl : lv_has ls 4 [(0, .ref x), (1, .int n1), (2, .ref o)] := hl
  refine lv_aload_n hx hb dL_wave_0 rfl (lv_at hl 2 rfl) ?_
  refine lv_iconst (v := 0) hx hb dL_wave_1 (by decide) ?_
  refine lv_aload_n hx hb dL_wave_2 rfl (lv_at hl 0 rfl) ?_
  refine lv_iload_n hx hb dL_wave_3 rfl (lv_at hl 1 rfl) ?_
  refine kcallWI (kV (n := 1) (As := [.int n1]) (rest := [.int 0, .ref o]) (b := x) (C := RX5) F hE hK hP hD hS hA hM (rr_Pickwave hK hP hx0) kw_550 kw_551 kw_552 kw_2 kw_553 (by decide +kernel) ⟨Nat.le_of_ble_eq_true rfl, Nat.le_of_ble_eq_true rfl⟩ rfl hl.1 rfl (Nat.le_of_ble_eq_true rfl) dL_wave_4 ⟨Nat.le_of_ble_eq_true rfl, Nat.le_of_ble_eq_true rfl⟩) rfl hD hS hA (fun E ce q9 H1 locs1 hex1 hP1 _ hf1 hS1 hce hcv hcl => ?_) (fun r S1 H1 locs1 hp hP1 hD1 hDA _ hf1 hS1 => ?_)
  · have hO1 := kO_keep hO hdis hf1
    rcases hex E hex1 with rfl | rfl | rfl
    · refine vx_catch (name := "java/lang/IndexOutOfBoundsException") F.2.2.2.1 [] ⟨0, 9, 12, 21⟩ [⟨0, 9, 15, 66⟩, ⟨0, 9, 18, 15⟩] (ht.trans rfl) (fun z hz => by cases hz) rfl (by decide) (F.2.2.2.2 _ kw_190) (va_any rfl (hE.2.2.2.2.2.2.2.2.2.2.2.2.2.2.2.2 _ (List.mem_of_getElem? (i := 2) rfl))) hce hcv hcl ?_
      refine lv_astore_n (lv' := [(3, .ref q9), (0, .ref x), (1, .int n1), (2, .ref o)]) hx hb dL_wave_12 rfl hl (by decide) rfl (fun ls hl => ?_)
      refine lv_iconst (v := 1) hx hb dL_wave_13 (by decide) ?_
      exact kEndW F hr hlk hP1 hO1 hD hDO hdis hS1 (Nat.le_of_ble_eq_true rfl) (Nat.le_of_ble_eq_true rfl) dL_wave_14 (Or.inr (Or.inl ⟨rfl, hex1, rfl, rfl⟩))
    · refine vx_catch (name := "java/lang/UnsupportedOperationException") F.2.2.2.1 [⟨0, 9, 12, 21⟩] ⟨0, 9, 15, 66⟩ [⟨0, 9, 18, 15⟩] (ht.trans rfl) (fun z hz => by rcases List.mem_cons.mp hz with rfl | hz; exact Or.inr ⟨by decide, "java/lang/IndexOutOfBoundsException", F.2.2.2.2 _ kw_190, hNc _ (List.mem_of_getElem? (i := 3) rfl)⟩; exact absurd hz List.not_mem_nil) rfl (by decide) (F.2.2.2.2 _ kw_496) (va_any rfl (hE.2.2.2.2.2.2.2.2.2.2.2.2.2.2.2.2 _ (List.mem_of_getElem? (i := 3) rfl))) hce hcv hcl ?_
      refine lv_astore_n (lv' := [(3, .ref q9), (0, .ref x), (1, .int n1), (2, .ref o)]) hx hb dL_wave_15 rfl hl (by decide) rfl (fun ls hl => ?_)
      refine lv_iconst (v := 2) hx hb dL_wave_16 (by decide) ?_
      exact kEndW F hr hlk hP1 hO1 hD hDO hdis hS1 (Nat.le_of_ble_eq_true rfl) (Nat.le_of_ble_eq_true rfl) dL_wave_17 (Or.inr (Or.inr (Or.inl ⟨rfl, hex1, rfl, rfl⟩)))
    · refine vx_catch (name := "java/lang/IllegalStateException") F.2.2.2.1 [⟨0, 9, 12, 21⟩, ⟨0, 9, 15, 66⟩] ⟨0, 9, 18, 15⟩ [] (ht.trans rfl) (fun z hz => by rcases List.mem_cons.mp hz with rfl | hz; exact Or.inr ⟨by decide, "java/lang/IndexOutOfBoundsException", F.2.2.2.2 _ kw_190, hNc _ (List.mem_of_getElem? (i := 1) rfl)⟩; rcases List.mem_cons.mp hz with rfl | hz; exact Or.inr ⟨by decide, "java/lang/UnsupportedOperationException", F.2.2.2.2 _ kw_496, hNc _ (List.mem_of_getElem? (i := 5) rfl)⟩; exact absurd hz List.not_mem_nil) rfl (by decide) (F.2.2.2.2 _ kw_90) (va_any rfl (hE.2.2.2.2.2.2.2.2.2.2.2.2.2.2.2.2 _ (List.mem_of_getElem? (i := 1) rfl))) hce hcv hcl ?_
      refine lv_astore_n (lv' := [(3, .ref q9), (0, .ref x), (1, .int n1), (2, .ref o)]) hx hb dL_wave_18 rfl hl (by decide) rfl (fun ls hl => ?_)
      refine lv_iconst (v := 3) hx hb dL_wave_19 (by decide) ?_
      exact kEndW F hr hlk hP1 hO1 hD hDO hdis hS1 (Nat.le_of_ble_eq_true rfl) (Nat.le_of_ble_eq_true rfl) dL_wave_20 (Or.inr (Or.inr (Or.inr (⟨rfl, hex1, rfl, rfl⟩))))
  · have hO1 := kO_keep hO hdis hf1
    have hdis1 := kdis_keep hO hdis hD1
    refine lv_i2l (v := r.toInt64) hx hb dL_wave_7 rfl ?_
    refine rt2_J F hK hP1 hO1 hDA hDO hdis1 hS1 ho hN dL_wave_8 (fun H2 locs2 hP2 hO2 hDO2 hS2 => ?_)
    refine lv_goto (tgt := 21) hx hb dL_wave_9 (by decide) ?_
    refine lv_iconst (v := 0) hx hb dL_wave_21 (by decide) ?_
    exact kEndW F hr hlk hP2 hO2 hDA hDO2 hdis1 hS2 (Nat.le_of_ble_eq_true rfl) (Nat.le_of_ble_eq_true rfl) dL_wave_22 (Or.inl ⟨rfl, r, hp, rfl⟩)
theorem dL_waveOf_0 : decode cL_waveOf 0 = .ok (.aload_n 2, 1) := by decide +kernel
theorem dL_waveOf_1 : decode cL_waveOf 1 = .ok (.iconst 0, 1) := by decide +kernel
theorem dL_waveOf_2 : decode cL_waveOf 2 = .ok (.aload_n 0, 1) := by decide +kernel
theorem dL_waveOf_3 : decode cL_waveOf 3 = .ok (.iload_n 1, 1) := by decide +kernel
theorem dL_waveOf_4 : decode cL_waveOf 4 = .ok (.invokevirtual 77, 3) := by decide +kernel
theorem dL_waveOf_7 : decode cL_waveOf 7 = .ok (.i2l, 1) := by decide +kernel
theorem dL_waveOf_8 : decode cL_waveOf 8 = .ok (.lastore, 1) := by decide +kernel
theorem dL_waveOf_9 : decode cL_waveOf 9 = .ok (.goto 9, 3) := by decide +kernel
theorem dL_waveOf_12 : decode cL_waveOf 12 = .ok (.astore_n 3, 1) := by decide +kernel
theorem dL_waveOf_13 : decode cL_waveOf 13 = .ok (.iconst 1, 1) := by decide +kernel
theorem dL_waveOf_14 : decode cL_waveOf 14 = .ok (.ireturn, 1) := by decide +kernel
theorem dL_waveOf_15 : decode cL_waveOf 15 = .ok (.astore_n 3, 1) := by decide +kernel
theorem dL_waveOf_16 : decode cL_waveOf 16 = .ok (.iconst 2, 1) := by decide +kernel
theorem dL_waveOf_17 : decode cL_waveOf 17 = .ok (.ireturn, 1) := by decide +kernel
theorem dL_waveOf_18 : decode cL_waveOf 18 = .ok (.iconst 0, 1) := by decide +kernel
theorem dL_waveOf_19 : decode cL_waveOf 19 = .ok (.ireturn, 1) := by decide +kernel
set_option maxHeartbeats 4000000 in
set_option maxRecDepth 100000 in
theorem kw_waveOf_ (l : Launch) (g : kG) (e0 : Nat) (S O : wPS) (sz x o : Nat) (n1 : Int32) (po : Int32 → wPS → Prop) (Ex : String → Prop) (hx0 : Ob S 5 x) (ho : Ob O 14 o) (hN : pN O o = 1) (hM : kM l g e0 yX5_waveOf cX5_waveOf 3 (some .int) 7 103 2 12 [.ref x, .int n1] S sz (pI po) Ex) (hex : ∀ E, Ex E → E = xI ∨ E = xN) : kMw l g e0 yL_waveOf cL_waveOf 4 [(0, 9, 12, 21), (0, 9, 15, 80)] 8 125 2 12 [.ref x, .int n1, .ref o] S O sz (fun r S1 O1 => (r = 0 ∧ ∃ v, po v S1 ∧ O1 = setJ O o v.toInt64) ∨ (r = 1 ∧ Ex xI ∧ S1 = S ∧ O1 = O) ∨ (r = 2 ∧ Ex xN ∧ S1 = S ∧ O1 = O)) := by
  refine kMw.of (by decide) (Nat.le_of_ble_eq_true rfl) ?_
  intro p e s m below meth c ls B
  obtain ⟨F, hr, hlk, ht, hP, hO, hK, hD, hDO, hdis, hE, hNc, hS, hA, hl, hsz⟩ := B
  subst hsz
  have hx := F.1
  have hb := F.2.1
  have hl : lv_has ls 4 [(0, .ref x), (1, .int n1), (2, .ref o)] := hl
  refine lv_aload_n hx hb dL_waveOf_0 rfl (lv_at hl 2 rfl) ?_
  refine lv_iconst (v := 0) hx hb dL_waveOf_1 (by decide) ?_
  refine lv_aload_n hx hb dL_waveOf_2 rfl (lv_at hl 0 rfl) ?_
  refine lv_iload_n hx hb dL_waveOf_3 rfl (lv_at hl 1 rfl) ?_
  refine kcallWI (kV (n := 1) (As := [.int n1]) (rest := [.int 0, .ref o]) (b := x) (C := RX5) F hE hK hP hD hS hA hM (rr_Pickwave hK hP hx0) kw_574 kw_575 kw_576 kw_2 kw_577 (by decide +kernel) ⟨Nat.le_of_ble_eq_true rfl, Nat.le_of_ble_eq_true rfl⟩ rfl hl.1 rfl (Nat.le_of_ble_eq_true rfl) dL_waveOf_4 ⟨Nat.le_of_ble_eq_true rfl, Nat.le_of_ble_eq_true rfl⟩) rfl hD hS hA (fun E ce q9 H1 locs1 hex1 hP1 _ hf1 hS1 hce hcv hcl => ?_) (fun r S1 H1 locs1 hp hP1 hD1 hDA _ hf1 hS1 => ?_)
  · have hO1 := kO_keep hO hdis hf1
    rcases hex E hex1 with rfl | rfl
    · refine vx_catch (name := "java/lang/IndexOutOfBoundsException") F.2.2.2.1 [] ⟨0, 9, 12, 21⟩ [⟨0, 9, 15, 80⟩] (ht.trans rfl) (fun z hz => by cases hz) rfl (by decide) (F.2.2.2.2 _ kw_190) (va_any rfl (hE.2.2.2.2.2.2.2.2.2.2.2.2.2.2.2.2 _ (List.mem_of_getElem? (i := 2) rfl))) hce hcv hcl ?_
      refine lv_astore_n (lv' := [(3, .ref q9), (0, .ref x), (1, .int n1), (2, .ref o)]) hx hb dL_waveOf_12 rfl hl (by decide) rfl (fun ls hl => ?_)
      refine lv_iconst (v := 1) hx hb dL_waveOf_13 (by decide) ?_
      exact kEndW F hr hlk hP1 hO1 hD hDO hdis hS1 (Nat.le_of_ble_eq_true rfl) (Nat.le_of_ble_eq_true rfl) dL_waveOf_14 (Or.inr (Or.inl ⟨rfl, hex1, rfl, rfl⟩))
    · refine vx_catch (name := "java/util/NoSuchElementException") F.2.2.2.1 [⟨0, 9, 12, 21⟩] ⟨0, 9, 15, 80⟩ [] (ht.trans rfl) (fun z hz => by rcases List.mem_cons.mp hz with rfl | hz; exact Or.inr ⟨by decide, "java/lang/IndexOutOfBoundsException", F.2.2.2.2 _ kw_190, hNc _ (List.mem_of_getElem? (i := 6) rfl)⟩; exact absurd hz List.not_mem_nil) rfl (by decide) (F.2.2.2.2 _ kw_573) (va_any rfl (hE.2.2.2.2.2.2.2.2.2.2.2.2.2.2.2.2 _ (List.mem_of_getElem? (i := 4) rfl))) hce hcv hcl ?_
      refine lv_astore_n (lv' := [(3, .ref q9), (0, .ref x), (1, .int n1), (2, .ref o)]) hx hb dL_waveOf_15 rfl hl (by decide) rfl (fun ls hl => ?_)
      refine lv_iconst (v := 2) hx hb dL_waveOf_16 (by decide) ?_
      exact kEndW F hr hlk hP1 hO1 hD hDO hdis hS1 (Nat.le_of_ble_eq_true rfl) (Nat.le_of_ble_eq_true rfl) dL_waveOf_17 (Or.inr (Or.inr (⟨rfl, hex1, rfl, rfl⟩)))
  · have hO1 := kO_keep hO hdis hf1
    have hdis1 := kdis_keep hO hdis hD1
    refine lv_i2l (v := r.toInt64) hx hb dL_waveOf_7 rfl ?_
    refine rt2_J F hK hP1 hO1 hDA hDO hdis1 hS1 ho hN dL_waveOf_8 (fun H2 locs2 hP2 hO2 hDO2 hS2 => ?_)
    refine lv_goto (tgt := 18) hx hb dL_waveOf_9 (by decide) ?_
    refine lv_iconst (v := 0) hx hb dL_waveOf_18 (by decide) ?_
    exact kEndW F hr hlk hP2 hO2 hDA hDO2 hdis1 hS2 (Nat.le_of_ble_eq_true rfl) (Nat.le_of_ble_eq_true rfl) dL_waveOf_19 (Or.inl ⟨rfl, r, hp, rfl⟩)
