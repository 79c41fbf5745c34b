theorem kfind {S : wPS} {l i x b d : Nat} {n : Int32} (hL : LE S l i x) (hd : pG S 71 l = some d) (hy : pY S d n.toNatClampNeg = some b) (hn : n = nI i) (hi : i < 2 ^ 31) : b = x := by
  obtain ⟨d', h1, h2⟩ := hL
  cases Option.some.inj (hd.symm.trans h1)
  rw [hn, nI_clamp hi] at hy
  exact Option.some.inj (hy.symm.trans h2)
theorem kno0 {n : Int32} {m : Nat} (hm : m ≤ 12) (h : n < 0) : ∀ i, i < m → n ≠ nI i := fun i hi e => nI_pos (n := i) (by omega) (by rw [← e]; exact h)
theorem kno1 {n x : Int32} {m : Nat} (hm : m ≤ 12) (hx : x = nI m) (h : ¬ n < x) : ∀ i, i < m → n ≠ nI i := fun i hi e => h (by rw [e, hx]; exact nI_lt hi (by omega))
set_option maxHeartbeats 4000000 in
set_option maxRecDepth 100000 in
theorem c_X5_findArticle_x (l : Launch) (hl0 : l.stackTraces = false) (g : kG) (e0 : Nat) (z : Nat → Nat) (S : wPS) (sz : Nat) (hI : Inv z e0 S) (av lv : Nat → Nat) (q : qS) (hR : Rq z av lv S q) (h12 : q 72 0 ≤ 12) (n : Int32) : kM l g e0 yX5_findArticle cX5_findArticle 2 (some (.object "Pickwave$Article")) 6 82 1 6 [.ref (z 0), .int n] S sz (pR (fun b T => T = S ∧ ∃ i, i < q 72 0 ∧ n = nI i ∧ b = av i)) (fun E => E = xI ∧ ∀ i, i < q 72 0 → n ≠ nI i) := by
  refine kM.of (by decide) (Nat.le_of_ble_eq_true rfl) ?_
  intro p e s m below meth c ls B hin
  obtain ⟨F, hr, hlk, hte, hP, hK, hD, hE, hS, hA, hl, hsz⟩ := B
  subst hsz
  have hx := F.1
  have hb := F.2.1
  have hl : lv_has ls 2 [(0, .ref (z 0)), (1, .int n)] := hl
  obtain ⟨m1, hm1, hL1⟩ := hI.arts
  refine lv_iload_n hx hb dX5_findArticle_0 rfl (lv_at hl 1 rfl) ?_
  refine lv_if_lt (tgt := 15) hx hb dX5_findArticle_1 (by decide) (fun c1 => ?_) (fun c1 => ?_)
  · exact kth_IOOBEW hl0 F hE hlk hte hP hS hl.1 (List.mem_of_getElem? (i := 25) rfl) dX5_findArticle_15 dX5_findArticle_18 dX5_findArticle_19 dX5_findArticle_22 dX5_findArticle_25 ⟨Nat.le_of_ble_eq_true rfl, Nat.le_of_ble_eq_true rfl, Nat.le_of_ble_eq_true rfl, Nat.le_of_ble_eq_true rfl⟩ (Nat.le_of_ble_eq_true rfl) (Nat.le_of_ble_eq_true rfl) (⟨rfl, kno0 h12 c1⟩)
  · refine lv_iload_n hx hb dX5_findArticle_4 rfl (lv_at hl 1 rfl) ?_
    refine lv_aload_n hx hb dX5_findArticle_5 rfl (lv_at hl 0 rfl) ?_
    refine rs_Pickwave_articles (b := z 10) F hK hP (hI.1.1 0 (by decide)) hI.2.1.2.2.2.1 kw_23 dX5_findArticle_6 ?_
    refine kcallI (kV (n := 0) (As := []) (rest := [.int n]) (b := (z 10)) (C := RJx4a65c) F hE hK hP hD hS hA (c_Jx4a65c_size_8abf5 l hl0 g e0 S _ (z 10) (hI.1.1 10 (by decide))) (rr_ArrayList hK hP (hI.1.1 10 (by decide))) kw_90 kw_91 kw_92 kw_22 kw_93 (by decide +kernel) ⟨Nat.le_of_ble_eq_true rfl, Nat.le_of_ble_eq_true rfl⟩ rfl hl.1 rfl (Nat.le_of_ble_eq_true rfl) dX5_findArticle_9 ⟨Nat.le_of_ble_eq_true rfl, Nat.le_of_ble_eq_true rfl⟩) rfl hD hS hA (fun _ _ _ _ _ h => False.elim h) (fun r2 T2 H locs hp hP hD hS => ?_)
    obtain ⟨hT, hp3⟩ := hp
    have hT := hT.symm
    subst hT
    refine lv_icmp_lt (tgt := 26) hx hb dX5_findArticle_12 (by decide) (fun c4 => ?_) (fun c4 => ?_)
    · refine lv_aload_n hx hb dX5_findArticle_26 rfl (lv_at hl 0 rfl) ?_
      refine rs_Pickwave_articles (b := z 10) F hK hP (hI.1.1 0 (by decide)) hI.2.1.2.2.2.1 kw_23 dX5_findArticle_27 ?_
      refine lv_iload_n hx hb dX5_findArticle_30 rfl (lv_at hl 1 rfl) ?_
      refine kcallR (kV (n := 1) (As := [.int n]) (rest := []) (b := (z 10)) (C := RJx4a65c) F hE hK hP hD hS hA (c_Jx4a65c_get_915e3 l hl0 g e0 S _ (z 10) 1 _ n (hI.1.1 10 (by decide)) hL1 c1 (by rw [← hp3]; exact c4) (by omega)) (rr_ArrayList hK hP (hI.1.1 10 (by decide))) kw_204 kw_205 kw_206 kw_22 kw_207 (by decide +kernel) ⟨Nat.le_of_ble_eq_true rfl, Nat.le_of_ble_eq_true rfl⟩ rfl hl.1 rfl (Nat.le_of_ble_eq_true rfl) dX5_findArticle_31 ⟨Nat.le_of_ble_eq_true rfl, Nat.le_of_ble_eq_true rfl⟩) rfl hD hS hA (fun _ _ _ _ _ h => False.elim h) (fun b5 T5 H locs hp hP hD hS => ?_)
      obtain ⟨hT, hp6⟩ := hp
      have hT := hT.symm
      subst hT
      refine va_castS hx hb F.2.2.2.1 (F.2.2.2.2 _ kw_80) (hK.1 2 _ rfl).2 (rr_Article hK hP hp6.1) dX5_findArticle_34 ?_
      obtain ⟨ob9, d9, hd9, hy9⟩ := hp6
      obtain ⟨i, hi, hni⟩ := kixlt (N := q 72 0) hR.2.2.2.1.1 (by omega) c1 (by rw [← hp3]; exact c4)
      exact kEndR F hr (Or.inl ⟨_, rfl⟩) (Or.inr ⟨_, rfl⟩) hlk hP hD hS (Nat.le_of_ble_eq_true rfl) (Nat.le_of_ble_eq_true rfl) dX5_findArticle_37 ⟨_, rfl, ⟨rfl, i, hi, hni, kfind (hR.1 i hi).2.1 hd9 hy9 hni (by omega)⟩⟩
    · exact kth_IOOBEW hl0 F hE hlk hte hP hS hl.1 (List.mem_of_getElem? (i := 25) rfl) dX5_findArticle_15 dX5_findArticle_18 dX5_findArticle_19 dX5_findArticle_22 dX5_findArticle_25 ⟨Nat.le_of_ble_eq_true rfl, Nat.le_of_ble_eq_true rfl, Nat.le_of_ble_eq_true rfl, Nat.le_of_ble_eq_true rfl⟩ (Nat.le_of_ble_eq_true rfl) (Nat.le_of_ble_eq_true rfl) (⟨rfl, kno1 h12 (hp3.trans hR.2.2.2.1.1) c4⟩)
set_option maxHeartbeats 4000000 in
set_option maxRecDepth 100000 in
theorem c_X5_findLine_x (l : Launch) (hl0 : l.stackTraces = false) (g : kG) (e0 : Nat) (z : Nat → Nat) (S : wPS) (sz : Nat) (hI : Inv z e0 S) (av lv : Nat → Nat) (q : qS) (hR : Rq z av lv S q) (h12 : q 73 0 ≤ 12) (n : Int32) : kM l g e0 yX5_findLine cX5_findLine 2 (some (.object "Pickwave$Line")) 6 82 1 6 [.ref (z 0), .int n] S sz (pR (fun b T => T = S ∧ ∃ i, i < q 73 0 ∧ n = nI i ∧ b = lv i)) (fun E => E = xI ∧ ∀ i, i < q 73 0 → n ≠ nI i) := by
  refine kM.of (by decide) (Nat.le_of_ble_eq_true rfl) ?_
  intro p e s m below meth c ls B hin
  obtain ⟨F, hr, hlk, hte, hP, hK, hD, hE, hS, hA, hl, hsz⟩ := B
  subst hsz
  have hx := F.1
  have hb := F.2.1
  have hl : lv_has ls 2 [(0, .ref (z 0)), (1, .int n)] := hl
  obtain ⟨m1, hm1, hL1⟩ := hI.lines
  refine lv_iload_n hx hb dX5_findLine_0 rfl (lv_at hl 1 rfl) ?_
  refine lv_if_lt (tgt := 15) hx hb dX5_findLine_1 (by decide) (fun c1 => ?_) (fun c1 => ?_)
  · exact kth_IOOBEW hl0 F hE hlk hte hP hS hl.1 (List.mem_of_getElem? (i := 26) rfl) dX5_findLine_15 dX5_findLine_18 dX5_findLine_19 dX5_findLine_22 dX5_findLine_25 ⟨Nat.le_of_ble_eq_true rfl, Nat.le_of_ble_eq_true rfl, Nat.le_of_ble_eq_true rfl, Nat.le_of_ble_eq_true rfl⟩ (Nat.le_of_ble_eq_true rfl) (Nat.le_of_ble_eq_true rfl) (⟨rfl, kno0 h12 c1⟩)
  · refine lv_iload_n hx hb dX5_findLine_4 rfl (lv_at hl 1 rfl) ?_
    refine lv_aload_n hx hb dX5_findLine_5 rfl (lv_at hl 0 rfl) ?_
    refine rs_Pickwave_lines (b := z 11) F hK hP (hI.1.1 0 (by decide)) hI.2.1.2.2.2.2.1 kw_24 dX5_findLine_6 ?_
    refine kcallI (kV (n := 0) (As := []) (rest := [.int n]) (b := (z 11)) (C := RJx4a65c) F hE hK hP hD hS hA (c_Jx4a65c_size_8abf5 l hl0 g e0 S _ (z 11) (hI.1.1 11 (by decide))) (rr_ArrayList hK hP (hI.1.1 11 (by decide))) kw_90 kw_91 kw_92 kw_22 kw_93 (by decide +kernel) ⟨Nat.le_of_ble_eq_true rfl, Nat.le_of_ble_eq_true rfl⟩ rfl hl.1 rfl (Nat.le_of_ble_eq_true rfl) dX5_findLine_9 ⟨Nat.le_of_ble_eq_true rfl, Nat.le_of_ble_eq_true rfl⟩) rfl hD hS hA (fun _ _ _ _ _ h => False.elim h) (fun r2 T2 H locs hp hP hD hS => ?_)
    obtain ⟨hT, hp3⟩ := hp
    have hT := hT.symm
    subst hT
    refine lv_icmp_lt (tgt := 26) hx hb dX5_findLine_12 (by decide) (fun c4 => ?_) (fun c4 => ?_)
    · refine lv_aload_n hx hb dX5_findLine_26 rfl (lv_at hl 0 rfl) ?_
      refine rs_Pickwave_lines (b := z 11) F hK hP (hI.1.1 0 (by decide)) hI.2.1.2.2.2.2.1 kw_24 dX5_findLine_27 ?_
      refine lv_iload_n hx hb dX5_findLine_30 rfl (lv_at hl 1 rfl) ?_
      refine kcallR (kV (n := 1) (As := [.int n]) (rest := []) (b := (z 11)) (C := RJx4a65c) F hE hK hP hD hS hA (c_Jx4a65c_get_915e3 l hl0 g e0 S _ (z 11) 2 _ n (hI.1.1 11 (by decide)) hL1 c1 (by rw [← hp3]; exact c4) (by omega)) (rr_ArrayList hK hP (hI.1.1 11 (by decide))) kw_204 kw_205 kw_206 kw_22 kw_207 (by decide +kernel) ⟨Nat.le_of_ble_eq_true rfl, Nat.le_of_ble_eq_true rfl⟩ rfl hl.1 rfl (Nat.le_of_ble_eq_true rfl) dX5_findLine_31 ⟨Nat.le_of_ble_eq_true rfl, Nat.le_of_ble_eq_true rfl⟩) rfl hD hS hA (fun _ _ _ _ _ h => False.elim h) (fun b5 T5 H locs hp hP hD hS => ?_)
      obtain ⟨hT, hp6⟩ := hp
      have hT := hT.symm
      subst hT
      refine va_castS hx hb F.2.2.2.1 (F.2.2.2.2 _ kw_272) (hK.1 3 _ rfl).2 (rr_Line hK hP hp6.1) dX5_findLine_34 ?_
      obtain ⟨ob9, d9, hd9, hy9⟩ := hp6
      obtain ⟨i, hi, hni⟩ := kixlt (N := q 73 0) hR.2.2.2.1.2 (by omega) c1 (by rw [← hp3]; exact c4)
      exact kEndR F hr (Or.inl ⟨_, rfl⟩) (Or.inr ⟨_, rfl⟩) hlk hP hD hS (Nat.le_of_ble_eq_true rfl) (Nat.le_of_ble_eq_true rfl) dX5_findLine_37 ⟨_, rfl, ⟨rfl, i, hi, hni, kfind (hR.2.1 i hi).2.1 hd9 hy9 hni (by omega)⟩⟩
    · exact kth_IOOBEW hl0 F hE hlk hte hP hS hl.1 (List.mem_of_getElem? (i := 26) rfl) dX5_findLine_15 dX5_findLine_18 dX5_findLine_19 dX5_findLine_22 dX5_findLine_25 ⟨Nat.le_of_ble_eq_true rfl, Nat.le_of_ble_eq_true rfl, Nat.le_of_ble_eq_true rfl, Nat.le_of_ble_eq_true rfl⟩ (Nat.le_of_ble_eq_true rfl) (Nat.le_of_ble_eq_true rfl) (⟨rfl, kno1 h12 (hp3.trans hR.2.2.2.1.2) c4⟩)
set_option maxHeartbeats 4000000 in
set_option maxRecDepth 100000 in
theorem c_X5_stock_x (l : Launch) (hl0 : l.stackTraces = false) (g : kG) (e0 : Nat) (z : Nat → Nat) (S : wPS) (sz : Nat) (hI : Inv z e0 S) (av lv : Nat → Nat) (q : qS) (hR : Rq z av lv S q) (h12 : q 72 0 ≤ 12) (n : Int32) : kM l g e0 yX5_stock cX5_stock 2 (some .int) 7 103 1 6 [.ref (z 0), .int n] S sz (pI (fun r T => T = S ∧ ∃ i, i < q 72 0 ∧ n = nI i ∧ r = nI (q 12 i))) (fun E => E = xI ∧ ∀ i, i < q 72 0 → n ≠ nI i) := by
  refine kM.of (by decide) (Nat.le_of_ble_eq_true rfl) ?_
  intro p e s m below meth c ls B hin
  obtain ⟨F, hr, hlk, hte, hP, hK, hD, hE, hS, hA, hl, hsz⟩ := B
  subst hsz
  have hx := F.1
  have hb := F.2.1
  have hl : lv_has ls 2 [(0, .ref (z 0)), (1, .int n)] := hl
  refine lv_aload_n hx hb dX5_stock_0 rfl (lv_at hl 0 rfl) ?_
  refine lv_iload_n hx hb dX5_stock_1 rfl (lv_at hl 1 rfl) ?_
  refine kcallR (kV (n := 1) (As := [.int n]) (rest := []) (b := (z 0)) (C := RX5) F hE hK hP hD hS hA (c_X5_findArticle_x l hl0 g e0 z S _ hI av lv q hR h12 n) (rr_Pickwave hK hP (hI.1.1 0 (by decide))) kw_197 kw_198 kw_199 kw_2 kw_200 (by decide +kernel) ⟨Nat.le_of_ble_eq_true rfl, Nat.le_of_ble_eq_true rfl⟩ rfl hl.1 rfl (Nat.le_of_ble_eq_true rfl) dX5_stock_2 ⟨Nat.le_of_ble_eq_true rfl, Nat.le_of_ble_eq_true rfl⟩) rfl hD hS hA (fun E ce q9 H1 locs1 hex hP1 hS1 hce hcv hcl => kthru hte hlk (hex) hP1 hS1 hce hcv hcl (Nat.le_of_ble_eq_true rfl) (Nat.le_of_ble_eq_true rfl)) (fun b1 T1 H locs hp hP hD hS => ?_)
  obtain ⟨hT, hp2⟩ := hp
  have hT := hT.symm
  subst hT
  obtain ⟨i3, hi3, hn3, rfl⟩ := hp2
  refine rg_Article_stock F hK hP (hR.1 i3 hi3).1 kw_196 dX5_stock_5 ?_
  refine lv_topi (fun x4 ex4 => ?_)
  exact kEndI F hr rfl hlk hP hD hS (Nat.le_of_ble_eq_true rfl) (Nat.le_of_ble_eq_true rfl) dX5_stock_8 ⟨_, rfl, ⟨rfl, i3, hi3, hn3, (ex4.trans ((hR.1 i3 hi3).2.2.2.2 12 (by decide)))⟩⟩
set_option maxHeartbeats 4000000 in
set_option maxRecDepth 100000 in
theorem c_X5_reserve_x (l : Launch) (hl0 : l.stackTraces = false) (g : kG) (e0 : Nat) (z : Nat → Nat) (S : wPS) (sz : Nat) (hI : Inv z e0 S) (av lv : Nat → Nat) (q : qS) (hR : Rq z av lv S q) (h12 : q 72 0 ≤ 12) (n : Int32) : kM l g e0 yX5_reserve cX5_reserve 2 (some .int) 7 103 1 6 [.ref (z 0), .int n] S sz (pI (fun r T => T = S ∧ ∃ i, i < q 72 0 ∧ n = nI i ∧ r = nI (q 13 i))) (fun E => E = xI ∧ ∀ i, i < q 72 0 → n ≠ nI i) := by
  refine kM.of (by decide) (Nat.le_of_ble_eq_true rfl) ?_
  intro p e s m below meth c ls B hin
  obtain ⟨F, hr, hlk, hte, hP, hK, hD, hE, hS, hA, hl, hsz⟩ := B
  subst hsz
  have hx := F.1
  have hb := F.2.1
  have hl : lv_has ls 2 [(0, .ref (z 0)), (1, .int n)] := hl
  refine lv_aload_n hx hb dX5_reserve_0 rfl (lv_at hl 0 rfl) ?_
  refine lv_iload_n hx hb dX5_reserve_1 rfl (lv_at hl 1 rfl) ?_
  refine kcallR (kV (n := 1) (As := [.int n]) (rest := []) (b := (z 0)) (C := RX5) F hE hK hP hD hS hA (c_X5_findArticle_x l hl0 g e0 z S _ hI av lv q hR h12 n) (rr_Pickwave hK hP (hI.1.1 0 (by decide))) kw_197 kw_198 kw_199 kw_2 kw_200 (by decide +kernel) ⟨Nat.le_of_ble_eq_true rfl, Nat.le_of_ble_eq_true rfl⟩ rfl hl.1 rfl (Nat.le_of_ble_eq_true rfl) dX5_reserve_2 ⟨Nat.le_of_ble_eq_true rfl, Nat.le_of_ble_eq_true rfl⟩) rfl hD hS hA (fun E ce q9 H1 locs1 hex hP1 hS1 hce hcv hcl => kthru hte hlk (hex) hP1 hS1 hce hcv hcl (Nat.le_of_ble_eq_true rfl) (Nat.le_of_ble_eq_true rfl)) (fun b1 T1 H locs hp hP hD hS => ?_)
  obtain ⟨hT, hp2⟩ := hp
  have hT := hT.symm
  subst hT
  obtain ⟨i3, hi3, hn3, rfl⟩ := hp2
  refine rg_Article_reserve F hK hP (hR.1 i3 hi3).1 kw_227 dX5_reserve_5 ?_
  refine lv_topi (fun x4 ex4 => ?_)
  exact kEndI F hr rfl hlk hP hD hS (Nat.le_of_ble_eq_true rfl) (Nat.le_of_ble_eq_true rfl) dX5_reserve_8 ⟨_, rfl, ⟨rfl, i3, hi3, hn3, (ex4.trans ((hR.1 i3 hi3).2.2.2.2 13 (by decide)))⟩⟩
set_option maxHeartbeats 4000000 in
set_option maxRecDepth 100000 in
theorem c_X5_promised_x (l : Launch) (hl0 : l.stackTraces = false) (g : kG) (e0 : Nat) (z : Nat → Nat) (S : wPS) (sz : Nat) (hI : Inv z e0 S) (av lv : Nat → Nat) (q : qS) (hR : Rq z av lv S q) (h12 : q 72 0 ≤ 12) (n : Int32) : kM l g e0 yX5_promised cX5_promised 2 (some .int) 7 103 1 6 [.ref (z 0), .int n] S sz (pI (fun r T => T = S ∧ ∃ i, i < q 72 0 ∧ n = nI i ∧ r = nI (q 14 i))) (fun E => E = xI ∧ ∀ i, i < q 72 0 → n ≠ nI i) := by
  refine kM.of (by decide) (Nat.le_of_ble_eq_true rfl) ?_
  intro p e s m below meth c ls B hin
  obtain ⟨F, hr, hlk, hte, hP, hK, hD, hE, hS, hA, hl, hsz⟩ := B
  subst hsz
  have hx := F.1
  have hb := F.2.1
  have hl : lv_has ls 2 [(0, .ref (z 0)), (1, .int n)] := hl
  refine lv_aload_n hx hb dX5_promised_0 rfl (lv_at hl 0 rfl) ?_
  refine lv_iload_n hx hb dX5_promised_1 rfl (lv_at hl 1 rfl) ?_
  refine kcallR (kV (n := 1) (As := [.int n]) (rest := []) (b := (z 0)) (C := RX5) F hE hK hP hD hS hA (c_X5_findArticle_x l hl0 g e0 z S _ hI av lv q hR h12 n) (rr_Pickwave hK hP (hI.1.1 0 (by decide))) kw_197 kw_198 kw_199 kw_2 kw_200 (by decide +kernel) ⟨Nat.le_of_ble_eq_true rfl, Nat.le_of_ble_eq_true rfl⟩ rfl hl.1 rfl (Nat.le_of_ble_eq_true rfl) dX5_promised_2 ⟨Nat.le_of_ble_eq_true rfl, Nat.le_of_ble_eq_true rfl⟩) rfl hD hS hA (fun E ce q9 H1 locs1 hex hP1 hS1 hce hcv hcl => kthru hte hlk (hex) hP1 hS1 hce hcv hcl (Nat.le_of_ble_eq_true rfl) (Nat.le_of_ble_eq_true rfl)) (fun b1 T1 H locs hp hP hD hS => ?_)
  obtain ⟨hT, hp2⟩ := hp
  have hT := hT.symm
  subst hT
  obtain ⟨i3, hi3, hn3, rfl⟩ := hp2
  refine rg_Article_promisedUnits F hK hP (hR.1 i3 hi3).1 kw_235 dX5_promised_5 ?_
  refine lv_topi (fun x4 ex4 => ?_)
  exact kEndI F hr rfl hlk hP hD hS (Nat.le_of_ble_eq_true rfl) (Nat.le_of_ble_eq_true rfl) dX5_promised_8 ⟨_, rfl, ⟨rfl, i3, hi3, hn3, (ex4.trans ((hR.1 i3 hi3).2.2.2.2 14 (by decide)))⟩⟩
set_option maxHeartbeats 4000000 in
set_option maxRecDepth 100000 in
theorem c_X5_free_x (l : Launch) (hl0 : l.stackTraces = false) (g : kG) (e0 : Nat) (z : Nat → Nat) (S : wPS) (sz : Nat) (hI : Inv z e0 S) (av lv : Nat → Nat) (q : qS) (hR : Rq z av lv S q) (h12 : q 72 0 ≤ 12) (h3 : q_W3 q) (n : Int32) : kM l g e0 yX5_free cX5_free 2 (some .int) 7 103 1 6 [.ref (z 0), .int n] S sz (pI (fun r T => T = S ∧ ∃ i, i < q 72 0 ∧ n = nI i ∧ r = nI (q 12 i - q 14 i))) (fun E => E = xI ∧ ∀ i, i < q 72 0 → n ≠ nI i) := by
  refine kM.of (by decide) (Nat.le_of_ble_eq_true rfl) ?_
  intro p e s m below meth c ls B hin
  obtain ⟨F, hr, hlk, hte, hP, hK, hD, hE, hS, hA, hl, hsz⟩ := B
  subst hsz
  have hx := F.1
  have hb := F.2.1
  have hl : lv_has ls 2 [(0, .ref (z 0)), (1, .int n)] := hl
  refine lv_aload_n hx hb dX5_free_0 rfl (lv_at hl 0 rfl) ?_
  refine lv_iload_n hx hb dX5_free_1 rfl (lv_at hl 1 rfl) ?_
  refine kcallR (kV (n := 1) (As := [.int n]) (rest := []) (b := (z 0)) (C := RX5) F hE hK hP hD hS hA (c_X5_findArticle_x l hl0 g e0 z S _ hI av lv q hR h12 n) (rr_Pickwave hK hP (hI.1.1 0 (by decide))) kw_197 kw_198 kw_199 kw_2 kw_200 (by decide +kernel) ⟨Nat.le_of_ble_eq_true rfl, Nat.le_of_ble_eq_true rfl⟩ rfl hl.1 rfl (Nat.le_of_ble_eq_true rfl) dX5_free_2 ⟨Nat.le_of_ble_eq_true rfl, Nat.le_of_ble_eq_true rfl⟩) rfl hD hS hA (fun E ce q9 H1 locs1 hex hP1 hS1 hce hcv hcl => kthru hte hlk (hex) hP1 hS1 hce hcv hcl (Nat.le_of_ble_eq_true rfl) (Nat.le_of_ble_eq_true rfl)) (fun b1 T1 H locs hp hP hD hS => ?_)
  obtain ⟨hT, hp2⟩ := hp
  have hT := hT.symm
  subst hT
  obtain ⟨i3, hi3, hn3, rfl⟩ := hp2
  refine kcallI (kV (n := 0) (As := []) (rest := []) (b := (av i3)) (C := RX1) F hE hK hP hD hS hA (c_X1_freeUnits l hl0 g e0 S _ (av i3) (hR.1 i3 hi3).1) (rr_Article hK hP (hR.1 i3 hi3).1) kw_341 kw_342 kw_343 kw_82 kw_344 (by decide +kernel) ⟨Nat.le_of_ble_eq_true rfl, Nat.le_of_ble_eq_true rfl⟩ rfl hl.1 rfl (Nat.le_of_ble_eq_true rfl) dX5_free_5 ⟨Nat.le_of_ble_eq_true rfl, Nat.le_of_ble_eq_true rfl⟩) rfl hD hS hA (fun _ _ _ _ _ h => False.elim h) (fun r4 T4 H locs hp hP hD hS => ?_)
  obtain ⟨hT, hp5⟩ := hp
  have hT := hT.symm
  subst hT
  exact kEndI F hr rfl hlk hP hD hS (Nat.le_of_ble_eq_true rfl) (Nat.le_of_ble_eq_true rfl) dX5_free_8 ⟨_, rfl, ⟨rfl, i3, hi3, hn3, by rw [hp5, ((hR.1 i3 hi3).2.2.2.2 12 (by decide)), ((hR.1 i3 hi3).2.2.2.2 14 (by decide))]; exact nI_subI (h3 i3 hi3).1⟩⟩
set_option maxHeartbeats 4000000 in
set_option maxRecDepth 100000 in
theorem c_X5_amount_x (l : Launch) (hl0 : l.stackTraces = false) (g : kG) (e0 : Nat) (z : Nat → Nat) (S : wPS) (sz : Nat) (hI : Inv z e0 S) (av lv : Nat → Nat) (q : qS) (hR : Rq z av lv S q) (h12 : q 73 0 ≤ 12) (n : Int32) : kM l g e0 yX5_amount cX5_amount 2 (some .int) 7 103 1 6 [.ref (z 0), .int n] S sz (pI (fun r T => T = S ∧ ∃ i, i < q 73 0 ∧ n = nI i ∧ r = nI (q 23 i))) (fun E => E = xI ∧ ∀ i, i < q 73 0 → n ≠ nI i) := by
  refine kM.of (by decide) (Nat.le_of_ble_eq_true rfl) ?_
  intro p e s m below meth c ls B hin
  obtain ⟨F, hr, hlk, hte, hP, hK, hD, hE, hS, hA, hl, hsz⟩ := B
  subst hsz
  have hx := F.1
  have hb := F.2.1
  have hl : lv_has ls 2 [(0, .ref (z 0)), (1, .int n)] := hl
  refine lv_aload_n hx hb dX5_amount_0 rfl (lv_at hl 0 rfl) ?_
  refine lv_iload_n hx hb dX5_amount_1 rfl (lv_at hl 1 rfl) ?_
  refine kcallR (kV (n := 1) (As := [.int n]) (rest := []) (b := (z 0)) (C := RX5) F hE hK hP hD hS hA (c_X5_findLine_x l hl0 g e0 z S _ hI av lv q hR h12 n) (rr_Pickwave hK hP (hI.1.1 0 (by decide))) kw_268 kw_269 kw_270 kw_2 kw_271 (by decide +kernel) ⟨Nat.le_of_ble_eq_true rfl, Nat.le_of_ble_eq_true rfl⟩ rfl hl.1 rfl (Nat.le_of_ble_eq_true rfl) dX5_amount_2 ⟨Nat.le_of_ble_eq_true rfl, Nat.le_of_ble_eq_true rfl⟩) rfl hD hS hA (fun E ce q9 H1 locs1 hex hP1 hS1 hce hcv hcl => kthru hte hlk (hex) hP1 hS1 hce hcv hcl (Nat.le_of_ble_eq_true rfl) (Nat.le_of_ble_eq_true rfl)) (fun b1 T1 H locs hp hP hD hS => ?_)
  obtain ⟨hT, hp2⟩ := hp
  have hT := hT.symm
  subst hT
  obtain ⟨i3, hi3, hn3, rfl⟩ := hp2
  refine rg_Line_amount F hK hP (hR.2.1 i3 hi3).1 kw_280 dX5_amount_5 ?_
  refine lv_topi (fun x4 ex4 => ?_)
  exact kEndI F hr rfl hlk hP hD hS (Nat.le_of_ble_eq_true rfl) (Nat.le_of_ble_eq_true rfl) dX5_amount_8 ⟨_, rfl, ⟨rfl, i3, hi3, hn3, (ex4.trans ((hR.2.1 i3 hi3).2.2.2.2.2.2 23 (by decide)))⟩⟩
set_option maxHeartbeats 4000000 in
set_option maxRecDepth 100000 in
theorem c_X5_state_x (l : Launch) (hl0 : l.stackTraces = false) (g : kG) (e0 : Nat) (z : Nat → Nat) (S : wPS) (sz : Nat) (hI : Inv z e0 S) (av lv : Nat → Nat) (q : qS) (hR : Rq z av lv S q) (h12 : q 73 0 ≤ 12) (n : Int32) : kM l g e0 yX5_state cX5_state 2 (some .char) 7 103 1 6 [.ref (z 0), .int n] S sz (pI (fun r T => T = S ∧ kCh r ∧ ∃ i, i < q 73 0 ∧ n = nI i ∧ r = nI (q 24 i))) (fun E => E = xI ∧ ∀ i, i < q 73 0 → n ≠ nI i) := by
  refine kM.of (by decide) (Nat.le_of_ble_eq_true rfl) ?_
  intro p e s m below meth c ls B hin
  obtain ⟨F, hr, hlk, hte, hP, hK, hD, hE, hS, hA, hl, hsz⟩ := B
  subst hsz
  have hx := F.1
  have hb := F.2.1
  have hl : lv_has ls 2 [(0, .ref (z 0)), (1, .int n)] := hl
  refine lv_aload_n hx hb dX5_state_0 rfl (lv_at hl 0 rfl) ?_
  refine lv_iload_n hx hb dX5_state_1 rfl (lv_at hl 1 rfl) ?_
  refine kcallR (kV (n := 1) (As := [.int n]) (rest := []) (b := (z 0)) (C := RX5) F hE hK hP hD hS hA (c_X5_findLine_x l hl0 g e0 z S _ hI av lv q hR h12 n) (rr_Pickwave hK hP (hI.1.1 0 (by decide))) kw_268 kw_269 kw_270 kw_2 kw_271 (by decide +kernel) ⟨Nat.le_of_ble_eq_true rfl, Nat.le_of_ble_eq_true rfl⟩ rfl hl.1 rfl (Nat.le_of_ble_eq_true rfl) dX5_state_2 ⟨Nat.le_of_ble_eq_true rfl, Nat.le_of_ble_eq_true rfl⟩) rfl hD hS hA (fun E ce q9 H1 locs1 hex hP1 hS1 hce hcv hcl => kthru hte hlk (hex) hP1 hS1 hce hcv hcl (Nat.le_of_ble_eq_true rfl) (Nat.le_of_ble_eq_true rfl)) (fun b1 T1 H locs hp hP hD hS => ?_)
  obtain ⟨hT, hp2⟩ := hp
  have hT := hT.symm
  subst hT
  obtain ⟨i3, hi3, hn3, rfl⟩ := hp2
  refine rg_Line_state F hK hP (hR.2.1 i3 hi3).1 kw_267 dX5_state_5 ?_
  refine lv_topi (fun x4 ex4 => ?_)
  exact kEndI F hr (by rw [ex4]; exact (hI.ch (hR.2.1 i3 hi3).1).1) hlk hP hD hS (Nat.le_of_ble_eq_true rfl) (Nat.le_of_ble_eq_true rfl) dX5_state_8 ⟨_, rfl, ⟨rfl, by rw [ex4]; exact hI.ch (hR.2.1 i3 hi3).1, i3, hi3, hn3, (ex4.trans ((hR.2.1 i3 hi3).2.2.2.2.2.2 24 (by decide)))⟩⟩
set_option maxHeartbeats 4000000 in
set_option maxRecDepth 100000 in
theorem c_X5_drop_x (l : Launch) (hl0 : l.stackTraces = false) (g : kG) (e0 : Nat) (z : Nat → Nat) (S : wPS) (sz : Nat) (hI : Inv z e0 S) (av lv : Nat → Nat) (q : qS) (hR : Rq z av lv S q) (hW : q_W q) (n : Int32) : kM l g e0 yX5_drop cX5_drop 3 (some .int) 7 103 2 12 [.ref (z 0), .int n] S sz (pI (fun r T => Kp z S T ∧ ∃ i, i < q 73 0 ∧ n = nI i ∧ (q 24 i = 111 ∨ q 24 i = 112) ∧ Rq z av lv T (q_scan i 100 q) ∧ r = nI (q_scan i 100 q 12 (q 21 i) - q_scan i 100 q 14 (q 21 i)))) (fun E => (E = xI ∧ ∀ i, i < q 73 0 → n ≠ nI i) ∨ (E = xS ∧ ∃ i, i < q 73 0 ∧ n = nI i ∧ ¬ (q 24 i = 111 ∨ q 24 i = 112))) := by
  refine kM.of (by decide) (Nat.le_of_ble_eq_true rfl) ?_
  intro p e s m below meth c ls B hin
  obtain ⟨F, hr, hlk, hte, hP, hK, hD, hE, hS, hA, hl, hsz⟩ := B
  subst hsz
  have hx := F.1
  have hb := F.2.1
  have hl : lv_has ls 3 [(0, .ref (z 0)), (1, .int n)] := hl
  have h12 := hW.1.1.2.1
  have hroom : q 42 0 < 516 := Nat.lt_of_le_of_lt (q_room hW.1.1 hW.1.2.2.2.1 hW.1.2.2.2.2.1) (by decide)
  refine lv_aload_n hx hb dX5_drop_0 rfl (lv_at hl 0 rfl) ?_
  refine lv_iload_n hx hb dX5_drop_1 rfl (lv_at hl 1 rfl) ?_
  refine kcallR (kV (n := 1) (As := [.int n]) (rest := []) (b := (z 0)) (C := RX5) F hE hK hP hD hS hA (c_X5_findLine_x l hl0 g e0 z S _ hI av lv q hR h12 n) (rr_Pickwave hK hP (hI.1.1 0 (by decide))) kw_268 kw_269 kw_270 kw_2 kw_271 (by decide +kernel) ⟨Nat.le_of_ble_eq_true rfl, Nat.le_of_ble_eq_true rfl⟩ rfl hl.1 rfl (Nat.le_of_ble_eq_true rfl) dX5_drop_2 ⟨Nat.le_of_ble_eq_true rfl, Nat.le_of_ble_eq_true rfl⟩) rfl hD hS hA (fun E ce q9 H1 locs1 hex hP1 hS1 hce hcv hcl => kthru hte hlk (Or.inl hex) hP1 hS1 hce hcv hcl (Nat.le_of_ble_eq_true rfl) (Nat.le_of_ble_eq_true rfl)) (fun b1 T1 H locs hp hP hD hS => ?_)
  obtain ⟨hT, hp2⟩ := hp
  have hT := hT.symm
  subst hT
  obtain ⟨i3, hi3, hn3, rfl⟩ := hp2
  refine lv_astore_n (lv' := [(2, .ref (lv i3)), (0, .ref (z 0)), (1, .int n)]) hx hb dX5_drop_5 rfl hl (by decide) rfl (fun ls hl => ?_)
  refine lv_aload_n hx hb dX5_drop_6 rfl (lv_at hl 0 rfl) ?_
  refine rg_Line_state F hK hP (hR.2.1 i3 hi3).1 kw_267 dX5_drop_7 ?_
  refine lv_topi (fun x4 ex4 => ?_)
  refine lv_bipush (v := 111) hx hb dX5_drop_10 (by decide) ?_
  refine lv_icmp_eq (tgt := 34) hx hb dX5_drop_12 (by decide) (fun c5 => ?_) (fun c5 => ?_)
  · have hst : q 24 i3 = 111 ∨ q 24 i3 = 112 := Or.inl (nI_inj (b := 111) (k24 hW hi3) (by decide) ((ex4.trans ((hR.2.1 i3 hi3).2.2.2.2.2.2 24 (by decide))).symm.trans c5))
    have hpp : q 24 i3 = 112 → q 23 i3 ≤ q 14 (q 21 i3) ∧ q_st 100 ≠ 112 := fun h => ⟨k14 hW hi3 h, by decide⟩
    have h24 : q 24 i3 < 65536 := by omega
    refine lv_aload_n hx hb dX5_drop_34 rfl (lv_at hl 1 rfl) ?_
    refine lv_aload_n hx hb dX5_drop_35 rfl (lv_at hl 0 rfl) ?_
    refine lv_bipush (v := 100) hx hb dX5_drop_36 (by decide) ?_
    refine kcallU (kV (n := 2) (As := [.ref (lv i3), .int 100]) (rest := []) (b := (z 0)) (C := RX5) F hE hK hP hD hS hA (c_X5_scan_x l hl0 g e0 z S _ hI av lv q hR i3 100 hi3 100 (rfl : (100 : Int32) = nI 100) (by decide) ⟨rfl, rfl⟩ hroom h24 hpp) (rr_Pickwave hK hP (hI.1.1 0 (by decide))) kw_321 kw_322 kw_323 kw_2 kw_324 (by decide +kernel) ⟨Nat.le_of_ble_eq_true rfl, Nat.le_of_ble_eq_true rfl⟩ rfl hl.1 rfl (Nat.le_of_ble_eq_true rfl) dX5_drop_38 ⟨Nat.le_of_ble_eq_true rfl, Nat.le_of_ble_eq_true rfl⟩) rfl hD hS hA (fun _ _ _ _ _ h => False.elim h) (fun T6 H locs hp hP hD hS => ?_)
    obtain ⟨hk7, hr7⟩ := hp
    have N7 : Kp z S T6 := hk7
    have K7 : Kp z S T6 := Kp.trans hI.kp N7
    have I7 : Inv z e0 T6 := hI.keep K7.1
    have o8 : Ob T6 2 (lv i3) := N7.1.ob (hR.2.1 i3 hi3).1
    refine lv_aload_n hx hb dX5_drop_41 rfl (lv_at hl 0 rfl) ?_
    refine rs_Line_article (b := av ((q_scan i3 100 q) 21 i3)) F hK hP o8 ((hr7.2.1 i3 (by rw [q_scan_o (by decide)]; exact hi3)).2.2.1) kw_325 dX5_drop_42 ?_
    refine kcallI (kV (n := 0) (As := []) (rest := []) (b := (av ((q_scan i3 100 q) 21 i3))) (C := RX1) F hE hK hP hD hS hA (c_X1_freeUnits l hl0 g e0 T6 _ (av ((q_scan i3 100 q) 21 i3)) (hr7.1 _ (hr7.2.1 i3 (by rw [q_scan_o (by decide)]; exact hi3)).2.2.2.1).1) (rr_Article hK hP (hr7.1 _ (hr7.2.1 i3 (by rw [q_scan_o (by decide)]; exact hi3)).2.2.2.1).1) kw_341 kw_342 kw_343 kw_82 kw_344 (by decide +kernel) ⟨Nat.le_of_ble_eq_true rfl, Nat.le_of_ble_eq_true rfl⟩ rfl hl.1 rfl (Nat.le_of_ble_eq_true rfl) dX5_drop_45 ⟨Nat.le_of_ble_eq_true rfl, Nat.le_of_ble_eq_true rfl⟩) rfl hD hS hA (fun _ _ _ _ _ h => False.elim h) (fun r9 T9 H locs hp hP hD hS => ?_)
    obtain ⟨hT, hp10⟩ := hp
    have hT := hT.symm
    subst hT
    exact kEndI F hr rfl hlk hP hD hS (Nat.le_of_ble_eq_true rfl) (Nat.le_of_ble_eq_true rfl) dX5_drop_48 ⟨_, rfl, ⟨K7, i3, hi3, hn3, hst, hr7, by rw [hp10, ((hr7.1 ((q_scan i3 100 q) 21 i3) (hr7.2.1 i3 (by rw [q_scan_o (by decide)]; exact hi3)).2.2.2.1).2.2.2.2 12 (by decide)), ((hr7.1 ((q_scan i3 100 q) 21 i3) (hr7.2.1 i3 (by rw [q_scan_o (by decide)]; exact hi3)).2.2.2.1).2.2.2.2 14 (by decide))]; exact nI_subI (by have hV := q_W_scan hW hi3 (Or.inr (Or.inr ⟨rfl, hst⟩)); exact (hV.2.1 _ (by rw [q_scan_o (by decide)]; exact (hW.1.1.2.2.1 i3 hi3).1)).1)⟩⟩
  · refine lv_aload_n hx hb dX5_drop_15 rfl (lv_at hl 0 rfl) ?_
    refine rg_Line_state F hK hP (hR.2.1 i3 hi3).1 kw_267 dX5_drop_16 ?_
    refine lv_topi (fun x11 ex11 => ?_)
    refine lv_bipush (v := 112) hx hb dX5_drop_19 (by decide) ?_
    refine lv_icmp_eq (tgt := 34) hx hb dX5_drop_21 (by decide) (fun c12 => ?_) (fun c12 => ?_)
    · have hst : q 24 i3 = 111 ∨ q 24 i3 = 112 := Or.inr (nI_inj (b := 112) (k24 hW hi3) (by decide) ((ex11.trans ((hR.2.1 i3 hi3).2.2.2.2.2.2 24 (by decide))).symm.trans c12))
      have hpp : q 24 i3 = 112 → q 23 i3 ≤ q 14 (q 21 i3) ∧ q_st 100 ≠ 112 := fun h => ⟨k14 hW hi3 h, by decide⟩
      have h24 : q 24 i3 < 65536 := by omega
      refine lv_aload_n hx hb dX5_drop_34 rfl (lv_at hl 1 rfl) ?_
      refine lv_aload_n hx hb dX5_drop_35 rfl (lv_at hl 0 rfl) ?_
      refine lv_bipush (v := 100) hx hb dX5_drop_36 (by decide) ?_
      refine kcallU (kV (n := 2) (As := [.ref (lv i3), .int 100]) (rest := []) (b := (z 0)) (C := RX5) F hE hK hP hD hS hA (c_X5_scan_x l hl0 g e0 z S _ hI av lv q hR i3 100 hi3 100 (rfl : (100 : Int32) = nI 100) (by decide) ⟨rfl, rfl⟩ hroom h24 hpp) (rr_Pickwave hK hP (hI.1.1 0 (by decide))) kw_321 kw_322 kw_323 kw_2 kw_324 (by decide +kernel) ⟨Nat.le_of_ble_eq_true rfl, Nat.le_of_ble_eq_true rfl⟩ rfl hl.1 rfl (Nat.le_of_ble_eq_true rfl) dX5_drop_38 ⟨Nat.le_of_ble_eq_true rfl, Nat.le_of_ble_eq_true rfl⟩) rfl hD hS hA (fun _ _ _ _ _ h => False.elim h) (fun T13 H locs hp hP hD hS => ?_)
      obtain ⟨hk14, hr14⟩ := hp
      have N14 : Kp z S T13 := hk14
      have K14 : Kp z S T13 := Kp.trans hI.kp N14
      have I14 : Inv z e0 T13 := hI.keep K14.1
      have o15 : Ob T13 2 (lv i3) := N14.1.ob (hR.2.1 i3 hi3).1
      refine lv_aload_n hx hb dX5_drop_41 rfl (lv_at hl 0 rfl) ?_
      refine rs_Line_article (b := av ((q_scan i3 100 q) 21 i3)) F hK hP o15 ((hr14.2.1 i3 (by rw [q_scan_o (by decide)]; exact hi3)).2.2.1) kw_325 dX5_drop_42 ?_
      refine kcallI (kV (n := 0) (As := []) (rest := []) (b := (av ((q_scan i3 100 q) 21 i3))) (C := RX1) F hE hK hP hD hS hA (c_X1_freeUnits l hl0 g e0 T13 _ (av ((q_scan i3 100 q) 21 i3)) (hr14.1 _ (hr14.2.1 i3 (by rw [q_scan_o (by decide)]; exact hi3)).2.2.2.1).1) (rr_Article hK hP (hr14.1 _ (hr14.2.1 i3 (by rw [q_scan_o (by decide)]; exact hi3)).2.2.2.1).1) kw_341 kw_342 kw_343 kw_82 kw_344 (by decide +kernel) ⟨Nat.le_of_ble_eq_true rfl, Nat.le_of_ble_eq_true rfl⟩ rfl hl.1 rfl (Nat.le_of_ble_eq_true rfl) dX5_drop_45 ⟨Nat.le_of_ble_eq_true rfl, Nat.le_of_ble_eq_true rfl⟩) rfl hD hS hA (fun _ _ _ _ _ h => False.elim h) (fun r16 T16 H locs hp hP hD hS => ?_)
      obtain ⟨hT, hp17⟩ := hp
      have hT := hT.symm
      subst hT
      exact kEndI F hr rfl hlk hP hD hS (Nat.le_of_ble_eq_true rfl) (Nat.le_of_ble_eq_true rfl) dX5_drop_48 ⟨_, rfl, ⟨K14, i3, hi3, hn3, hst, hr14, by rw [hp17, ((hr14.1 ((q_scan i3 100 q) 21 i3) (hr14.2.1 i3 (by rw [q_scan_o (by decide)]; exact hi3)).2.2.2.1).2.2.2.2 12 (by decide)), ((hr14.1 ((q_scan i3 100 q) 21 i3) (hr14.2.1 i3 (by rw [q_scan_o (by decide)]; exact hi3)).2.2.2.1).2.2.2.2 14 (by decide))]; exact nI_subI (by have hV := q_W_scan hW hi3 (Or.inr (Or.inr ⟨rfl, hst⟩)); exact (hV.2.1 _ (by rw [q_scan_o (by decide)]; exact (hW.1.1.2.2.1 i3 hi3).1)).1)⟩⟩
    · exact kth_ISE hl0 F hE hlk hte hP hS hl.1 (List.mem_of_getElem? (i := 11) rfl) dX5_drop_24 dX5_drop_27 dX5_drop_28 dX5_drop_30 dX5_drop_33 ⟨Nat.le_of_ble_eq_true rfl, Nat.le_of_ble_eq_true rfl, Nat.le_of_ble_eq_true rfl, Nat.le_of_ble_eq_true rfl⟩ (Nat.le_of_ble_eq_true rfl) (Nat.le_of_ble_eq_true rfl) (Or.inr ⟨rfl, i3, hi3, hn3, fun h => h.elim (fun h => c5 ((ex4.trans ((hR.2.1 i3 hi3).2.2.2.2.2.2 24 (by decide))).trans (by rw [h]; rfl))) (fun h => c12 ((ex11.trans ((hR.2.1 i3 hi3).2.2.2.2.2.2 24 (by decide))).trans (by rw [h]; rfl)))⟩)
