theorem q_spl {q : qS} {n f sn : Nat} (h : q_W q) (hn : n < q 73 0) (hp : q 24 n = 112) (hf : f < q 23 n) (h12 : q 73 0 < 12) (hsn : sn = if f = 0 then 100 else 107) : q_V (q_up (q_come (q 21 n) (q 23 n - f) (q 22 n) (q_up (q_scan n sn q) 23 n f)) 12 (q 21 n) 0) ∧ (q_up (q_scan n sn q) 23 n f) 72 0 = q 72 0 ∧ (q_up (q_scan n sn q) 23 n f) 73 0 = q 73 0 ∧ (q_come (q 21 n) (q 23 n - f) (q 22 n) (q_up (q_scan n sn q) 23 n f)) 73 0 = q 73 0 + 1 ∧ (q_up (q_come (q 21 n) (q 23 n - f) (q 22 n) (q_up (q_scan n sn q) 23 n f)) 12 (q 21 n) 0) 73 0 = q 73 0 + 1 := by
  subst hsn
  obtain ⟨v, w3, w4b⟩ := h
  have hs : ((if f = 0 then 100 else 107) = 117 ∧ q 24 n = 112) ∨ ((if f = 0 then 100 else 107) = 107 ∧ q 24 n = 112 ∧ 1 ≤ q 23 n) ∨ ((if f = 0 then 100 else 107) = 100 ∧ (q 24 n = 111 ∨ q 24 n = 112)) := by
    by_cases c : f = 0
    · rw [if_pos c]; exact Or.inr (Or.inr ⟨rfl, Or.inr hp⟩)
    · rw [if_neg c]; exact Or.inr (Or.inl ⟨rfl, hp, by omega⟩)
  have hst : q_st (if f = 0 then 100 else 107) = (if f = 0 then 100 else 107) := by by_cases c : f = 0 <;> simp [c, q_st]
  have v1 := q_V_scan v hn hs
  have n1 : q_scan n (if f = 0 then 100 else 107) q 73 0 = q 73 0 := q_scan_o (by decide)
  have s1 : q_scan n (if f = 0 then 100 else 107) q 24 n = (if f = 0 then 100 else 107) := by rw [q_scan_24, hst]
  have a20 := (v.2.2.1 n hn).2.2.1
  have v2 : q_V (q_up (q_scan n (if f = 0 then 100 else 107) q) 23 n f) := q_am_V v1.1 (by rw [n1]; exact hn) (by rw [s1]; by_cases c : f = 0 <;> simp [c]) (by rw [s1]; by_cases c : f = 0 <;> simp [c]) (by rw [s1]; by_cases c : f = 0; exact Or.inr (by rw [if_pos c]); exact Or.inl (by omega)) (by omega)
  have n2 : q_up (q_scan n (if f = 0 then 100 else 107) q) 23 n f 73 0 = q 73 0 := (q_k (by decide)).trans n1
  have m2 : q_up (q_scan n (if f = 0 then 100 else 107) q) 23 n f 72 0 = q 72 0 := (q_k (by decide)).trans (q_scan_o (by decide))
  have hla := v.1.2.2.1 n hn
  have v3 : q_V (q_come (q 21 n) (q 23 n - f) (q 22 n) (q_up (q_scan n (if f = 0 then 100 else 107) q) 23 n f)) := q_come_V v2 (by rw [m2]; exact hla.1) hla.2 (by omega) (by omega) (by rw [n2]; exact h12)
  have n3 : q_come (q 21 n) (q 23 n - f) (q 22 n) (q_up (q_scan n (if f = 0 then 100 else 107) q) 23 n f) 73 0 = q 73 0 + 1 := by
    unfold q_come; rw [q_scan_o (by decide), q_new_73, n2]
  have v4 := q_up_V (k := 12) (i := q 21 n) (v := 0) v3 (by decide) (by decide)
  have n4 : q_up (q_come (q 21 n) (q 23 n - f) (q 22 n) (q_up (q_scan n (if f = 0 then 100 else 107) q) 23 n f)) 12 (q 21 n) 0 73 0 = q 73 0 + 1 := (q_k (by decide)).trans n3
  exact ⟨v4, m2, n2, n3, n4⟩
theorem q_spl_e {q : qS} {n f sn : Nat} (hsn : sn = if f = 0 then 100 else 107) : q_split n f q = q_re (q_PI (q 21 n)) (q 73 0 + 1) (q_up (q_come (q 21 n) (q 23 n - f) (q 22 n) (q_up (q_scan n sn q) 23 n f)) 12 (q 21 n) 0) := by subst hsn; rfl
theorem q_spl_21 {q : qS} {n f sn : Nat} (hn : n < q 73 0) (e : (q_up (q_scan n sn q) 23 n f) 73 0 = q 73 0) : (q_come (q 21 n) (q 23 n - f) (q 22 n) (q_up (q_scan n sn q) 23 n f)) 21 n = q 21 n := by
  unfold q_come
  rw [q_scan_o (by decide), q_new_i (by decide) (by rw [e]; omega), q_k (by decide), q_scan_o (by decide)]
set_option maxHeartbeats 4000000 in
set_option maxRecDepth 100000 in
theorem c_X5_split_x (l : Launch) (hl0 : l.stackTraces = false) (g : kG) (e0 : Nat) (z : Nat → Nat) (S : wPS) (sz : Nat) (hI : Inv z e0 S) (av lv : Nat → Nat) (q : qS) (hR : Rq z av lv S q) (hW : q_W q) (n f : Nat) (hn : n < q 73 0) (fo : Int32) (hfo : fo = nI f) (hp : q 24 n = 112) (hf : f < q 23 n) (h73 : q 73 0 < 12) : kM l g e0 yX5_split cX5_split 5 (some .int) 8 179 2 21 [.ref (z 0), .ref (lv n), .int fo] S sz (pI (fun r T => Inv z e0 T ∧ (∃ x, Rq z av (lvu lv (q 73 0) x) T (q_split n f q)) ∧ r = nI (q 73 0))) (fun E => False) := by
  refine kM.of (by decide) (Nat.le_of_ble_eq_true rfl) ?_
  intro p e s m below meth c ls B hin
  obtain ⟨F, hr, hlk, hte, hP, hK, hD, hE, hS, hA, hl, hsz⟩ := B
  subst hsz
  have hx := F.1
  have hb := F.2.1
  have hl : lv_has ls 5 [(0, .ref (z 0)), (1, .ref (lv n)), (2, .int fo)] := hl
  have h23 := (hW.1.2.2.1 n hn).2.2.1
  refine lv_aload_n hx hb dX5_split_0 rfl (lv_at hl 1 rfl) ?_
  refine rg_Line_amount F hK hP (hR.2.1 n hn).1 kw_280 dX5_split_1 ?_
  refine lv_topi (fun x1 ex1 => ?_)
  refine lv_iload_n hx hb dX5_split_4 rfl (lv_at hl 2 rfl) ?_
  refine lv_isub hx hb dX5_split_5 ?_
  refine lv_topi (fun x2 ex2 => ?_)
  refine lv_istore_n (lv' := [(3, .int x2), (0, .ref (z 0)), (1, .ref (lv n)), (2, .int fo)]) hx hb dX5_split_6 rfl hl (by decide) rfl (fun ls hl => ?_)
  refine lv_aload_n hx hb dX5_split_7 rfl (lv_at hl 1 rfl) ?_
  refine lv_aload_n hx hb dX5_split_8 rfl (lv_at hl 2 rfl) ?_
  refine lv_iload_n hx hb dX5_split_9 rfl (lv_at hl 3 rfl) ?_
  refine lv_if_ne (tgt := 18) hx hb dX5_split_10 (by decide) (fun c3 => ?_) (fun c3 => ?_)
  · have hsf : 107 = if f = 0 then 100 else 107 := (if_neg (fun h => c3 (hfo.trans (by rw [h]; rfl)))).symm
    obtain ⟨v4, n72, n73, nc73, n4⟩ := q_spl hW hn hp hf h73 hsf
    have hroom : q 42 0 ≤ 504 := q_room hW.1.1 hW.1.2.2.2.1 hW.1.2.2.2.2.1
    have hroom1 : q 42 0 < 516 := by omega
    have h24 : q 24 n < 65536 := by omega
    have hpp : q 24 n = 112 → q 23 n ≤ q 14 (q 21 n) ∧ q_st 107 ≠ 112 := fun h => ⟨k14 hW hn h, by decide⟩
    refine lv_bipush (v := 107) hx hb dX5_split_18 (by decide) ?_
    refine kcallU (kV (n := 2) (As := [.ref (lv n), .int 107]) (rest := []) (b := (z 0)) (C := RX5) F hE hK hP hD hS hA (c_X5_scan_x l hl0 g e0 z S _ hI av lv q hR n 107 hn 107 (rfl : (107 : Int32) = nI 107) (by decide) ⟨rfl, rfl⟩ hroom1 h24 hpp) (rr_Pickwave hK hP (hI.1.1 0 (by decide))) kw_321 kw_322 kw_323 kw_2 kw_324 (by decide +kernel) ⟨Nat.le_of_ble_eq_true rfl, Nat.le_of_ble_eq_true rfl⟩ rfl hl.1 rfl (Nat.le_of_ble_eq_true rfl) dX5_split_20 ⟨Nat.le_of_ble_eq_true rfl, Nat.le_of_ble_eq_true rfl⟩) rfl hD hS hA (fun _ _ _ _ _ h => False.elim h) (fun T4 H locs hp hP hD hS => ?_)
    obtain ⟨hk5, hr5⟩ := hp
    have N5 : Kp z S T4 := hk5
    have K5 : Kp z S T4 := Kp.trans hI.kp N5
    have I5 : Inv z e0 T4 := hI.keep K5.1
    have o6 : Ob T4 2 (lv n) := N5.1.ob (hR.2.1 n hn).1
    refine lv_aload_n hx hb dX5_split_23 rfl (lv_at hl 2 rfl) ?_
    refine lv_iload_n hx hb dX5_split_24 rfl (lv_at hl 3 rfl) ?_
    refine rp_Line_amount F hK hP hD hS o6 kw_280 dX5_split_25 (fun H locs hP hD hS => ?_)
    have hR7 := Rq.linx (x := fo) (f := 23) (v := f) hr5 (by rw [q_scan_o (by decide)]; exact hn) (by decide) hfo
    refine lv_aload_n hx hb dX5_split_28 rfl (lv_at hl 1 rfl) ?_
    refine lv_aload_n hx hb dX5_split_29 rfl (lv_at hl 2 rfl) ?_
    refine rs_Line_article (b := av (q 21 n)) F hK hP o6 ((hR7.2.1 n hn).2.2.1) kw_325 dX5_split_30 ?_
    refine lv_iload_n hx hb dX5_split_33 rfl (lv_at hl 0 rfl) ?_
    refine lv_aload_n hx hb dX5_split_34 rfl (lv_at hl 2 rfl) ?_
    refine rg_Line_carrier F hK hP o6 kw_410 dX5_split_35 ?_
    refine lv_topi (fun x8 ex8 => ?_)
    refine kcallI (kV (n := 3) (As := [.ref (av (q 21 n)), .int x2, .int x8]) (rest := []) (b := (z 0)) (C := RX5) F hE hK hP hD hS hA (c_X5_letCome_x l hl0 g e0 z (setF T4 23 (lv n) fo) _ (hI.keep (kp_setF K5 (by decide) (by decide)).1) av lv (q_up (q_scan n 107 q) 23 n f) hR7 (q 21 n) ((q 23 n) - f) (q 22 n) ((hR7.2.1 n hn).2.2.2.1) (by rw [n72]; have := hW.1.1.1; omega) (by rw [n73]; omega) x2 x8 (by rw [ex2, (show (x1 : Int32) = nI (q 23 n) from (ex1.trans ((hR.2.1 n hn).2.2.2.2.2.2 23 (by decide)))), (show (fo : Int32) = nI f from hfo)]; exact nI_subI (Nat.le_of_lt hf)) (ex8.trans ((hR7.2.1 n hn).2.2.2.2.2.2 22 (by decide))) (show q 42 0 + 1 < 516 by omega)) (rr_Pickwave hK hP (I5.1.1 0 (by decide))) kw_303 kw_304 kw_305 kw_2 kw_306 (by decide +kernel) ⟨Nat.le_of_ble_eq_true rfl, Nat.le_of_ble_eq_true rfl⟩ rfl hl.1 rfl (Nat.le_of_ble_eq_true rfl) dX5_split_38 ⟨Nat.le_of_ble_eq_true rfl, Nat.le_of_ble_eq_true rfl⟩) rfl hD hS hA (fun _ _ _ _ _ h => False.elim h) (fun r9 T9 H locs hp hP hD hS => ?_)
    obtain ⟨I10, ⟨x10, hy10⟩, hv10⟩ := hp
    obtain ⟨lv10, hlv10⟩ : ∃ g9 : Nat → Nat, g9 = lvu lv ((q_up (q_scan n 107 q) 23 n f) 73 0) x10 := ⟨_, rfl⟩
    rw [← hlv10] at hy10
    have hln : lv10 n = lv n := by rw [hlv10]; exact lvu_ne (by rw [n73]; omega)
    have hL9 := hy10.2.1 n (by rw [nc73]; omega)
    rw [hln, q_spl_21 hn n73] at hL9
    refine lv_istore (lv' := [(4, .int r9), (3, .int x2), (0, .ref (z 0)), (1, .ref (lv n)), (2, .int fo)]) hx hb dX5_split_41 hl (by decide) rfl (fun ls hl => ?_)
    refine lv_aload_n hx hb dX5_split_43 rfl (lv_at hl 3 rfl) ?_
    refine rs_Line_article (b := av (q 21 n)) F hK hP hL9.1 hL9.2.2.1 kw_325 dX5_split_44 ?_
    refine lv_iconst (v := 0) hx hb dX5_split_47 (by decide) ?_
    refine rp_Article_stock F hK hP hD hS (hy10.1 _ hL9.2.2.2.1).1 kw_196 dX5_split_48 (fun H locs hP hD hS => ?_)
    have hR11 := Rq.artx (x := 0) (f := 12) (v := 0) hy10 hL9.2.2.2.1 (by decide) (rfl : (0 : Int32) = nI 0)
    refine lv_aload_n hx hb dX5_split_51 rfl (lv_at hl 2 rfl) ?_
    refine lv_aload_n hx hb dX5_split_52 rfl (lv_at hl 3 rfl) ?_
    refine rs_Line_article (b := av (q 21 n)) F hK hP hL9.1 hL9.2.2.1 kw_325 dX5_split_53 ?_
    refine kcallU (kV (n := 1) (As := [.ref (av (q 21 n))]) (rest := []) (b := (z 0)) (C := RX5) F hE hK hP hD hS hA (c_X5_reopenOfArticle_x l hl0 g e0 z (setF T9 12 (av (q 21 n)) 0) _ (I10.keep (kp_setF I10.kp (by decide) (by decide)).1) av lv10 (q_up (q_come (q 21 n) ((q 23 n) - f) (q 22 n) (q_up (q_scan n 107 q) 23 n f)) 12 (q 21 n) 0) hR11 v4 (q 21 n) hL9.2.2.2.1) (rr_Pickwave hK hP (I10.1.1 0 (by decide))) kw_411 kw_412 kw_413 kw_2 kw_414 (by decide +kernel) ⟨Nat.le_of_ble_eq_true rfl, Nat.le_of_ble_eq_true rfl⟩ rfl hl.1 rfl (Nat.le_of_ble_eq_true rfl) dX5_split_56 ⟨Nat.le_of_ble_eq_true rfl, Nat.le_of_ble_eq_true rfl⟩) rfl hD hS hA (fun _ _ _ _ _ h => False.elim h) (fun T12 H locs hp hP hD hS => ?_)
    obtain ⟨hk13, hr13⟩ := hp
    have N13 : Kp z (setF T9 12 (av (q 21 n)) 0) T12 := hk13
    have K13 : Kp z T9 T12 := Kp.trans (kp_setF I10.kp (by decide) (by decide)) N13
    have I13 : Inv z e0 T12 := I10.keep K13.1
    have o14 : Ob T12 2 (lv n) := N13.1.ob hL9.1
    have o15 : Ob T12 1 (av (q 21 n)) := N13.1.ob (hy10.1 _ hL9.2.2.2.1).1
    refine lv_iload hx hb dX5_split_59 (lv_at hl 0 rfl) ?_
    exact kEndI F hr rfl hlk hP hD hS (Nat.le_of_ble_eq_true rfl) (Nat.le_of_ble_eq_true rfl) dX5_split_61 ⟨_, rfl, ⟨I10.keep K13.1, ⟨x10, by have h9 := hr13; rw [n4, hlv10, n73] at h9; rw [q_spl_e hsf]; exact h9⟩, ((hv10).trans (congrArg nI n73))⟩⟩
  · have hsf : 100 = if f = 0 then 100 else 107 := (if_pos (nI_inj (b := 0) (by omega) (by decide) (hfo.symm.trans c3))).symm
    obtain ⟨v4, n72, n73, nc73, n4⟩ := q_spl hW hn hp hf h73 hsf
    have hroom : q 42 0 ≤ 504 := q_room hW.1.1 hW.1.2.2.2.1 hW.1.2.2.2.2.1
    have hroom1 : q 42 0 < 516 := by omega
    have h24 : q 24 n < 65536 := by omega
    have hpp : q 24 n = 112 → q 23 n ≤ q 14 (q 21 n) ∧ q_st 100 ≠ 112 := fun h => ⟨k14 hW hn h, by decide⟩
    refine lv_bipush (v := 100) hx hb dX5_split_13 (by decide) ?_
    refine lv_goto (tgt := 20) hx hb dX5_split_15 (by decide) ?_
    refine kcallU (kV (n := 2) (As := [.ref (lv n), .int 100]) (rest := []) (b := (z 0)) (C := RX5) F hE hK hP hD hS hA (c_X5_scan_x l hl0 g e0 z S _ hI av lv q hR n 100 hn 100 (rfl : (100 : Int32) = nI 100) (by decide) ⟨rfl, rfl⟩ hroom1 h24 hpp) (rr_Pickwave hK hP (hI.1.1 0 (by decide))) kw_321 kw_322 kw_323 kw_2 kw_324 (by decide +kernel) ⟨Nat.le_of_ble_eq_true rfl, Nat.le_of_ble_eq_true rfl⟩ rfl hl.1 rfl (Nat.le_of_ble_eq_true rfl) dX5_split_20 ⟨Nat.le_of_ble_eq_true rfl, Nat.le_of_ble_eq_true rfl⟩) rfl hD hS hA (fun _ _ _ _ _ h => False.elim h) (fun T16 H locs hp hP hD hS => ?_)
    obtain ⟨hk17, hr17⟩ := hp
    have N17 : Kp z S T16 := hk17
    have K17 : Kp z S T16 := Kp.trans hI.kp N17
    have I17 : Inv z e0 T16 := hI.keep K17.1
    have o18 : Ob T16 2 (lv n) := N17.1.ob (hR.2.1 n hn).1
    refine lv_aload_n hx hb dX5_split_23 rfl (lv_at hl 2 rfl) ?_
    refine lv_iload_n hx hb dX5_split_24 rfl (lv_at hl 3 rfl) ?_
    refine rp_Line_amount F hK hP hD hS o18 kw_280 dX5_split_25 (fun H locs hP hD hS => ?_)
    have hR19 := Rq.linx (x := fo) (f := 23) (v := f) hr17 (by rw [q_scan_o (by decide)]; exact hn) (by decide) hfo
    refine lv_aload_n hx hb dX5_split_28 rfl (lv_at hl 1 rfl) ?_
    refine lv_aload_n hx hb dX5_split_29 rfl (lv_at hl 2 rfl) ?_
    refine rs_Line_article (b := av (q 21 n)) F hK hP o18 ((hR19.2.1 n hn).2.2.1) kw_325 dX5_split_30 ?_
    refine lv_iload_n hx hb dX5_split_33 rfl (lv_at hl 0 rfl) ?_
    refine lv_aload_n hx hb dX5_split_34 rfl (lv_at hl 2 rfl) ?_
    refine rg_Line_carrier F hK hP o18 kw_410 dX5_split_35 ?_
    refine lv_topi (fun x20 ex20 => ?_)
    refine kcallI (kV (n := 3) (As := [.ref (av (q 21 n)), .int x2, .int x20]) (rest := []) (b := (z 0)) (C := RX5) F hE hK hP hD hS hA (c_X5_letCome_x l hl0 g e0 z (setF T16 23 (lv n) fo) _ (hI.keep (kp_setF K17 (by decide) (by decide)).1) av lv (q_up (q_scan n 100 q) 23 n f) hR19 (q 21 n) ((q 23 n) - f) (q 22 n) ((hR19.2.1 n hn).2.2.2.1) (by rw [n72]; have := hW.1.1.1; omega) (by rw [n73]; omega) x2 x20 (by rw [ex2, (show (x1 : Int32) = nI (q 23 n) from (ex1.trans ((hR.2.1 n hn).2.2.2.2.2.2 23 (by decide)))), (show (fo : Int32) = nI f from hfo)]; exact nI_subI (Nat.le_of_lt hf)) (ex20.trans ((hR19.2.1 n hn).2.2.2.2.2.2 22 (by decide))) (show q 42 0 + 1 < 516 by omega)) (rr_Pickwave hK hP (I17.1.1 0 (by decide))) kw_303 kw_304 kw_305 kw_2 kw_306 (by decide +kernel) ⟨Nat.le_of_ble_eq_true rfl, Nat.le_of_ble_eq_true rfl⟩ rfl hl.1 rfl (Nat.le_of_ble_eq_true rfl) dX5_split_38 ⟨Nat.le_of_ble_eq_true rfl, Nat.le_of_ble_eq_true rfl⟩) rfl hD hS hA (fun _ _ _ _ _ h => False.elim h) (fun r21 T21 H locs hp hP hD hS => ?_)
    obtain ⟨I22, ⟨x22, hy22⟩, hv22⟩ := hp
    obtain ⟨lv22, hlv22⟩ : ∃ g9 : Nat → Nat, g9 = lvu lv ((q_up (q_scan n 100 q) 23 n f) 73 0) x22 := ⟨_, rfl⟩
    rw [← hlv22] at hy22
    have hln : lv22 n = lv n := by rw [hlv22]; exact lvu_ne (by rw [n73]; omega)
    have hL9 := hy22.2.1 n (by rw [nc73]; omega)
    rw [hln, q_spl_21 hn n73] at hL9
    refine lv_istore (lv' := [(4, .int r21), (3, .int x2), (0, .ref (z 0)), (1, .ref (lv n)), (2, .int fo)]) hx hb dX5_split_41 hl (by decide) rfl (fun ls hl => ?_)
    refine lv_aload_n hx hb dX5_split_43 rfl (lv_at hl 3 rfl) ?_
    refine rs_Line_article (b := av (q 21 n)) F hK hP hL9.1 hL9.2.2.1 kw_325 dX5_split_44 ?_
    refine lv_iconst (v := 0) hx hb dX5_split_47 (by decide) ?_
    refine rp_Article_stock F hK hP hD hS (hy22.1 _ hL9.2.2.2.1).1 kw_196 dX5_split_48 (fun H locs hP hD hS => ?_)
    have hR23 := Rq.artx (x := 0) (f := 12) (v := 0) hy22 hL9.2.2.2.1 (by decide) (rfl : (0 : Int32) = nI 0)
    refine lv_aload_n hx hb dX5_split_51 rfl (lv_at hl 2 rfl) ?_
    refine lv_aload_n hx hb dX5_split_52 rfl (lv_at hl 3 rfl) ?_
    refine rs_Line_article (b := av (q 21 n)) F hK hP hL9.1 hL9.2.2.1 kw_325 dX5_split_53 ?_
    refine kcallU (kV (n := 1) (As := [.ref (av (q 21 n))]) (rest := []) (b := (z 0)) (C := RX5) F hE hK hP hD hS hA (c_X5_reopenOfArticle_x l hl0 g e0 z (setF T21 12 (av (q 21 n)) 0) _ (I22.keep (kp_setF I22.kp (by decide) (by decide)).1) av lv22 (q_up (q_come (q 21 n) ((q 23 n) - f) (q 22 n) (q_up (q_scan n 100 q) 23 n f)) 12 (q 21 n) 0) hR23 v4 (q 21 n) hL9.2.2.2.1) (rr_Pickwave hK hP (I22.1.1 0 (by decide))) kw_411 kw_412 kw_413 kw_2 kw_414 (by decide +kernel) ⟨Nat.le_of_ble_eq_true rfl, Nat.le_of_ble_eq_true rfl⟩ rfl hl.1 rfl (Nat.le_of_ble_eq_true rfl) dX5_split_56 ⟨Nat.le_of_ble_eq_true rfl, Nat.le_of_ble_eq_true rfl⟩) rfl hD hS hA (fun _ _ _ _ _ h => False.elim h) (fun T24 H locs hp hP hD hS => ?_)
    obtain ⟨hk25, hr25⟩ := hp
    have N25 : Kp z (setF T21 12 (av (q 21 n)) 0) T24 := hk25
    have K25 : Kp z T21 T24 := Kp.trans (kp_setF I22.kp (by decide) (by decide)) N25
    have I25 : Inv z e0 T24 := I22.keep K25.1
    have o26 : Ob T24 2 (lv n) := N25.1.ob hL9.1
    have o27 : Ob T24 1 (av (q 21 n)) := N25.1.ob (hy22.1 _ hL9.2.2.2.1).1
    refine lv_iload hx hb dX5_split_59 (lv_at hl 0 rfl) ?_
    exact kEndI F hr rfl hlk hP hD hS (Nat.le_of_ble_eq_true rfl) (Nat.le_of_ble_eq_true rfl) dX5_split_61 ⟨_, rfl, ⟨I22.keep K25.1, ⟨x22, by have h9 := hr25; rw [n4, hlv22, n73] at h9; rw [q_spl_e hsf]; exact h9⟩, ((hv22).trans (congrArg nI n73))⟩⟩
