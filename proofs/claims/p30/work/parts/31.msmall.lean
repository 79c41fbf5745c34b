theorem dX6_in_0 : decode cX6_in 0 = .ok (.iload_n 0, 1) := by decide +kernel
theorem dX6_in_1 : decode cX6_in 1 = .ok (.iload_n 1, 1) := by decide +kernel
theorem dX6_in_2 : decode cX6_in 2 = .ok (.if_icmp .lt 12, 3) := by decide +kernel
theorem dX6_in_5 : decode cX6_in 5 = .ok (.iload_n 0, 1) := by decide +kernel
theorem dX6_in_6 : decode cX6_in 6 = .ok (.iload_n 2, 1) := by decide +kernel
theorem dX6_in_7 : decode cX6_in 7 = .ok (.if_icmp .gt 7, 3) := by decide +kernel
theorem dX6_in_10 : decode cX6_in 10 = .ok (.iconst 1, 1) := by decide +kernel
theorem dX6_in_11 : decode cX6_in 11 = .ok (.goto 4, 3) := by decide +kernel
theorem dX6_in_14 : decode cX6_in 14 = .ok (.iconst 0, 1) := by decide +kernel
theorem dX6_in_15 : decode cX6_in 15 = .ok (.ireturn, 1) := by decide +kernel
set_option maxHeartbeats 4000000 in
set_option maxRecDepth 100000 in
theorem c_X6_in (l : Launch) (hl0 : l.stackTraces = false) (g : kG) (e0 : Nat) (S : wPS) (sz : Nat) (n lo hi : Int32) : kM l g e0 yX6_in cX6_in 3 (some .boolean) 0 0 0 0 [.int n, .int lo, .int hi] S sz (pI (fun r T => T = S ∧ ((r = 1 ∧ ¬ n < lo ∧ ¬ hi < n) ∨ (r = 0 ∧ (n < lo ∨ hi < n))))) (fun E => False) := by
  refine kM.of (by decide) (Nat.le_of_ble_eq_true rfl) ?_
  intro p e s m below meth c ls B hin
  obtain ⟨F, hr, hlk, hte, hP, hK, hD, hE, hS, hA, hl, hsz⟩ := B
  subst hsz
  have hx := F.1
  have hb := F.2.1
  have hl : lv_has ls 3 [(0, .int n), (1, .int lo), (2, .int hi)] := hl
  refine lv_iload_n hx hb dX6_in_0 rfl (lv_at hl 0 rfl) ?_
  refine lv_iload_n hx hb dX6_in_1 rfl (lv_at hl 1 rfl) ?_
  refine lv_icmp_lt (tgt := 14) hx hb dX6_in_2 (by decide) (fun c1 => ?_) (fun c1 => ?_)
  · refine lv_iconst (v := 0) hx hb dX6_in_14 (by decide) ?_
    exact kEndI F hr rfl hlk hP hD hS (Nat.le_of_ble_eq_true rfl) (Nat.le_of_ble_eq_true rfl) dX6_in_15 ⟨_, rfl, ⟨rfl, Or.inr ⟨rfl, Or.inl c1⟩⟩⟩
  · refine lv_iload_n hx hb dX6_in_5 rfl (lv_at hl 0 rfl) ?_
    refine lv_iload_n hx hb dX6_in_6 rfl (lv_at hl 2 rfl) ?_
    refine lv_icmp_gt (tgt := 14) hx hb dX6_in_7 (by decide) (fun c2 => ?_) (fun c2 => ?_)
    · refine lv_iconst (v := 0) hx hb dX6_in_14 (by decide) ?_
      exact kEndI F hr rfl hlk hP hD hS (Nat.le_of_ble_eq_true rfl) (Nat.le_of_ble_eq_true rfl) dX6_in_15 ⟨_, rfl, ⟨rfl, Or.inr ⟨rfl, Or.inr c2⟩⟩⟩
    · refine lv_iconst (v := 1) hx hb dX6_in_10 (by decide) ?_
      refine lv_goto (tgt := 15) hx hb dX6_in_11 (by decide) ?_
      exact kEndI F hr rfl hlk hP hD hS (Nat.le_of_ble_eq_true rfl) (Nat.le_of_ble_eq_true rfl) dX6_in_15 ⟨_, rfl, ⟨rfl, Or.inl ⟨rfl, c1, c2⟩⟩⟩
theorem dX6_fails_0 : decode cX6_fails 0 = .ok (.aload_n 0, 1) := by decide +kernel
theorem dX6_fails_1 : decode cX6_fails 1 = .ok (.iload_n 1, 1) := by decide +kernel
theorem dX6_fails_2 : decode cX6_fails 2 = .ok (.putfield 62, 3) := by decide +kernel
theorem dX6_fails_5 : decode cX6_fails 5 = .ok (.iconst 0, 1) := by decide +kernel
theorem dX6_fails_6 : decode cX6_fails 6 = .ok (.ireturn, 1) := by decide +kernel
set_option maxHeartbeats 4000000 in
set_option maxRecDepth 100000 in
theorem c_X6_fails (l : Launch) (hl0 : l.stackTraces = false) (g : kG) (e0 : Nat) (S : wPS) (sz : Nat) (q : Nat) (n : Int32) (oq : Ob S 6 q) : kM l g e0 yX6_fails cX6_fails 2 (some .int) 0 0 0 0 [.ref q, .int n] S sz (pI (fun r T => T = setF S 100 q n ∧ r = 0)) (fun E => False) := by
  refine kM.of (by decide) (Nat.le_of_ble_eq_true rfl) ?_
  intro p e s m below meth c ls B hin
  obtain ⟨F, hr, hlk, hte, hP, hK, hD, hE, hS, hA, hl, hsz⟩ := B
  subst hsz
  have hx := F.1
  have hb := F.2.1
  have hl : lv_has ls 2 [(0, .ref q), (1, .int n)] := hl
  refine lv_aload_n hx hb dX6_fails_0 rfl (lv_at hl 0 rfl) ?_
  refine lv_iload_n hx hb dX6_fails_1 rfl (lv_at hl 1 rfl) ?_
  refine rp_Model_thrown F hK hP hD hS oq kw_179 dX6_fails_2 (fun H locs hP hD hS => ?_)
  refine lv_iconst (v := 0) hx hb dX6_fails_5 (by decide) ?_
  exact kEndI F hr rfl hlk hP hD hS (Nat.le_of_ble_eq_true rfl) (Nat.le_of_ble_eq_true rfl) dX6_fails_6 ⟨_, rfl, ⟨rfl, rfl⟩⟩
theorem dX6_isArticle_0 : decode cX6_isArticle 0 = .ok (.aload_n 0, 1) := by decide +kernel
theorem dX6_isArticle_1 : decode cX6_isArticle 1 = .ok (.iload_n 1, 1) := by decide +kernel
theorem dX6_isArticle_2 : decode cX6_isArticle 2 = .ok (.iconst 0, 1) := by decide +kernel
theorem dX6_isArticle_3 : decode cX6_isArticle 3 = .ok (.aload_n 0, 1) := by decide +kernel
theorem dX6_isArticle_4 : decode cX6_isArticle 4 = .ok (.getfield 66, 3) := by decide +kernel
theorem dX6_isArticle_7 : decode cX6_isArticle 7 = .ok (.iconst 1, 1) := by decide +kernel
theorem dX6_isArticle_8 : decode cX6_isArticle 8 = .ok (.isub, 1) := by decide +kernel
theorem dX6_isArticle_9 : decode cX6_isArticle 9 = .ok (.invokestatic 69, 3) := by decide +kernel
theorem dX6_isArticle_12 : decode cX6_isArticle 12 = .ok (.ifCond .eq 7, 3) := by decide +kernel
theorem dX6_isArticle_15 : decode cX6_isArticle 15 = .ok (.iconst 0, 1) := by decide +kernel
theorem dX6_isArticle_16 : decode cX6_isArticle 16 = .ok (.goto 4, 3) := by decide +kernel
theorem dX6_isArticle_19 : decode cX6_isArticle 19 = .ok (.iconst 1, 1) := by decide +kernel
theorem dX6_isArticle_20 : decode cX6_isArticle 20 = .ok (.putfield 62, 3) := by decide +kernel
theorem dX6_isArticle_23 : decode cX6_isArticle 23 = .ok (.aload_n 0, 1) := by decide +kernel
theorem dX6_isArticle_24 : decode cX6_isArticle 24 = .ok (.getfield 62, 3) := by decide +kernel
theorem dX6_isArticle_27 : decode cX6_isArticle 27 = .ok (.ifCond .ne 7, 3) := by decide +kernel
theorem dX6_isArticle_30 : decode cX6_isArticle 30 = .ok (.iconst 1, 1) := by decide +kernel
theorem dX6_isArticle_31 : decode cX6_isArticle 31 = .ok (.goto 4, 3) := by decide +kernel
theorem dX6_isArticle_34 : decode cX6_isArticle 34 = .ok (.iconst 0, 1) := by decide +kernel
theorem dX6_isArticle_35 : decode cX6_isArticle 35 = .ok (.ireturn, 1) := by decide +kernel
set_option maxHeartbeats 4000000 in
set_option maxRecDepth 100000 in
theorem c_X6_isArticle (l : Launch) (hl0 : l.stackTraces = false) (g : kG) (e0 : Nat) (w : Nat → Nat) (S : wPS) (sz : Nat) (hI : MI w S) (n : Int32) : kM l g e0 yX6_isArticle cX6_isArticle 2 (some .boolean) 1 22 0 0 [.ref (w 0), .int n] S sz (pI (fun r T => (r = 1 ∧ T = setF S 100 (w 0) 0 ∧ ∃ m, m ≤ 6 ∧ pF S 101 (w 0) = nI m ∧ ∃ j, j < m ∧ n = nI j) ∨ (r = 0 ∧ T = setF S 100 (w 0) 1 ∧ (n < 0 ∨ pF S 101 (w 0) - 1 < n)))) (fun E => False) := by
  refine kM.of (by decide) (Nat.le_of_ble_eq_true rfl) ?_
  intro p e s m below meth c ls B hin
  obtain ⟨F, hr, hlk, hte, hP, hK, hD, hE, hS, hA, hl, hsz⟩ := B
  subst hsz
  have hx := F.1
  have hb := F.2.1
  have hl : lv_has ls 2 [(0, .ref (w 0)), (1, .int n)] := hl
  refine lv_aload_n hx hb dX6_isArticle_0 rfl (lv_at hl 0 rfl) ?_
  refine lv_iload_n hx hb dX6_isArticle_1 rfl (lv_at hl 1 rfl) ?_
  refine lv_iconst (v := 0) hx hb dX6_isArticle_2 (by decide) ?_
  refine lv_aload_n hx hb dX6_isArticle_3 rfl (lv_at hl 0 rfl) ?_
  refine rg_Model_articles F hK hP (hI.1.1 0 (by decide)) kw_178 dX6_isArticle_4 ?_
  refine lv_topi (fun x1 ex1 => ?_)
  refine lv_iconst (v := 1) hx hb dX6_isArticle_7 (by decide) ?_
  refine lv_isub hx hb dX6_isArticle_8 ?_
  refine lv_topi (fun x2 ex2 => ?_)
  refine kcallI (kSt (n := 3) (As := [.int n, .int 0, .int x2]) (rest := [.ref (w 0)]) F hE hK hP hD hS hA (c_X6_in l hl0 g e0 S _ n 0 x2) kw_180 kw_181 kw_5 kw_182 (by decide +kernel) ⟨Nat.le_of_ble_eq_true rfl, Nat.le_of_ble_eq_true rfl⟩ rfl hl.1 rfl (Nat.le_of_ble_eq_true rfl) dX6_isArticle_9 ⟨Nat.le_of_ble_eq_true rfl, Nat.le_of_ble_eq_true rfl⟩) rfl hD hS hA (fun _ _ _ _ _ h => False.elim h) (fun r3 T3 H locs hp hP hD hS => ?_)
  obtain ⟨hT, hp4⟩ := hp
  have hT := hT.symm
  subst hT
  refine lv_if_eq (tgt := 19) hx hb dX6_isArticle_12 (by decide) (fun c5 => ?_) (fun c5 => ?_)
  · refine lv_iconst (v := 1) hx hb dX6_isArticle_19 (by decide) ?_
    refine rp_Model_thrown F hK hP hD hS (hI.1.1 0 (by decide)) kw_179 dX6_isArticle_20 (fun H locs hP hD hS => ?_)
    have m6 : Mr w S (setF S 100 (w 0) 1) := (Mr.rf hI).thr
    refine lv_aload_n hx hb dX6_isArticle_23 rfl (lv_at hl 0 rfl) ?_
    refine rg_Model_thrown F hK hP (m6.1.1.1 0 (by decide)) kw_179 dX6_isArticle_24 ?_
    refine lv_topi (fun x7 ex7 => ?_)
    have hx7 : x7 = 1 := by rw [ex7]; exact uF_at
    rw [hx7]
    refine lv_if_ne (tgt := 34) hx hb dX6_isArticle_27 (by decide) (fun c8 => ?_) (fun c8 => ?_)
    · refine lv_iconst (v := 0) hx hb dX6_isArticle_34 (by decide) ?_
      exact kEndI F hr rfl hlk hP hD hS (Nat.le_of_ble_eq_true rfl) (Nat.le_of_ble_eq_true rfl) dX6_isArticle_35 ⟨_, rfl, Or.inr ⟨rfl, rfl, by rw [← ex1, ← ex2]; exact (by rcases hp4 with ⟨h, -, -⟩ | ⟨-, h⟩; exact absurd c5 (by rw [h]; decide); exact h)⟩⟩
    · exact absurd c8 (by decide)
  · refine lv_iconst (v := 0) hx hb dX6_isArticle_15 (by decide) ?_
    refine lv_goto (tgt := 20) hx hb dX6_isArticle_16 (by decide) ?_
    refine rp_Model_thrown F hK hP hD hS (hI.1.1 0 (by decide)) kw_179 dX6_isArticle_20 (fun H locs hP hD hS => ?_)
    have m9 : Mr w S (setF S 100 (w 0) 0) := (Mr.rf hI).thr
    refine lv_aload_n hx hb dX6_isArticle_23 rfl (lv_at hl 0 rfl) ?_
    refine rg_Model_thrown F hK hP (m9.1.1.1 0 (by decide)) kw_179 dX6_isArticle_24 ?_
    refine lv_topi (fun x10 ex10 => ?_)
    have hx10 : x10 = 0 := by rw [ex10]; exact uF_at
    rw [hx10]
    refine lv_if_ne (tgt := 34) hx hb dX6_isArticle_27 (by decide) (fun c11 => ?_) (fun c11 => ?_)
    · exact absurd c11 (by decide)
    · refine lv_iconst (v := 1) hx hb dX6_isArticle_30 (by decide) ?_
      refine lv_goto (tgt := 35) hx hb dX6_isArticle_31 (by decide) ?_
      obtain ⟨m9, hm9, hm8⟩ := hI.2.2.1.1
      have hb := (show _ ∧ _ from by rcases hp4 with ⟨-, h1, h2⟩ | ⟨h, -⟩; exact ⟨h1, h2⟩; exact absurd c5 (by rw [h]; decide))
      have ha0 : x1 = nI m9 := ex1.trans hm8
      have hb2 : ¬ x1 - 1 < n := by rw [← ex2]; exact hb.2
      exact kEndI F hr rfl hlk hP hD hS (Nat.le_of_ble_eq_true rfl) (Nat.le_of_ble_eq_true rfl) dX6_isArticle_35 ⟨_, rfl, Or.inl ⟨rfl, rfl, m9, hm9, hm8, kixm ha0 hm9 (by decide) hb.1 hb2⟩⟩
theorem dX6_isOrder_0 : decode cX6_isOrder 0 = .ok (.aload_n 0, 1) := by decide +kernel
theorem dX6_isOrder_1 : decode cX6_isOrder 1 = .ok (.iload_n 1, 1) := by decide +kernel
theorem dX6_isOrder_2 : decode cX6_isOrder 2 = .ok (.iconst 0, 1) := by decide +kernel
theorem dX6_isOrder_3 : decode cX6_isOrder 3 = .ok (.aload_n 0, 1) := by decide +kernel
theorem dX6_isOrder_4 : decode cX6_isOrder 4 = .ok (.getfield 73, 3) := by decide +kernel
theorem dX6_isOrder_7 : decode cX6_isOrder 7 = .ok (.iconst 1, 1) := by decide +kernel
theorem dX6_isOrder_8 : decode cX6_isOrder 8 = .ok (.isub, 1) := by decide +kernel
theorem dX6_isOrder_9 : decode cX6_isOrder 9 = .ok (.invokestatic 69, 3) := by decide +kernel
theorem dX6_isOrder_12 : decode cX6_isOrder 12 = .ok (.ifCond .eq 7, 3) := by decide +kernel
theorem dX6_isOrder_15 : decode cX6_isOrder 15 = .ok (.iconst 0, 1) := by decide +kernel
theorem dX6_isOrder_16 : decode cX6_isOrder 16 = .ok (.goto 4, 3) := by decide +kernel
theorem dX6_isOrder_19 : decode cX6_isOrder 19 = .ok (.iconst 1, 1) := by decide +kernel
theorem dX6_isOrder_20 : decode cX6_isOrder 20 = .ok (.putfield 62, 3) := by decide +kernel
theorem dX6_isOrder_23 : decode cX6_isOrder 23 = .ok (.aload_n 0, 1) := by decide +kernel
theorem dX6_isOrder_24 : decode cX6_isOrder 24 = .ok (.getfield 62, 3) := by decide +kernel
theorem dX6_isOrder_27 : decode cX6_isOrder 27 = .ok (.ifCond .ne 7, 3) := by decide +kernel
theorem dX6_isOrder_30 : decode cX6_isOrder 30 = .ok (.iconst 1, 1) := by decide +kernel
theorem dX6_isOrder_31 : decode cX6_isOrder 31 = .ok (.goto 4, 3) := by decide +kernel
theorem dX6_isOrder_34 : decode cX6_isOrder 34 = .ok (.iconst 0, 1) := by decide +kernel
theorem dX6_isOrder_35 : decode cX6_isOrder 35 = .ok (.ireturn, 1) := by decide +kernel
set_option maxHeartbeats 4000000 in
set_option maxRecDepth 100000 in
theorem c_X6_isOrder (l : Launch) (hl0 : l.stackTraces = false) (g : kG) (e0 : Nat) (w : Nat → Nat) (S : wPS) (sz : Nat) (hI : MI w S) (n : Int32) : kM l g e0 yX6_isOrder cX6_isOrder 2 (some .boolean) 1 22 0 0 [.ref (w 0), .int n] S sz (pI (fun r T => (r = 1 ∧ T = setF S 100 (w 0) 0 ∧ ∃ m, m ≤ 12 ∧ pF S 102 (w 0) = nI m ∧ ∃ j, j < m ∧ n = nI j) ∨ (r = 0 ∧ T = setF S 100 (w 0) 1 ∧ (n < 0 ∨ pF S 102 (w 0) - 1 < n)))) (fun E => False) := by
  refine kM.of (by decide) (Nat.le_of_ble_eq_true rfl) ?_
  intro p e s m below meth c ls B hin
  obtain ⟨F, hr, hlk, hte, hP, hK, hD, hE, hS, hA, hl, hsz⟩ := B
  subst hsz
  have hx := F.1
  have hb := F.2.1
  have hl : lv_has ls 2 [(0, .ref (w 0)), (1, .int n)] := hl
  refine lv_aload_n hx hb dX6_isOrder_0 rfl (lv_at hl 0 rfl) ?_
  refine lv_iload_n hx hb dX6_isOrder_1 rfl (lv_at hl 1 rfl) ?_
  refine lv_iconst (v := 0) hx hb dX6_isOrder_2 (by decide) ?_
  refine lv_aload_n hx hb dX6_isOrder_3 rfl (lv_at hl 0 rfl) ?_
  refine rg_Model_orders F hK hP (hI.1.1 0 (by decide)) kw_263 dX6_isOrder_4 ?_
  refine lv_topi (fun x1 ex1 => ?_)
  refine lv_iconst (v := 1) hx hb dX6_isOrder_7 (by decide) ?_
  refine lv_isub hx hb dX6_isOrder_8 ?_
  refine lv_topi (fun x2 ex2 => ?_)
  refine kcallI (kSt (n := 3) (As := [.int n, .int 0, .int x2]) (rest := [.ref (w 0)]) F hE hK hP hD hS hA (c_X6_in l hl0 g e0 S _ n 0 x2) kw_180 kw_181 kw_5 kw_182 (by decide +kernel) ⟨Nat.le_of_ble_eq_true rfl, Nat.le_of_ble_eq_true rfl⟩ rfl hl.1 rfl (Nat.le_of_ble_eq_true rfl) dX6_isOrder_9 ⟨Nat.le_of_ble_eq_true rfl, Nat.le_of_ble_eq_true rfl⟩) rfl hD hS hA (fun _ _ _ _ _ h => False.elim h) (fun r3 T3 H locs hp hP hD hS => ?_)
  obtain ⟨hT, hp4⟩ := hp
  have hT := hT.symm
  subst hT
  refine lv_if_eq (tgt := 19) hx hb dX6_isOrder_12 (by decide) (fun c5 => ?_) (fun c5 => ?_)
  · refine lv_iconst (v := 1) hx hb dX6_isOrder_19 (by decide) ?_
    refine rp_Model_thrown F hK hP hD hS (hI.1.1 0 (by decide)) kw_179 dX6_isOrder_20 (fun H locs hP hD hS => ?_)
    have m6 : Mr w S (setF S 100 (w 0) 1) := (Mr.rf hI).thr
    refine lv_aload_n hx hb dX6_isOrder_23 rfl (lv_at hl 0 rfl) ?_
    refine rg_Model_thrown F hK hP (m6.1.1.1 0 (by decide)) kw_179 dX6_isOrder_24 ?_
    refine lv_topi (fun x7 ex7 => ?_)
    have hx7 : x7 = 1 := by rw [ex7]; exact uF_at
    rw [hx7]
    refine lv_if_ne (tgt := 34) hx hb dX6_isOrder_27 (by decide) (fun c8 => ?_) (fun c8 => ?_)
    · refine lv_iconst (v := 0) hx hb dX6_isOrder_34 (by decide) ?_
      exact kEndI F hr rfl hlk hP hD hS (Nat.le_of_ble_eq_true rfl) (Nat.le_of_ble_eq_true rfl) dX6_isOrder_35 ⟨_, rfl, Or.inr ⟨rfl, rfl, by rw [← ex1, ← ex2]; exact (by rcases hp4 with ⟨h, -, -⟩ | ⟨-, h⟩; exact absurd c5 (by rw [h]; decide); exact h)⟩⟩
    · exact absurd c8 (by decide)
  · refine lv_iconst (v := 0) hx hb dX6_isOrder_15 (by decide) ?_
    refine lv_goto (tgt := 20) hx hb dX6_isOrder_16 (by decide) ?_
    refine rp_Model_thrown F hK hP hD hS (hI.1.1 0 (by decide)) kw_179 dX6_isOrder_20 (fun H locs hP hD hS => ?_)
    have m9 : Mr w S (setF S 100 (w 0) 0) := (Mr.rf hI).thr
    refine lv_aload_n hx hb dX6_isOrder_23 rfl (lv_at hl 0 rfl) ?_
    refine rg_Model_thrown F hK hP (m9.1.1.1 0 (by decide)) kw_179 dX6_isOrder_24 ?_
    refine lv_topi (fun x10 ex10 => ?_)
    have hx10 : x10 = 0 := by rw [ex10]; exact uF_at
    rw [hx10]
    refine lv_if_ne (tgt := 34) hx hb dX6_isOrder_27 (by decide) (fun c11 => ?_) (fun c11 => ?_)
    · exact absurd c11 (by decide)
    · refine lv_iconst (v := 1) hx hb dX6_isOrder_30 (by decide) ?_
      refine lv_goto (tgt := 35) hx hb dX6_isOrder_31 (by decide) ?_
      obtain ⟨m9, hm9, hm8⟩ := hI.2.2.1.2
      have hb := (show _ ∧ _ from by rcases hp4 with ⟨-, h1, h2⟩ | ⟨h, -⟩; exact ⟨h1, h2⟩; exact absurd c5 (by rw [h]; decide))
      have ha0 : x1 = nI m9 := ex1.trans hm8
      have hb2 : ¬ x1 - 1 < n := by rw [← ex2]; exact hb.2
      exact kEndI F hr rfl hlk hP hD hS (Nat.le_of_ble_eq_true rfl) (Nat.le_of_ble_eq_true rfl) dX6_isOrder_35 ⟨_, rfl, Or.inl ⟨rfl, rfl, m9, hm9, hm8, kixm ha0 hm9 (by decide) hb.1 hb2⟩⟩
theorem dX6_isAisle_0 : decode cX6_isAisle 0 = .ok (.aload_n 0, 1) := by decide +kernel
theorem dX6_isAisle_1 : decode cX6_isAisle 1 = .ok (.iload_n 1, 1) := by decide +kernel
theorem dX6_isAisle_2 : decode cX6_isAisle 2 = .ok (.iconst 0, 1) := by decide +kernel
theorem dX6_isAisle_3 : decode cX6_isAisle 3 = .ok (.iconst 3, 1) := by decide +kernel
theorem dX6_isAisle_4 : decode cX6_isAisle 4 = .ok (.invokestatic 69, 3) := by decide +kernel
theorem dX6_isAisle_7 : decode cX6_isAisle 7 = .ok (.ifCond .eq 7, 3) := by decide +kernel
theorem dX6_isAisle_10 : decode cX6_isAisle 10 = .ok (.iconst 0, 1) := by decide +kernel
theorem dX6_isAisle_11 : decode cX6_isAisle 11 = .ok (.goto 4, 3) := by decide +kernel
theorem dX6_isAisle_14 : decode cX6_isAisle 14 = .ok (.iconst 1, 1) := by decide +kernel
theorem dX6_isAisle_15 : decode cX6_isAisle 15 = .ok (.putfield 62, 3) := by decide +kernel
theorem dX6_isAisle_18 : decode cX6_isAisle 18 = .ok (.aload_n 0, 1) := by decide +kernel
theorem dX6_isAisle_19 : decode cX6_isAisle 19 = .ok (.getfield 62, 3) := by decide +kernel
theorem dX6_isAisle_22 : decode cX6_isAisle 22 = .ok (.ifCond .ne 7, 3) := by decide +kernel
theorem dX6_isAisle_25 : decode cX6_isAisle 25 = .ok (.iconst 1, 1) := by decide +kernel
theorem dX6_isAisle_26 : decode cX6_isAisle 26 = .ok (.goto 4, 3) := by decide +kernel
theorem dX6_isAisle_29 : decode cX6_isAisle 29 = .ok (.iconst 0, 1) := by decide +kernel
theorem dX6_isAisle_30 : decode cX6_isAisle 30 = .ok (.ireturn, 1) := by decide +kernel
set_option maxHeartbeats 4000000 in
set_option maxRecDepth 100000 in
theorem c_X6_isAisle (l : Launch) (hl0 : l.stackTraces = false) (g : kG) (e0 : Nat) (w : Nat → Nat) (S : wPS) (sz : Nat) (hI : MI w S) (n : Int32) : kM l g e0 yX6_isAisle cX6_isAisle 2 (some .boolean) 1 22 0 0 [.ref (w 0), .int n] S sz (pI (fun r T => (r = 1 ∧ T = setF S 100 (w 0) 0 ∧ ∃ j, j < 4 ∧ n = nI j) ∨ (r = 0 ∧ T = setF S 100 (w 0) 1 ∧ (n < 0 ∨ 3 < n)))) (fun E => False) := by
  refine kM.of (by decide) (Nat.le_of_ble_eq_true rfl) ?_
  intro p e s m below meth c ls B hin
  obtain ⟨F, hr, hlk, hte, hP, hK, hD, hE, hS, hA, hl, hsz⟩ := B
  subst hsz
  have hx := F.1
  have hb := F.2.1
  have hl : lv_has ls 2 [(0, .ref (w 0)), (1, .int n)] := hl
  refine lv_aload_n hx hb dX6_isAisle_0 rfl (lv_at hl 0 rfl) ?_
  refine lv_iload_n hx hb dX6_isAisle_1 rfl (lv_at hl 1 rfl) ?_
  refine lv_iconst (v := 0) hx hb dX6_isAisle_2 (by decide) ?_
  refine lv_iconst (v := 3) hx hb dX6_isAisle_3 (by decide) ?_
  refine kcallI (kSt (n := 3) (As := [.int n, .int 0, .int 3]) (rest := [.ref (w 0)]) F hE hK hP hD hS hA (c_X6_in l hl0 g e0 S _ n 0 3) kw_180 kw_181 kw_5 kw_182 (by decide +kernel) ⟨Nat.le_of_ble_eq_true rfl, Nat.le_of_ble_eq_true rfl⟩ rfl hl.1 rfl (Nat.le_of_ble_eq_true rfl) dX6_isAisle_4 ⟨Nat.le_of_ble_eq_true rfl, Nat.le_of_ble_eq_true rfl⟩) rfl hD hS hA (fun _ _ _ _ _ h => False.elim h) (fun r1 T1 H locs hp hP hD hS => ?_)
  obtain ⟨hT, hp2⟩ := hp
  have hT := hT.symm
  subst hT
  refine lv_if_eq (tgt := 14) hx hb dX6_isAisle_7 (by decide) (fun c3 => ?_) (fun c3 => ?_)
  · refine lv_iconst (v := 1) hx hb dX6_isAisle_14 (by decide) ?_
    refine rp_Model_thrown F hK hP hD hS (hI.1.1 0 (by decide)) kw_179 dX6_isAisle_15 (fun H locs hP hD hS => ?_)
    have m4 : Mr w S (setF S 100 (w 0) 1) := (Mr.rf hI).thr
    refine lv_aload_n hx hb dX6_isAisle_18 rfl (lv_at hl 0 rfl) ?_
    refine rg_Model_thrown F hK hP (m4.1.1.1 0 (by decide)) kw_179 dX6_isAisle_19 ?_
    refine lv_topi (fun x5 ex5 => ?_)
    have hx5 : x5 = 1 := by rw [ex5]; exact uF_at
    rw [hx5]
    refine lv_if_ne (tgt := 29) hx hb dX6_isAisle_22 (by decide) (fun c6 => ?_) (fun c6 => ?_)
    · refine lv_iconst (v := 0) hx hb dX6_isAisle_29 (by decide) ?_
      exact kEndI F hr rfl hlk hP hD hS (Nat.le_of_ble_eq_true rfl) (Nat.le_of_ble_eq_true rfl) dX6_isAisle_30 ⟨_, rfl, Or.inr ⟨rfl, rfl, (by rcases hp2 with ⟨h, -, -⟩ | ⟨-, h⟩; exact absurd c3 (by rw [h]; decide); exact h)⟩⟩
    · exact absurd c6 (by decide)
  · refine lv_iconst (v := 0) hx hb dX6_isAisle_10 (by decide) ?_
    refine lv_goto (tgt := 15) hx hb dX6_isAisle_11 (by decide) ?_
    refine rp_Model_thrown F hK hP hD hS (hI.1.1 0 (by decide)) kw_179 dX6_isAisle_15 (fun H locs hP hD hS => ?_)
    have m7 : Mr w S (setF S 100 (w 0) 0) := (Mr.rf hI).thr
    refine lv_aload_n hx hb dX6_isAisle_18 rfl (lv_at hl 0 rfl) ?_
    refine rg_Model_thrown F hK hP (m7.1.1.1 0 (by decide)) kw_179 dX6_isAisle_19 ?_
    refine lv_topi (fun x8 ex8 => ?_)
    have hx8 : x8 = 0 := by rw [ex8]; exact uF_at
    rw [hx8]
    refine lv_if_ne (tgt := 29) hx hb dX6_isAisle_22 (by decide) (fun c9 => ?_) (fun c9 => ?_)
    · exact absurd c9 (by decide)
    · refine lv_iconst (v := 1) hx hb dX6_isAisle_25 (by decide) ?_
      refine lv_goto (tgt := 30) hx hb dX6_isAisle_26 (by decide) ?_
      have hb := (show _ ∧ _ from by rcases hp2 with ⟨-, h1, h2⟩ | ⟨h, -⟩; exact ⟨h1, h2⟩; exact absurd c3 (by rw [h]; decide))
      exact kEndI F hr rfl hlk hP hD hS (Nat.le_of_ble_eq_true rfl) (Nat.le_of_ble_eq_true rfl) dX6_isAisle_30 ⟨_, rfl, Or.inl ⟨rfl, rfl, kix (M := 4) (N := 4) rfl (by decide) hb.1 (fun c => hb.2 (Int32.lt_of_lt_of_le (by decide) c))⟩⟩
theorem dX6_isCarrier_0 : decode cX6_isCarrier 0 = .ok (.aload_n 0, 1) := by decide +kernel
theorem dX6_isCarrier_1 : decode cX6_isCarrier 1 = .ok (.iload_n 1, 1) := by decide +kernel
theorem dX6_isCarrier_2 : decode cX6_isCarrier 2 = .ok (.iconst 0, 1) := by decide +kernel
theorem dX6_isCarrier_3 : decode cX6_isCarrier 3 = .ok (.iconst 2, 1) := by decide +kernel
theorem dX6_isCarrier_4 : decode cX6_isCarrier 4 = .ok (.invokestatic 69, 3) := by decide +kernel
theorem dX6_isCarrier_7 : decode cX6_isCarrier 7 = .ok (.ifCond .eq 7, 3) := by decide +kernel
theorem dX6_isCarrier_10 : decode cX6_isCarrier 10 = .ok (.iconst 0, 1) := by decide +kernel
theorem dX6_isCarrier_11 : decode cX6_isCarrier 11 = .ok (.goto 4, 3) := by decide +kernel
theorem dX6_isCarrier_14 : decode cX6_isCarrier 14 = .ok (.iconst 1, 1) := by decide +kernel
theorem dX6_isCarrier_15 : decode cX6_isCarrier 15 = .ok (.putfield 62, 3) := by decide +kernel
theorem dX6_isCarrier_18 : decode cX6_isCarrier 18 = .ok (.aload_n 0, 1) := by decide +kernel
theorem dX6_isCarrier_19 : decode cX6_isCarrier 19 = .ok (.getfield 62, 3) := by decide +kernel
theorem dX6_isCarrier_22 : decode cX6_isCarrier 22 = .ok (.ifCond .ne 7, 3) := by decide +kernel
theorem dX6_isCarrier_25 : decode cX6_isCarrier 25 = .ok (.iconst 1, 1) := by decide +kernel
theorem dX6_isCarrier_26 : decode cX6_isCarrier 26 = .ok (.goto 4, 3) := by decide +kernel
theorem dX6_isCarrier_29 : decode cX6_isCarrier 29 = .ok (.iconst 0, 1) := by decide +kernel
theorem dX6_isCarrier_30 : decode cX6_isCarrier 30 = .ok (.ireturn, 1) := by decide +kernel
set_option maxHeartbeats 4000000 in
set_option maxRecDepth 100000 in
theorem c_X6_isCarrier (l : Launch) (hl0 : l.stackTraces = false) (g : kG) (e0 : Nat) (w : Nat → Nat) (S : wPS) (sz : Nat) (hI : MI w S) (n : Int32) : kM l g e0 yX6_isCarrier cX6_isCarrier 2 (some .boolean) 1 22 0 0 [.ref (w 0), .int n] S sz (pI (fun r T => (r = 1 ∧ T = setF S 100 (w 0) 0 ∧ ∃ j, j < 3 ∧ n = nI j) ∨ (r = 0 ∧ T = setF S 100 (w 0) 1 ∧ (n < 0 ∨ 2 < n)))) (fun E => False) := by
  refine kM.of (by decide) (Nat.le_of_ble_eq_true rfl) ?_
  intro p e s m below meth c ls B hin
  obtain ⟨F, hr, hlk, hte, hP, hK, hD, hE, hS, hA, hl, hsz⟩ := B
  subst hsz
  have hx := F.1
  have hb := F.2.1
  have hl : lv_has ls 2 [(0, .ref (w 0)), (1, .int n)] := hl
  refine lv_aload_n hx hb dX6_isCarrier_0 rfl (lv_at hl 0 rfl) ?_
  refine lv_iload_n hx hb dX6_isCarrier_1 rfl (lv_at hl 1 rfl) ?_
  refine lv_iconst (v := 0) hx hb dX6_isCarrier_2 (by decide) ?_
  refine lv_iconst (v := 2) hx hb dX6_isCarrier_3 (by decide) ?_
  refine kcallI (kSt (n := 3) (As := [.int n, .int 0, .int 2]) (rest := [.ref (w 0)]) F hE hK hP hD hS hA (c_X6_in l hl0 g e0 S _ n 0 2) kw_180 kw_181 kw_5 kw_182 (by decide +kernel) ⟨Nat.le_of_ble_eq_true rfl, Nat.le_of_ble_eq_true rfl⟩ rfl hl.1 rfl (Nat.le_of_ble_eq_true rfl) dX6_isCarrier_4 ⟨Nat.le_of_ble_eq_true rfl, Nat.le_of_ble_eq_true rfl⟩) rfl hD hS hA (fun _ _ _ _ _ h => False.elim h) (fun r1 T1 H locs hp hP hD hS => ?_)
  obtain ⟨hT, hp2⟩ := hp
  have hT := hT.symm
  subst hT
  refine lv_if_eq (tgt := 14) hx hb dX6_isCarrier_7 (by decide) (fun c3 => ?_) (fun c3 => ?_)
  · refine lv_iconst (v := 1) hx hb dX6_isCarrier_14 (by decide) ?_
    refine rp_Model_thrown F hK hP hD hS (hI.1.1 0 (by decide)) kw_179 dX6_isCarrier_15 (fun H locs hP hD hS => ?_)
    have m4 : Mr w S (setF S 100 (w 0) 1) := (Mr.rf hI).thr
    refine lv_aload_n hx hb dX6_isCarrier_18 rfl (lv_at hl 0 rfl) ?_
    refine rg_Model_thrown F hK hP (m4.1.1.1 0 (by decide)) kw_179 dX6_isCarrier_19 ?_
    refine lv_topi (fun x5 ex5 => ?_)
    have hx5 : x5 = 1 := by rw [ex5]; exact uF_at
    rw [hx5]
    refine lv_if_ne (tgt := 29) hx hb dX6_isCarrier_22 (by decide) (fun c6 => ?_) (fun c6 => ?_)
    · refine lv_iconst (v := 0) hx hb dX6_isCarrier_29 (by decide) ?_
      exact kEndI F hr rfl hlk hP hD hS (Nat.le_of_ble_eq_true rfl) (Nat.le_of_ble_eq_true rfl) dX6_isCarrier_30 ⟨_, rfl, Or.inr ⟨rfl, rfl, (by rcases hp2 with ⟨h, -, -⟩ | ⟨-, h⟩; exact absurd c3 (by rw [h]; decide); exact h)⟩⟩
    · exact absurd c6 (by decide)
  · refine lv_iconst (v := 0) hx hb dX6_isCarrier_10 (by decide) ?_
    refine lv_goto (tgt := 15) hx hb dX6_isCarrier_11 (by decide) ?_
    refine rp_Model_thrown F hK hP hD hS (hI.1.1 0 (by decide)) kw_179 dX6_isCarrier_15 (fun H locs hP hD hS => ?_)
    have m7 : Mr w S (setF S 100 (w 0) 0) := (Mr.rf hI).thr
    refine lv_aload_n hx hb dX6_isCarrier_18 rfl (lv_at hl 0 rfl) ?_
    refine rg_Model_thrown F hK hP (m7.1.1.1 0 (by decide)) kw_179 dX6_isCarrier_19 ?_
    refine lv_topi (fun x8 ex8 => ?_)
    have hx8 : x8 = 0 := by rw [ex8]; exact uF_at
    rw [hx8]
    refine lv_if_ne (tgt := 29) hx hb dX6_isCarrier_22 (by decide) (fun c9 => ?_) (fun c9 => ?_)
    · exact absurd c9 (by decide)
    · refine lv_iconst (v := 1) hx hb dX6_isCarrier_25 (by decide) ?_
      refine lv_goto (tgt := 30) hx hb dX6_isCarrier_26 (by decide) ?_
      have hb := (show _ ∧ _ from by rcases hp2 with ⟨-, h1, h2⟩ | ⟨h, -⟩; exact ⟨h1, h2⟩; exact absurd c3 (by rw [h]; decide))
      exact kEndI F hr rfl hlk hP hD hS (Nat.le_of_ble_eq_true rfl) (Nat.le_of_ble_eq_true rfl) dX6_isCarrier_30 ⟨_, rfl, Or.inl ⟨rfl, rfl, kix (M := 3) (N := 3) rfl (by decide) hb.1 (fun c => hb.2 (Int32.lt_of_lt_of_le (by decide) c))⟩⟩
theorem dX6_isRobot_0 : decode cX6_isRobot 0 = .ok (.aload_n 0, 1) := by decide +kernel
theorem dX6_isRobot_1 : decode cX6_isRobot 1 = .ok (.iload_n 1, 1) := by decide +kernel
theorem dX6_isRobot_2 : decode cX6_isRobot 2 = .ok (.iconst 0, 1) := by decide +kernel
theorem dX6_isRobot_3 : decode cX6_isRobot 3 = .ok (.iconst 1, 1) := by decide +kernel
theorem dX6_isRobot_4 : decode cX6_isRobot 4 = .ok (.invokestatic 69, 3) := by decide +kernel
theorem dX6_isRobot_7 : decode cX6_isRobot 7 = .ok (.ifCond .eq 7, 3) := by decide +kernel
theorem dX6_isRobot_10 : decode cX6_isRobot 10 = .ok (.iconst 0, 1) := by decide +kernel
theorem dX6_isRobot_11 : decode cX6_isRobot 11 = .ok (.goto 4, 3) := by decide +kernel
theorem dX6_isRobot_14 : decode cX6_isRobot 14 = .ok (.iconst 1, 1) := by decide +kernel
theorem dX6_isRobot_15 : decode cX6_isRobot 15 = .ok (.putfield 62, 3) := by decide +kernel
theorem dX6_isRobot_18 : decode cX6_isRobot 18 = .ok (.aload_n 0, 1) := by decide +kernel
theorem dX6_isRobot_19 : decode cX6_isRobot 19 = .ok (.getfield 62, 3) := by decide +kernel
theorem dX6_isRobot_22 : decode cX6_isRobot 22 = .ok (.ifCond .ne 7, 3) := by decide +kernel
theorem dX6_isRobot_25 : decode cX6_isRobot 25 = .ok (.iconst 1, 1) := by decide +kernel
theorem dX6_isRobot_26 : decode cX6_isRobot 26 = .ok (.goto 4, 3) := by decide +kernel
theorem dX6_isRobot_29 : decode cX6_isRobot 29 = .ok (.iconst 0, 1) := by decide +kernel
theorem dX6_isRobot_30 : decode cX6_isRobot 30 = .ok (.ireturn, 1) := by decide +kernel
set_option maxHeartbeats 4000000 in
set_option maxRecDepth 100000 in
theorem c_X6_isRobot (l : Launch) (hl0 : l.stackTraces = false) (g : kG) (e0 : Nat) (w : Nat → Nat) (S : wPS) (sz : Nat) (hI : MI w S) (n : Int32) : kM l g e0 yX6_isRobot cX6_isRobot 2 (some .boolean) 1 22 0 0 [.ref (w 0), .int n] S sz (pI (fun r T => (r = 1 ∧ T = setF S 100 (w 0) 0 ∧ ∃ j, j < 2 ∧ n = nI j) ∨ (r = 0 ∧ T = setF S 100 (w 0) 1 ∧ (n < 0 ∨ 1 < n)))) (fun E => False) := by
  refine kM.of (by decide) (Nat.le_of_ble_eq_true rfl) ?_
  intro p e s m below meth c ls B hin
  obtain ⟨F, hr, hlk, hte, hP, hK, hD, hE, hS, hA, hl, hsz⟩ := B
  subst hsz
  have hx := F.1
  have hb := F.2.1
  have hl : lv_has ls 2 [(0, .ref (w 0)), (1, .int n)] := hl
  refine lv_aload_n hx hb dX6_isRobot_0 rfl (lv_at hl 0 rfl) ?_
  refine lv_iload_n hx hb dX6_isRobot_1 rfl (lv_at hl 1 rfl) ?_
  refine lv_iconst (v := 0) hx hb dX6_isRobot_2 (by decide) ?_
  refine lv_iconst (v := 1) hx hb dX6_isRobot_3 (by decide) ?_
  refine kcallI (kSt (n := 3) (As := [.int n, .int 0, .int 1]) (rest := [.ref (w 0)]) F hE hK hP hD hS hA (c_X6_in l hl0 g e0 S _ n 0 1) kw_180 kw_181 kw_5 kw_182 (by decide +kernel) ⟨Nat.le_of_ble_eq_true rfl, Nat.le_of_ble_eq_true rfl⟩ rfl hl.1 rfl (Nat.le_of_ble_eq_true rfl) dX6_isRobot_4 ⟨Nat.le_of_ble_eq_true rfl, Nat.le_of_ble_eq_true rfl⟩) rfl hD hS hA (fun _ _ _ _ _ h => False.elim h) (fun r1 T1 H locs hp hP hD hS => ?_)
  obtain ⟨hT, hp2⟩ := hp
  have hT := hT.symm
  subst hT
  refine lv_if_eq (tgt := 14) hx hb dX6_isRobot_7 (by decide) (fun c3 => ?_) (fun c3 => ?_)
  · refine lv_iconst (v := 1) hx hb dX6_isRobot_14 (by decide) ?_
    refine rp_Model_thrown F hK hP hD hS (hI.1.1 0 (by decide)) kw_179 dX6_isRobot_15 (fun H locs hP hD hS => ?_)
    have m4 : Mr w S (setF S 100 (w 0) 1) := (Mr.rf hI).thr
    refine lv_aload_n hx hb dX6_isRobot_18 rfl (lv_at hl 0 rfl) ?_
    refine rg_Model_thrown F hK hP (m4.1.1.1 0 (by decide)) kw_179 dX6_isRobot_19 ?_
    refine lv_topi (fun x5 ex5 => ?_)
    have hx5 : x5 = 1 := by rw [ex5]; exact uF_at
    rw [hx5]
    refine lv_if_ne (tgt := 29) hx hb dX6_isRobot_22 (by decide) (fun c6 => ?_) (fun c6 => ?_)
    · refine lv_iconst (v := 0) hx hb dX6_isRobot_29 (by decide) ?_
      exact kEndI F hr rfl hlk hP hD hS (Nat.le_of_ble_eq_true rfl) (Nat.le_of_ble_eq_true rfl) dX6_isRobot_30 ⟨_, rfl, Or.inr ⟨rfl, rfl, (by rcases hp2 with ⟨h, -, -⟩ | ⟨-, h⟩; exact absurd c3 (by rw [h]; decide); exact h)⟩⟩
    · exact absurd c6 (by decide)
  · refine lv_iconst (v := 0) hx hb dX6_isRobot_10 (by decide) ?_
    refine lv_goto (tgt := 15) hx hb dX6_isRobot_11 (by decide) ?_
    refine rp_Model_thrown F hK hP hD hS (hI.1.1 0 (by decide)) kw_179 dX6_isRobot_15 (fun H locs hP hD hS => ?_)
    have m7 : Mr w S (setF S 100 (w 0) 0) := (Mr.rf hI).thr
    refine lv_aload_n hx hb dX6_isRobot_18 rfl (lv_at hl 0 rfl) ?_
    refine rg_Model_thrown F hK hP (m7.1.1.1 0 (by decide)) kw_179 dX6_isRobot_19 ?_
    refine lv_topi (fun x8 ex8 => ?_)
    have hx8 : x8 = 0 := by rw [ex8]; exact uF_at
    rw [hx8]
    refine lv_if_ne (tgt := 29) hx hb dX6_isRobot_22 (by decide) (fun c9 => ?_) (fun c9 => ?_)
    · exact absurd c9 (by decide)
    · refine lv_iconst (v := 1) hx hb dX6_isRobot_25 (by decide) ?_
      refine lv_goto (tgt := 30) hx hb dX6_isRobot_26 (by decide) ?_
      have hb := (show _ ∧ _ from by rcases hp2 with ⟨-, h1, h2⟩ | ⟨h, -⟩; exact ⟨h1, h2⟩; exact absurd c3 (by rw [h]; decide))
      exact kEndI F hr rfl hlk hP hD hS (Nat.le_of_ble_eq_true rfl) (Nat.le_of_ble_eq_true rfl) dX6_isRobot_30 ⟨_, rfl, Or.inl ⟨rfl, rfl, kix (M := 2) (N := 2) rfl (by decide) hb.1 (fun c => hb.2 (Int32.lt_of_lt_of_le (by decide) c))⟩⟩
