theorem klm {i m : Nat} {x r : Int32} (hin : i ≤ m) (hm : m ≤ 12) (hi : x = nI i) (hr : r = nI m) (c : ¬ r ≤ x) : i < m := by
  rw [hi, hr] at c
  rcases Nat.lt_or_ge i m with q | q
  · exact q
  · exact absurd (nI_le q (by omega)) c
theorem dX6_hold_0 : decode cX6_hold 0 = .ok (.iconst 0, 1) := by decide +kernel
theorem dX6_hold_1 : decode cX6_hold 1 = .ok (.istore_n 2, 1) := by decide +kernel
theorem dX6_hold_2 : decode cX6_hold 2 = .ok (.iconst 0, 1) := by decide +kernel
theorem dX6_hold_3 : decode cX6_hold 3 = .ok (.istore_n 3, 1) := by decide +kernel
theorem dX6_hold_4 : decode cX6_hold 4 = .ok (.iload_n 3, 1) := by decide +kernel
theorem dX6_hold_5 : decode cX6_hold 5 = .ok (.aload_n 0, 1) := by decide +kernel
theorem dX6_hold_6 : decode cX6_hold 6 = .ok (.getfield 73, 3) := by decide +kernel
theorem dX6_hold_9 : decode cX6_hold 9 = .ok (.if_icmp .ge 43, 3) := by decide +kernel
theorem dX6_hold_12 : decode cX6_hold 12 = .ok (.iload_n 2, 1) := by decide +kernel
theorem dX6_hold_13 : decode cX6_hold 13 = .ok (.aload_n 0, 1) := by decide +kernel
theorem dX6_hold_14 : decode cX6_hold 14 = .ok (.getfield 31, 3) := by decide +kernel
theorem dX6_hold_17 : decode cX6_hold 17 = .ok (.iload_n 3, 1) := by decide +kernel
theorem dX6_hold_18 : decode cX6_hold 18 = .ok (.iaload, 1) := by decide +kernel
theorem dX6_hold_19 : decode cX6_hold 19 = .ok (.bipush 112, 2) := by decide +kernel
theorem dX6_hold_21 : decode cX6_hold 21 = .ok (.if_icmp .ne 22, 3) := by decide +kernel
theorem dX6_hold_24 : decode cX6_hold 24 = .ok (.aload_n 0, 1) := by decide +kernel
theorem dX6_hold_25 : decode cX6_hold 25 = .ok (.getfield 22, 3) := by decide +kernel
theorem dX6_hold_28 : decode cX6_hold 28 = .ok (.iload_n 3, 1) := by decide +kernel
theorem dX6_hold_29 : decode cX6_hold 29 = .ok (.iaload, 1) := by decide +kernel
theorem dX6_hold_30 : decode cX6_hold 30 = .ok (.iload_n 1, 1) := by decide +kernel
theorem dX6_hold_31 : decode cX6_hold 31 = .ok (.if_icmp .ne 12, 3) := by decide +kernel
theorem dX6_hold_34 : decode cX6_hold 34 = .ok (.aload_n 0, 1) := by decide +kernel
theorem dX6_hold_35 : decode cX6_hold 35 = .ok (.getfield 25, 3) := by decide +kernel
theorem dX6_hold_38 : decode cX6_hold 38 = .ok (.iload_n 3, 1) := by decide +kernel
theorem dX6_hold_39 : decode cX6_hold 39 = .ok (.iaload, 1) := by decide +kernel
theorem dX6_hold_40 : decode cX6_hold 40 = .ok (.goto 4, 3) := by decide +kernel
theorem dX6_hold_43 : decode cX6_hold 43 = .ok (.iconst 0, 1) := by decide +kernel
theorem dX6_hold_44 : decode cX6_hold 44 = .ok (.iadd, 1) := by decide +kernel
theorem dX6_hold_45 : decode cX6_hold 45 = .ok (.istore_n 2, 1) := by decide +kernel
theorem dX6_hold_46 : decode cX6_hold 46 = .ok (.iinc 3 1, 3) := by decide +kernel
theorem dX6_hold_49 : decode cX6_hold 49 = .ok (.goto (-45), 3) := by decide +kernel
theorem dX6_hold_52 : decode cX6_hold 52 = .ok (.iload_n 2, 1) := by decide +kernel
theorem dX6_hold_53 : decode cX6_hold 53 = .ok (.ireturn, 1) := by decide +kernel
set_option maxHeartbeats 4000000 in
set_option maxRecDepth 100000 in
theorem c_X6_hold (l : Launch) (hl0 : l.stackTraces = false) (g : kG) (e0 : Nat) (w : Nat → Nat) (S : wPS) (sz : Nat) (hI : MI w S) (n : Int32) : kM l g e0 yX6_hold cX6_hold 4 (some .int) 0 0 0 0 [.ref (w 0), .int n] S sz (pI (fun r T => T = S ∧ True)) (fun E => False) := by
  refine kM.of (by decide) (Nat.le_of_ble_eq_true rfl) ?_
  intro p e s m below meth c ls B hin
  obtain ⟨F, hr, hlk, hte, hP, hK, hD, hE, hS, hA, hl, hsz⟩ := B
  subst hsz
  have hx := F.1
  have hb := F.2.1
  have hl : lv_has ls 4 [(0, .ref (w 0)), (1, .int n)] := hl
  obtain ⟨m9, hm9, hm8⟩ := hI.2.2.1.2
  refine lv_iconst (v := 0) hx hb dX6_hold_0 (by decide) ?_
  refine lv_istore_n (lv' := [(2, .int 0), (0, .ref (w 0)), (1, .int n)]) hx hb dX6_hold_1 rfl hl (by decide) rfl (fun ls hl => ?_)
  refine lv_iconst (v := 0) hx hb dX6_hold_2 (by decide) ?_
  refine lv_istore_n (lv' := [(3, .int 0), (2, .int 0), (0, .ref (w 0)), (1, .int n)]) hx hb dX6_hold_3 rfl hl (by decide) rfl (fun ls hl => ?_)
  have loop : ∀ (fu : Nat) (i : Nat) (xi sm : Int32) (H : Heap) (locs : List Loc) (ls : Array Slot), va_P (kD g) vwCl (kW g S) H → va_D (kA (pL S) s.heap.size) (kW g S) → va_S (kA (pL S) s.heap.size) s.heap H locs → lv_has ls 4 [(3, .int xi), (2, .int sm), (0, .ref (w 0)), (1, .int n)] → m9 - i < fu → (xi = nI i) → (i ≤ m9) → W p l e ({ frames := 0, cells := 0, slots := 0, locals := 0 }) s m ([.ref (w 0), .int n] : List Value).toArray below meth c H locs 0 0 (vx_MQ below (kQ g S s.heap.size (pI (fun r T => T = S ∧ True))) (kX g S s.heap.size (fun E => False)) ([.ref (w 0), .int n] : List Value).toArray s 0 0 (kA (pL S) s.heap.size)) (F0 m 4 ls []) := by
    intro fu
    induction fu with
    | zero => intro i xi sm H locs ls hP hD hS hl hn hi hin; exact absurd hn (Nat.not_lt_zero _)
    | succ fu ih =>
      intro i xi sm H locs ls hP hD hS hl hn hi hin
      refine lv_iload_n hx hb dX6_hold_4 rfl (lv_at hl 0 rfl) ?_
      refine lv_aload_n hx hb dX6_hold_5 rfl (lv_at hl 2 rfl) ?_
      refine rg_Model_orders F hK hP (hI.1.1 0 (by decide)) kw_263 dX6_hold_6 ?_
      refine lv_topi (fun x1 ex1 => ?_)
      refine lv_icmp_ge (tgt := 52) hx hb dX6_hold_9 (by decide) (fun c2 => ?_) (fun c2 => ?_)
      · refine lv_iload_n hx hb dX6_hold_52 rfl (lv_at hl 1 rfl) ?_
        exact kEndI F hr rfl hlk hP hD hS (Nat.le_of_ble_eq_true rfl) (Nat.le_of_ble_eq_true rfl) dX6_hold_53 ⟨_, rfl, ⟨rfl, trivial⟩⟩
      · have hlt : i < m9 := klm hin (by omega) hi (ex1.trans hm8) c2
        refine lv_iload_n hx hb dX6_hold_12 rfl (lv_at hl 1 rfl) ?_
        refine lv_aload_n hx hb dX6_hold_13 rfl (lv_at hl 2 rfl) ?_
        refine rs_Model_state (b := w 8) F hK hP (hI.1.1 0 (by decide)) ((hI.2.1 8 (by decide) (by decide)).1) kw_74 dX6_hold_14 ?_
        refine lv_iload_n hx hb dX6_hold_17 rfl (lv_at hl 0 rfl) ?_
        refine rd_I F hK hP (hI.1.1 8 (by decide)) (by rw [show pN S (w 8) = 12 from (hI.2.1 8 (by decide) (by decide)).2, hi]; exact vp_in_nI (by omega) (by decide)) dX6_hold_18 ?_
        refine lv_topi (fun x3 ex3 => ?_)
        refine lv_bipush (v := 112) hx hb dX6_hold_19 (by decide) ?_
        refine lv_icmp_ne (tgt := 43) hx hb dX6_hold_21 (by decide) (fun c4 => ?_) (fun c4 => ?_)
        · refine lv_iconst (v := 0) hx hb dX6_hold_43 (by decide) ?_
          refine lv_iadd hx hb dX6_hold_44 ?_
          refine lv_topi (fun x5 ex5 => ?_)
          refine lv_istore_n (lv' := [(2, .int x5), (3, .int xi), (0, .ref (w 0)), (1, .int n)]) hx hb dX6_hold_45 rfl hl (by decide) rfl (fun ls hl => ?_)
          obtain ⟨x6, ex6⟩ : ∃ y : Int32, y = xi + 1 := ⟨_, rfl⟩
          refine lv_iinc (v := x6) (lv' := [(3, .int x6), (2, .int x5), (0, .ref (w 0)), (1, .int n)]) hx hb dX6_hold_46 hl (k := 1) rfl (by rw [ex6]; rfl) (by decide) rfl (fun ls hl => ?_)
          refine lv_goto (tgt := 4) hx hb dX6_hold_49 (by decide) ?_
          exact ih (i + 1) x6 x5 H locs ls hP hD hS (lv_sub hl [0, 1, 2, 3] rfl) (by omega) (by rw [ex6, hi]; exact nI_1 i) hlt
        · refine lv_aload_n hx hb dX6_hold_24 rfl (lv_at hl 2 rfl) ?_
          refine rs_Model_item (b := w 5) F hK hP (hI.1.1 0 (by decide)) ((hI.2.1 5 (by decide) (by decide)).1) kw_71 dX6_hold_25 ?_
          refine lv_iload_n hx hb dX6_hold_28 rfl (lv_at hl 0 rfl) ?_
          refine rd_I F hK hP (hI.1.1 5 (by decide)) (by rw [show pN S (w 5) = 12 from (hI.2.1 5 (by decide) (by decide)).2, hi]; exact vp_in_nI (by omega) (by decide)) dX6_hold_29 ?_
          refine lv_topi (fun x7 ex7 => ?_)
          refine lv_iload_n hx hb dX6_hold_30 rfl (lv_at hl 3 rfl) ?_
          refine lv_icmp_ne (tgt := 43) hx hb dX6_hold_31 (by decide) (fun c8 => ?_) (fun c8 => ?_)
          · refine lv_iconst (v := 0) hx hb dX6_hold_43 (by decide) ?_
            refine lv_iadd hx hb dX6_hold_44 ?_
            refine lv_topi (fun x9 ex9 => ?_)
            refine lv_istore_n (lv' := [(2, .int x9), (3, .int xi), (0, .ref (w 0)), (1, .int n)]) hx hb dX6_hold_45 rfl hl (by decide) rfl (fun ls hl => ?_)
            obtain ⟨x10, ex10⟩ : ∃ y : Int32, y = xi + 1 := ⟨_, rfl⟩
            refine lv_iinc (v := x10) (lv' := [(3, .int x10), (2, .int x9), (0, .ref (w 0)), (1, .int n)]) hx hb dX6_hold_46 hl (k := 1) rfl (by rw [ex10]; rfl) (by decide) rfl (fun ls hl => ?_)
            refine lv_goto (tgt := 4) hx hb dX6_hold_49 (by decide) ?_
            exact ih (i + 1) x10 x9 H locs ls hP hD hS (lv_sub hl [0, 1, 2, 3] rfl) (by omega) (by rw [ex10, hi]; exact nI_1 i) hlt
          · refine lv_aload_n hx hb dX6_hold_34 rfl (lv_at hl 2 rfl) ?_
            refine rs_Model_amount (b := w 6) F hK hP (hI.1.1 0 (by decide)) ((hI.2.1 6 (by decide) (by decide)).1) kw_72 dX6_hold_35 ?_
            refine lv_iload_n hx hb dX6_hold_38 rfl (lv_at hl 0 rfl) ?_
            refine rd_I F hK hP (hI.1.1 6 (by decide)) (by rw [show pN S (w 6) = 12 from (hI.2.1 6 (by decide) (by decide)).2, hi]; exact vp_in_nI (by omega) (by decide)) dX6_hold_39 ?_
            refine lv_topi (fun x11 ex11 => ?_)
            refine lv_goto (tgt := 44) hx hb dX6_hold_40 (by decide) ?_
            refine lv_iadd hx hb dX6_hold_44 ?_
            refine lv_topi (fun x12 ex12 => ?_)
            refine lv_istore_n (lv' := [(2, .int x12), (3, .int xi), (0, .ref (w 0)), (1, .int n)]) hx hb dX6_hold_45 rfl hl (by decide) rfl (fun ls hl => ?_)
            obtain ⟨x13, ex13⟩ : ∃ y : Int32, y = xi + 1 := ⟨_, rfl⟩
            refine lv_iinc (v := x13) (lv' := [(3, .int x13), (2, .int x12), (0, .ref (w 0)), (1, .int n)]) hx hb dX6_hold_46 hl (k := 1) rfl (by rw [ex13]; rfl) (by decide) rfl (fun ls hl => ?_)
            refine lv_goto (tgt := 4) hx hb dX6_hold_49 (by decide) ?_
            exact ih (i + 1) x13 x12 H locs ls hP hD hS (lv_sub hl [0, 1, 2, 3] rfl) (by omega) (by rw [ex13, hi]; exact nI_1 i) hlt
  exact loop 13 0 0 0 _ _ _ hP hD hS (lv_sub hl [0, 1, 2, 3] rfl) (by omega) rfl (Nat.zero_le _)
theorem dX6_rest_0 : decode cX6_rest 0 = .ok (.aload_n 0, 1) := by decide +kernel
theorem dX6_rest_1 : decode cX6_rest 1 = .ok (.getfield 13, 3) := by decide +kernel
theorem dX6_rest_4 : decode cX6_rest 4 = .ok (.iload_n 1, 1) := by decide +kernel
theorem dX6_rest_5 : decode cX6_rest 5 = .ok (.iaload, 1) := by decide +kernel
theorem dX6_rest_6 : decode cX6_rest 6 = .ok (.aload_n 0, 1) := by decide +kernel
theorem dX6_rest_7 : decode cX6_rest 7 = .ok (.iload_n 1, 1) := by decide +kernel
theorem dX6_rest_8 : decode cX6_rest 8 = .ok (.invokevirtual 79, 3) := by decide +kernel
theorem dX6_rest_11 : decode cX6_rest 11 = .ok (.isub, 1) := by decide +kernel
theorem dX6_rest_12 : decode cX6_rest 12 = .ok (.ireturn, 1) := by decide +kernel
set_option maxHeartbeats 4000000 in
set_option maxRecDepth 100000 in
theorem c_X6_rest (l : Launch) (hl0 : l.stackTraces = false) (g : kG) (e0 : Nat) (w : Nat → Nat) (S : wPS) (sz : Nat) (hI : MI w S) (n : Int32) (hn : ∃ j, j < 6 ∧ n = nI j) : kM l g e0 yX6_rest cX6_rest 2 (some .int) 1 23 0 0 [.ref (w 0), .int n] S sz (pI (fun r T => T = S ∧ True)) (fun E => False) := by
  refine kM.of (by decide) (Nat.le_of_ble_eq_true rfl) ?_
  intro p e s m below meth c ls B hin
  obtain ⟨F, hr, hlk, hte, hP, hK, hD, hE, hS, hA, hl, hsz⟩ := B
  subst hsz
  have hx := F.1
  have hb := F.2.1
  have hl : lv_has ls 2 [(0, .ref (w 0)), (1, .int n)] := hl
  obtain ⟨j, hj, hnj⟩ := hn
  refine lv_aload_n hx hb dX6_rest_0 rfl (lv_at hl 0 rfl) ?_
  refine rs_Model_stock (b := w 2) F hK hP (hI.1.1 0 (by decide)) ((hI.2.1 2 (by decide) (by decide)).1) kw_68 dX6_rest_1 ?_
  refine lv_iload_n hx hb dX6_rest_4 rfl (lv_at hl 1 rfl) ?_
  refine rd_I F hK hP (hI.1.1 2 (by decide)) (by rw [show pN S (w 2) = 6 from (hI.2.1 2 (by decide) (by decide)).2, hnj]; exact vp_in_nI (by omega) (by decide)) dX6_rest_5 ?_
  refine lv_topi (fun x1 ex1 => ?_)
  refine lv_aload_n hx hb dX6_rest_6 rfl (lv_at hl 0 rfl) ?_
  refine lv_iload_n hx hb dX6_rest_7 rfl (lv_at hl 1 rfl) ?_
  refine kcallI (kV (n := 1) (As := [.int n]) (rest := [.int x1]) (b := (w 0)) (C := RX6) F hE hK hP hD hS hA (c_X6_hold l hl0 g e0 w S _ hI n) (rr_Model hK hP (hI.1.1 0 (by decide))) kw_259 kw_260 kw_261 kw_5 kw_262 (by decide +kernel) ⟨Nat.le_of_ble_eq_true rfl, Nat.le_of_ble_eq_true rfl⟩ rfl hl.1 rfl (Nat.le_of_ble_eq_true rfl) dX6_rest_8 ⟨Nat.le_of_ble_eq_true rfl, Nat.le_of_ble_eq_true rfl⟩) rfl hD hS hA (fun _ _ _ _ _ h => False.elim h) (fun r2 T2 H locs hp hP hD hS => ?_)
  obtain ⟨hT, hp3⟩ := hp
  have hT := hT.symm
  subst hT
  refine lv_isub hx hb dX6_rest_11 ?_
  refine lv_topi (fun x4 ex4 => ?_)
  exact kEndI F hr rfl hlk hP hD hS (Nat.le_of_ble_eq_true rfl) (Nat.le_of_ble_eq_true rfl) dX6_rest_12 ⟨_, rfl, ⟨rfl, trivial⟩⟩
theorem dX6_stock_0 : decode cX6_stock 0 = .ok (.aload_n 0, 1) := by decide +kernel
theorem dX6_stock_1 : decode cX6_stock 1 = .ok (.iload_n 1, 1) := by decide +kernel
theorem dX6_stock_2 : decode cX6_stock 2 = .ok (.invokevirtual 90, 3) := by decide +kernel
theorem dX6_stock_5 : decode cX6_stock 5 = .ok (.ifCond .eq 12, 3) := by decide +kernel
theorem dX6_stock_8 : decode cX6_stock 8 = .ok (.aload_n 0, 1) := by decide +kernel
theorem dX6_stock_9 : decode cX6_stock 9 = .ok (.getfield 13, 3) := by decide +kernel
theorem dX6_stock_12 : decode cX6_stock 12 = .ok (.iload_n 1, 1) := by decide +kernel
theorem dX6_stock_13 : decode cX6_stock 13 = .ok (.iaload, 1) := by decide +kernel
theorem dX6_stock_14 : decode cX6_stock 14 = .ok (.goto 4, 3) := by decide +kernel
theorem dX6_stock_17 : decode cX6_stock 17 = .ok (.iconst 0, 1) := by decide +kernel
theorem dX6_stock_18 : decode cX6_stock 18 = .ok (.ireturn, 1) := by decide +kernel
set_option maxHeartbeats 4000000 in
set_option maxRecDepth 100000 in
theorem c_X6_stock (l : Launch) (hl0 : l.stackTraces = false) (g : kG) (e0 : Nat) (w : Nat → Nat) (S : wPS) (sz : Nat) (hI : MI w S) (n : Int32) : kM l g e0 yX6_stock cX6_stock 2 (some .int) 2 43 0 0 [.ref (w 0), .int n] S sz (pI (fun r T => Mr w S T ∧ pF T 106 (w 0) = pF S 106 (w 0) ∧ (pF T 100 (w 0) = 1 ∨ (∃ m, m ≤ 6 ∧ pF S 101 (w 0) = nI m ∧ ∃ j, j < m ∧ n = nI j)))) (fun E => False) := by
  refine kM.of (by decide) (Nat.le_of_ble_eq_true rfl) ?_
  intro p e s m below meth c ls B hin
  obtain ⟨F, hr, hlk, hte, hP, hK, hD, hE, hS, hA, hl, hsz⟩ := B
  subst hsz
  have hx := F.1
  have hb := F.2.1
  have hl : lv_has ls 2 [(0, .ref (w 0)), (1, .int n)] := hl
  refine lv_aload_n hx hb dX6_stock_0 rfl (lv_at hl 0 rfl) ?_
  refine lv_iload_n hx hb dX6_stock_1 rfl (lv_at hl 1 rfl) ?_
  refine kcallI (kV (n := 1) (As := [.int n]) (rest := []) (b := (w 0)) (C := RX6) F hE hK hP hD hS hA (c_X6_isArticle l hl0 g e0 w S _ hI n) (rr_Model hK hP (hI.1.1 0 (by decide))) kw_223 kw_224 kw_225 kw_5 kw_226 (by decide +kernel) ⟨Nat.le_of_ble_eq_true rfl, Nat.le_of_ble_eq_true rfl⟩ rfl hl.1 rfl (Nat.le_of_ble_eq_true rfl) dX6_stock_2 ⟨Nat.le_of_ble_eq_true rfl, Nat.le_of_ble_eq_true rfl⟩) rfl hD hS hA (fun _ _ _ _ _ h => False.elim h) (fun r1 T1 H locs hp hP hD hS => ?_)
  have hp := hp
  rcases hp with ⟨hr, hT, m2_, hm2, hmM2, j2, hj2, hn2⟩ | ⟨hr, hT, ho2⟩
  · subst hT
    subst hr
    have m2 : Mr w S (setF S 100 (w 0) 0) := (Mr.rf hI).thr
    refine lv_if_eq (tgt := 17) hx hb dX6_stock_5 (by decide) (fun c3 => ?_) (fun c3 => ?_)
    · exact absurd c3 (by decide)
    · refine lv_aload_n hx hb dX6_stock_8 rfl (lv_at hl 0 rfl) ?_
      refine rs_Model_stock (b := w 2) F hK hP (m2.1.1.1 0 (by decide)) ((m2.1.2.1 2 (by decide) (by decide)).1) kw_68 dX6_stock_9 ?_
      refine lv_iload_n hx hb dX6_stock_12 rfl (lv_at hl 1 rfl) ?_
      refine rd_I F hK hP (m2.1.1.1 2 (by decide)) (by rw [show pN (setF S 100 (w 0) 0) (w 2) = 6 from (m2.1.2.1 2 (by decide) (by decide)).2, hn2]; exact vp_in_nI (by omega) (by decide)) dX6_stock_13 ?_
      refine lv_topi (fun x4 ex4 => ?_)
      refine lv_goto (tgt := 18) hx hb dX6_stock_14 (by decide) ?_
      exact kEndI F hr rfl hlk hP hD hS (Nat.le_of_ble_eq_true rfl) (Nat.le_of_ble_eq_true rfl) dX6_stock_18 ⟨_, rfl, ⟨m2, ((uF_of (Or.inl (by decide))).trans rfl), Or.inr ⟨m2_, hm2, hmM2, j2, hj2, hn2⟩⟩⟩
  · subst hT
    subst hr
    have m2 : Mr w S (setF S 100 (w 0) 1) := (Mr.rf hI).thr
    refine lv_if_eq (tgt := 17) hx hb dX6_stock_5 (by decide) (fun c5 => ?_) (fun c5 => ?_)
    · refine lv_iconst (v := 0) hx hb dX6_stock_17 (by decide) ?_
      exact kEndI F hr rfl hlk hP hD hS (Nat.le_of_ble_eq_true rfl) (Nat.le_of_ble_eq_true rfl) dX6_stock_18 ⟨_, rfl, ⟨m2, ((uF_of (Or.inl (by decide))).trans rfl), Or.inl uF_at⟩⟩
    · exact absurd (by decide) c5
theorem dX6_reserve_0 : decode cX6_reserve 0 = .ok (.aload_n 0, 1) := by decide +kernel
theorem dX6_reserve_1 : decode cX6_reserve 1 = .ok (.iload_n 1, 1) := by decide +kernel
theorem dX6_reserve_2 : decode cX6_reserve 2 = .ok (.invokevirtual 90, 3) := by decide +kernel
theorem dX6_reserve_5 : decode cX6_reserve 5 = .ok (.ifCond .eq 12, 3) := by decide +kernel
theorem dX6_reserve_8 : decode cX6_reserve 8 = .ok (.aload_n 0, 1) := by decide +kernel
theorem dX6_reserve_9 : decode cX6_reserve 9 = .ok (.getfield 16, 3) := by decide +kernel
theorem dX6_reserve_12 : decode cX6_reserve 12 = .ok (.iload_n 1, 1) := by decide +kernel
theorem dX6_reserve_13 : decode cX6_reserve 13 = .ok (.iaload, 1) := by decide +kernel
theorem dX6_reserve_14 : decode cX6_reserve 14 = .ok (.goto 4, 3) := by decide +kernel
theorem dX6_reserve_17 : decode cX6_reserve 17 = .ok (.iconst 0, 1) := by decide +kernel
theorem dX6_reserve_18 : decode cX6_reserve 18 = .ok (.ireturn, 1) := by decide +kernel
set_option maxHeartbeats 4000000 in
set_option maxRecDepth 100000 in
theorem c_X6_reserve (l : Launch) (hl0 : l.stackTraces = false) (g : kG) (e0 : Nat) (w : Nat → Nat) (S : wPS) (sz : Nat) (hI : MI w S) (n : Int32) : kM l g e0 yX6_reserve cX6_reserve 2 (some .int) 2 43 0 0 [.ref (w 0), .int n] S sz (pI (fun r T => Mr w S T ∧ pF T 106 (w 0) = pF S 106 (w 0) ∧ (pF T 100 (w 0) = 1 ∨ (∃ m, m ≤ 6 ∧ pF S 101 (w 0) = nI m ∧ ∃ j, j < m ∧ n = nI j)))) (fun E => False) := by
  refine kM.of (by decide) (Nat.le_of_ble_eq_true rfl) ?_
  intro p e s m below meth c ls B hin
  obtain ⟨F, hr, hlk, hte, hP, hK, hD, hE, hS, hA, hl, hsz⟩ := B
  subst hsz
  have hx := F.1
  have hb := F.2.1
  have hl : lv_has ls 2 [(0, .ref (w 0)), (1, .int n)] := hl
  refine lv_aload_n hx hb dX6_reserve_0 rfl (lv_at hl 0 rfl) ?_
  refine lv_iload_n hx hb dX6_reserve_1 rfl (lv_at hl 1 rfl) ?_
  refine kcallI (kV (n := 1) (As := [.int n]) (rest := []) (b := (w 0)) (C := RX6) F hE hK hP hD hS hA (c_X6_isArticle l hl0 g e0 w S _ hI n) (rr_Model hK hP (hI.1.1 0 (by decide))) kw_223 kw_224 kw_225 kw_5 kw_226 (by decide +kernel) ⟨Nat.le_of_ble_eq_true rfl, Nat.le_of_ble_eq_true rfl⟩ rfl hl.1 rfl (Nat.le_of_ble_eq_true rfl) dX6_reserve_2 ⟨Nat.le_of_ble_eq_true rfl, Nat.le_of_ble_eq_true rfl⟩) rfl hD hS hA (fun _ _ _ _ _ h => False.elim h) (fun r1 T1 H locs hp hP hD hS => ?_)
  have hp := hp
  rcases hp with ⟨hr, hT, m2_, hm2, hmM2, j2, hj2, hn2⟩ | ⟨hr, hT, ho2⟩
  · subst hT
    subst hr
    have m2 : Mr w S (setF S 100 (w 0) 0) := (Mr.rf hI).thr
    refine lv_if_eq (tgt := 17) hx hb dX6_reserve_5 (by decide) (fun c3 => ?_) (fun c3 => ?_)
    · exact absurd c3 (by decide)
    · refine lv_aload_n hx hb dX6_reserve_8 rfl (lv_at hl 0 rfl) ?_
      refine rs_Model_reserve (b := w 3) F hK hP (m2.1.1.1 0 (by decide)) ((m2.1.2.1 3 (by decide) (by decide)).1) kw_69 dX6_reserve_9 ?_
      refine lv_iload_n hx hb dX6_reserve_12 rfl (lv_at hl 1 rfl) ?_
      refine rd_I F hK hP (m2.1.1.1 3 (by decide)) (by rw [show pN (setF S 100 (w 0) 0) (w 3) = 6 from (m2.1.2.1 3 (by decide) (by decide)).2, hn2]; exact vp_in_nI (by omega) (by decide)) dX6_reserve_13 ?_
      refine lv_topi (fun x4 ex4 => ?_)
      refine lv_goto (tgt := 18) hx hb dX6_reserve_14 (by decide) ?_
      exact kEndI F hr rfl hlk hP hD hS (Nat.le_of_ble_eq_true rfl) (Nat.le_of_ble_eq_true rfl) dX6_reserve_18 ⟨_, rfl, ⟨m2, ((uF_of (Or.inl (by decide))).trans rfl), Or.inr ⟨m2_, hm2, hmM2, j2, hj2, hn2⟩⟩⟩
  · subst hT
    subst hr
    have m2 : Mr w S (setF S 100 (w 0) 1) := (Mr.rf hI).thr
    refine lv_if_eq (tgt := 17) hx hb dX6_reserve_5 (by decide) (fun c5 => ?_) (fun c5 => ?_)
    · refine lv_iconst (v := 0) hx hb dX6_reserve_17 (by decide) ?_
      exact kEndI F hr rfl hlk hP hD hS (Nat.le_of_ble_eq_true rfl) (Nat.le_of_ble_eq_true rfl) dX6_reserve_18 ⟨_, rfl, ⟨m2, ((uF_of (Or.inl (by decide))).trans rfl), Or.inl uF_at⟩⟩
    · exact absurd (by decide) c5
theorem dX6_amount_0 : decode cX6_amount 0 = .ok (.aload_n 0, 1) := by decide +kernel
theorem dX6_amount_1 : decode cX6_amount 1 = .ok (.iload_n 1, 1) := by decide +kernel
theorem dX6_amount_2 : decode cX6_amount 2 = .ok (.invokevirtual 118, 3) := by decide +kernel
theorem dX6_amount_5 : decode cX6_amount 5 = .ok (.ifCond .eq 12, 3) := by decide +kernel
theorem dX6_amount_8 : decode cX6_amount 8 = .ok (.aload_n 0, 1) := by decide +kernel
theorem dX6_amount_9 : decode cX6_amount 9 = .ok (.getfield 25, 3) := by decide +kernel
theorem dX6_amount_12 : decode cX6_amount 12 = .ok (.iload_n 1, 1) := by decide +kernel
theorem dX6_amount_13 : decode cX6_amount 13 = .ok (.iaload, 1) := by decide +kernel
theorem dX6_amount_14 : decode cX6_amount 14 = .ok (.goto 4, 3) := by decide +kernel
theorem dX6_amount_17 : decode cX6_amount 17 = .ok (.iconst 0, 1) := by decide +kernel
theorem dX6_amount_18 : decode cX6_amount 18 = .ok (.ireturn, 1) := by decide +kernel
set_option maxHeartbeats 4000000 in
set_option maxRecDepth 100000 in
theorem c_X6_amount (l : Launch) (hl0 : l.stackTraces = false) (g : kG) (e0 : Nat) (w : Nat → Nat) (S : wPS) (sz : Nat) (hI : MI w S) (n : Int32) : kM l g e0 yX6_amount cX6_amount 2 (some .int) 2 43 0 0 [.ref (w 0), .int n] S sz (pI (fun r T => Mr w S T ∧ pF T 106 (w 0) = pF S 106 (w 0) ∧ (pF T 100 (w 0) = 1 ∨ (∃ m, m ≤ 12 ∧ pF S 102 (w 0) = nI m ∧ ∃ j, j < m ∧ n = nI j)))) (fun E => False) := by
  refine kM.of (by decide) (Nat.le_of_ble_eq_true rfl) ?_
  intro p e s m below meth c ls B hin
  obtain ⟨F, hr, hlk, hte, hP, hK, hD, hE, hS, hA, hl, hsz⟩ := B
  subst hsz
  have hx := F.1
  have hb := F.2.1
  have hl : lv_has ls 2 [(0, .ref (w 0)), (1, .int n)] := hl
  refine lv_aload_n hx hb dX6_amount_0 rfl (lv_at hl 0 rfl) ?_
  refine lv_iload_n hx hb dX6_amount_1 rfl (lv_at hl 1 rfl) ?_
  refine kcallI (kV (n := 1) (As := [.int n]) (rest := []) (b := (w 0)) (C := RX6) F hE hK hP hD hS hA (c_X6_isOrder l hl0 g e0 w S _ hI n) (rr_Model hK hP (hI.1.1 0 (by decide))) kw_447 kw_448 kw_449 kw_5 kw_450 (by decide +kernel) ⟨Nat.le_of_ble_eq_true rfl, Nat.le_of_ble_eq_true rfl⟩ rfl hl.1 rfl (Nat.le_of_ble_eq_true rfl) dX6_amount_2 ⟨Nat.le_of_ble_eq_true rfl, Nat.le_of_ble_eq_true rfl⟩) rfl hD hS hA (fun _ _ _ _ _ h => False.elim h) (fun r1 T1 H locs hp hP hD hS => ?_)
  have hp := hp
  rcases hp with ⟨hr, hT, m2_, hm2, hmM2, j2, hj2, hn2⟩ | ⟨hr, hT, ho2⟩
  · subst hT
    subst hr
    have m2 : Mr w S (setF S 100 (w 0) 0) := (Mr.rf hI).thr
    refine lv_if_eq (tgt := 17) hx hb dX6_amount_5 (by decide) (fun c3 => ?_) (fun c3 => ?_)
    · exact absurd c3 (by decide)
    · refine lv_aload_n hx hb dX6_amount_8 rfl (lv_at hl 0 rfl) ?_
      refine rs_Model_amount (b := w 6) F hK hP (m2.1.1.1 0 (by decide)) ((m2.1.2.1 6 (by decide) (by decide)).1) kw_72 dX6_amount_9 ?_
      refine lv_iload_n hx hb dX6_amount_12 rfl (lv_at hl 1 rfl) ?_
      refine rd_I F hK hP (m2.1.1.1 6 (by decide)) (by rw [show pN (setF S 100 (w 0) 0) (w 6) = 12 from (m2.1.2.1 6 (by decide) (by decide)).2, hn2]; exact vp_in_nI (by omega) (by decide)) dX6_amount_13 ?_
      refine lv_topi (fun x4 ex4 => ?_)
      refine lv_goto (tgt := 18) hx hb dX6_amount_14 (by decide) ?_
      exact kEndI F hr rfl hlk hP hD hS (Nat.le_of_ble_eq_true rfl) (Nat.le_of_ble_eq_true rfl) dX6_amount_18 ⟨_, rfl, ⟨m2, ((uF_of (Or.inl (by decide))).trans rfl), Or.inr ⟨m2_, hm2, hmM2, j2, hj2, hn2⟩⟩⟩
  · subst hT
    subst hr
    have m2 : Mr w S (setF S 100 (w 0) 1) := (Mr.rf hI).thr
    refine lv_if_eq (tgt := 17) hx hb dX6_amount_5 (by decide) (fun c5 => ?_) (fun c5 => ?_)
    · refine lv_iconst (v := 0) hx hb dX6_amount_17 (by decide) ?_
      exact kEndI F hr rfl hlk hP hD hS (Nat.le_of_ble_eq_true rfl) (Nat.le_of_ble_eq_true rfl) dX6_amount_18 ⟨_, rfl, ⟨m2, ((uF_of (Or.inl (by decide))).trans rfl), Or.inl uF_at⟩⟩
    · exact absurd (by decide) c5
theorem dX6_promised_0 : decode cX6_promised 0 = .ok (.aload_n 0, 1) := by decide +kernel
theorem dX6_promised_1 : decode cX6_promised 1 = .ok (.iload_n 1, 1) := by decide +kernel
theorem dX6_promised_2 : decode cX6_promised 2 = .ok (.invokevirtual 90, 3) := by decide +kernel
theorem dX6_promised_5 : decode cX6_promised 5 = .ok (.ifCond .eq 11, 3) := by decide +kernel
theorem dX6_promised_8 : decode cX6_promised 8 = .ok (.aload_n 0, 1) := by decide +kernel
theorem dX6_promised_9 : decode cX6_promised 9 = .ok (.iload_n 1, 1) := by decide +kernel
theorem dX6_promised_10 : decode cX6_promised 10 = .ok (.invokevirtual 79, 3) := by decide +kernel
theorem dX6_promised_13 : decode cX6_promised 13 = .ok (.goto 4, 3) := by decide +kernel
theorem dX6_promised_16 : decode cX6_promised 16 = .ok (.iconst 0, 1) := by decide +kernel
theorem dX6_promised_17 : decode cX6_promised 17 = .ok (.ireturn, 1) := by decide +kernel
set_option maxHeartbeats 4000000 in
set_option maxRecDepth 100000 in
theorem c_X6_promised (l : Launch) (hl0 : l.stackTraces = false) (g : kG) (e0 : Nat) (w : Nat → Nat) (S : wPS) (sz : Nat) (hI : MI w S) (n : Int32) : kM l g e0 yX6_promised cX6_promised 2 (some .int) 2 43 0 0 [.ref (w 0), .int n] S sz (pI (fun r T => Mr w S T ∧ pF T 106 (w 0) = pF S 106 (w 0) ∧ (pF T 100 (w 0) = 1 ∨ (∃ m, m ≤ 6 ∧ pF S 101 (w 0) = nI m ∧ ∃ j, j < m ∧ n = nI j)))) (fun E => False) := by
  refine kM.of (by decide) (Nat.le_of_ble_eq_true rfl) ?_
  intro p e s m below meth c ls B hin
  obtain ⟨F, hr, hlk, hte, hP, hK, hD, hE, hS, hA, hl, hsz⟩ := B
  subst hsz
  have hx := F.1
  have hb := F.2.1
  have hl : lv_has ls 2 [(0, .ref (w 0)), (1, .int n)] := hl
  refine lv_aload_n hx hb dX6_promised_0 rfl (lv_at hl 0 rfl) ?_
  refine lv_iload_n hx hb dX6_promised_1 rfl (lv_at hl 1 rfl) ?_
  refine kcallI (kV (n := 1) (As := [.int n]) (rest := []) (b := (w 0)) (C := RX6) F hE hK hP hD hS hA (c_X6_isArticle l hl0 g e0 w S _ hI n) (rr_Model hK hP (hI.1.1 0 (by decide))) kw_223 kw_224 kw_225 kw_5 kw_226 (by decide +kernel) ⟨Nat.le_of_ble_eq_true rfl, Nat.le_of_ble_eq_true rfl⟩ rfl hl.1 rfl (Nat.le_of_ble_eq_true rfl) dX6_promised_2 ⟨Nat.le_of_ble_eq_true rfl, Nat.le_of_ble_eq_true rfl⟩) rfl hD hS hA (fun _ _ _ _ _ h => False.elim h) (fun r1 T1 H locs hp hP hD hS => ?_)
  have hp := hp
  rcases hp with ⟨hr, hT, m2_, hm2, hmM2, j2, hj2, hn2⟩ | ⟨hr, hT, ho2⟩
  · subst hT
    subst hr
    have m2 : Mr w S (setF S 100 (w 0) 0) := (Mr.rf hI).thr
    refine lv_if_eq (tgt := 16) hx hb dX6_promised_5 (by decide) (fun c3 => ?_) (fun c3 => ?_)
    · exact absurd c3 (by decide)
    · refine lv_aload_n hx hb dX6_promised_8 rfl (lv_at hl 0 rfl) ?_
      refine lv_iload_n hx hb dX6_promised_9 rfl (lv_at hl 1 rfl) ?_
      refine kcallI (kV (n := 1) (As := [.int n]) (rest := []) (b := (w 0)) (C := RX6) F hE hK hP hD hS hA (c_X6_hold l hl0 g e0 w (setF S 100 (w 0) 0) _ m2.1 n) (rr_Model hK hP (m2.1.1.1 0 (by decide))) kw_259 kw_260 kw_261 kw_5 kw_262 (by decide +kernel) ⟨Nat.le_of_ble_eq_true rfl, Nat.le_of_ble_eq_true rfl⟩ rfl hl.1 rfl (Nat.le_of_ble_eq_true rfl) dX6_promised_10 ⟨Nat.le_of_ble_eq_true rfl, Nat.le_of_ble_eq_true rfl⟩) rfl hD hS hA (fun _ _ _ _ _ h => False.elim h) (fun r4 T4 H locs hp hP hD hS => ?_)
      obtain ⟨hT, hp5⟩ := hp
      have hT := hT.symm
      subst hT
      refine lv_goto (tgt := 17) hx hb dX6_promised_13 (by decide) ?_
      exact kEndI F hr rfl hlk hP hD hS (Nat.le_of_ble_eq_true rfl) (Nat.le_of_ble_eq_true rfl) dX6_promised_17 ⟨_, rfl, ⟨m2, ((uF_of (Or.inl (by decide))).trans rfl), Or.inr ⟨m2_, hm2, hmM2, j2, hj2, hn2⟩⟩⟩
  · subst hT
    subst hr
    have m2 : Mr w S (setF S 100 (w 0) 1) := (Mr.rf hI).thr
    refine lv_if_eq (tgt := 16) hx hb dX6_promised_5 (by decide) (fun c6 => ?_) (fun c6 => ?_)
    · refine lv_iconst (v := 0) hx hb dX6_promised_16 (by decide) ?_
      exact kEndI F hr rfl hlk hP hD hS (Nat.le_of_ble_eq_true rfl) (Nat.le_of_ble_eq_true rfl) dX6_promised_17 ⟨_, rfl, ⟨m2, ((uF_of (Or.inl (by decide))).trans rfl), Or.inl uF_at⟩⟩
    · exact absurd (by decide) c6
theorem dX6_free_0 : decode cX6_free 0 = .ok (.aload_n 0, 1) := by decide +kernel
theorem dX6_free_1 : decode cX6_free 1 = .ok (.iload_n 1, 1) := by decide +kernel
theorem dX6_free_2 : decode cX6_free 2 = .ok (.invokevirtual 90, 3) := by decide +kernel
theorem dX6_free_5 : decode cX6_free 5 = .ok (.ifCond .eq 11, 3) := by decide +kernel
theorem dX6_free_8 : decode cX6_free 8 = .ok (.aload_n 0, 1) := by decide +kernel
theorem dX6_free_9 : decode cX6_free 9 = .ok (.iload_n 1, 1) := by decide +kernel
theorem dX6_free_10 : decode cX6_free 10 = .ok (.invokevirtual 94, 3) := by decide +kernel
theorem dX6_free_13 : decode cX6_free 13 = .ok (.goto 4, 3) := by decide +kernel
theorem dX6_free_16 : decode cX6_free 16 = .ok (.iconst 0, 1) := by decide +kernel
theorem dX6_free_17 : decode cX6_free 17 = .ok (.ireturn, 1) := by decide +kernel
set_option maxHeartbeats 4000000 in
set_option maxRecDepth 100000 in
theorem c_X6_free (l : Launch) (hl0 : l.stackTraces = false) (g : kG) (e0 : Nat) (w : Nat → Nat) (S : wPS) (sz : Nat) (hI : MI w S) (n : Int32) : kM l g e0 yX6_free cX6_free 2 (some .int) 2 44 0 0 [.ref (w 0), .int n] S sz (pI (fun r T => Mr w S T ∧ pF T 106 (w 0) = pF S 106 (w 0) ∧ (pF T 100 (w 0) = 1 ∨ (∃ m, m ≤ 6 ∧ pF S 101 (w 0) = nI m ∧ ∃ j, j < m ∧ n = nI j)))) (fun E => False) := by
  refine kM.of (by decide) (Nat.le_of_ble_eq_true rfl) ?_
  intro p e s m below meth c ls B hin
  obtain ⟨F, hr, hlk, hte, hP, hK, hD, hE, hS, hA, hl, hsz⟩ := B
  subst hsz
  have hx := F.1
  have hb := F.2.1
  have hl : lv_has ls 2 [(0, .ref (w 0)), (1, .int n)] := hl
  refine lv_aload_n hx hb dX6_free_0 rfl (lv_at hl 0 rfl) ?_
  refine lv_iload_n hx hb dX6_free_1 rfl (lv_at hl 1 rfl) ?_
  refine kcallI (kV (n := 1) (As := [.int n]) (rest := []) (b := (w 0)) (C := RX6) F hE hK hP hD hS hA (c_X6_isArticle l hl0 g e0 w S _ hI n) (rr_Model hK hP (hI.1.1 0 (by decide))) kw_223 kw_224 kw_225 kw_5 kw_226 (by decide +kernel) ⟨Nat.le_of_ble_eq_true rfl, Nat.le_of_ble_eq_true rfl⟩ rfl hl.1 rfl (Nat.le_of_ble_eq_true rfl) dX6_free_2 ⟨Nat.le_of_ble_eq_true rfl, Nat.le_of_ble_eq_true rfl⟩) rfl hD hS hA (fun _ _ _ _ _ h => False.elim h) (fun r1 T1 H locs hp hP hD hS => ?_)
  have hp := hp
  rcases hp with ⟨hr, hT, m2_, hm2, hmM2, j2, hj2, hn2⟩ | ⟨hr, hT, ho2⟩
  · subst hT
    subst hr
    have m2 : Mr w S (setF S 100 (w 0) 0) := (Mr.rf hI).thr
    refine lv_if_eq (tgt := 16) hx hb dX6_free_5 (by decide) (fun c3 => ?_) (fun c3 => ?_)
    · exact absurd c3 (by decide)
    · refine lv_aload_n hx hb dX6_free_8 rfl (lv_at hl 0 rfl) ?_
      refine lv_iload_n hx hb dX6_free_9 rfl (lv_at hl 1 rfl) ?_
      refine kcallI (kV (n := 1) (As := [.int n]) (rest := []) (b := (w 0)) (C := RX6) F hE hK hP hD hS hA (c_X6_rest l hl0 g e0 w (setF S 100 (w 0) 0) _ m2.1 n ⟨j2, by omega, hn2⟩) (rr_Model hK hP (m2.1.1.1 0 (by decide))) kw_255 kw_256 kw_257 kw_5 kw_258 (by decide +kernel) ⟨Nat.le_of_ble_eq_true rfl, Nat.le_of_ble_eq_true rfl⟩ rfl hl.1 rfl (Nat.le_of_ble_eq_true rfl) dX6_free_10 ⟨Nat.le_of_ble_eq_true rfl, Nat.le_of_ble_eq_true rfl⟩) rfl hD hS hA (fun _ _ _ _ _ h => False.elim h) (fun r4 T4 H locs hp hP hD hS => ?_)
      obtain ⟨hT, hp5⟩ := hp
      have hT := hT.symm
      subst hT
      refine lv_goto (tgt := 17) hx hb dX6_free_13 (by decide) ?_
      exact kEndI F hr rfl hlk hP hD hS (Nat.le_of_ble_eq_true rfl) (Nat.le_of_ble_eq_true rfl) dX6_free_17 ⟨_, rfl, ⟨m2, ((uF_of (Or.inl (by decide))).trans rfl), Or.inr ⟨m2_, hm2, hmM2, j2, hj2, hn2⟩⟩⟩
  · subst hT
    subst hr
    have m2 : Mr w S (setF S 100 (w 0) 1) := (Mr.rf hI).thr
    refine lv_if_eq (tgt := 16) hx hb dX6_free_5 (by decide) (fun c6 => ?_) (fun c6 => ?_)
    · refine lv_iconst (v := 0) hx hb dX6_free_16 (by decide) ?_
      exact kEndI F hr rfl hlk hP hD hS (Nat.le_of_ble_eq_true rfl) (Nat.le_of_ble_eq_true rfl) dX6_free_17 ⟨_, rfl, ⟨m2, ((uF_of (Or.inl (by decide))).trans rfl), Or.inl uF_at⟩⟩
    · exact absurd (by decide) c6
theorem kch_i2c {x y : Int32} (h : x = (y.toUInt32 % 65536).toInt32) : kCh x := by
  rw [h]
  exact ⟨pk_nc y, pk_fc y⟩
theorem dX6_state_0 : decode cX6_state 0 = .ok (.aload_n 0, 1) := by decide +kernel
theorem dX6_state_1 : decode cX6_state 1 = .ok (.iload_n 1, 1) := by decide +kernel
theorem dX6_state_2 : decode cX6_state 2 = .ok (.invokevirtual 118, 3) := by decide +kernel
theorem dX6_state_5 : decode cX6_state 5 = .ok (.ifCond .eq 12, 3) := by decide +kernel
theorem dX6_state_8 : decode cX6_state 8 = .ok (.aload_n 0, 1) := by decide +kernel
theorem dX6_state_9 : decode cX6_state 9 = .ok (.getfield 31, 3) := by decide +kernel
theorem dX6_state_12 : decode cX6_state 12 = .ok (.iload_n 1, 1) := by decide +kernel
theorem dX6_state_13 : decode cX6_state 13 = .ok (.iaload, 1) := by decide +kernel
theorem dX6_state_14 : decode cX6_state 14 = .ok (.goto 4, 3) := by decide +kernel
theorem dX6_state_17 : decode cX6_state 17 = .ok (.iconst 0, 1) := by decide +kernel
theorem dX6_state_18 : decode cX6_state 18 = .ok (.i2c, 1) := by decide +kernel
theorem dX6_state_19 : decode cX6_state 19 = .ok (.ireturn, 1) := by decide +kernel
set_option maxHeartbeats 4000000 in
set_option maxRecDepth 100000 in
theorem c_X6_state (l : Launch) (hl0 : l.stackTraces = false) (g : kG) (e0 : Nat) (w : Nat → Nat) (S : wPS) (sz : Nat) (hI : MI w S) (n : Int32) : kM l g e0 yX6_state cX6_state 2 (some .char) 2 43 0 0 [.ref (w 0), .int n] S sz (pI (fun r T => Mr w S T ∧ pF T 106 (w 0) = pF S 106 (w 0) ∧ kCh r ∧ (pF T 100 (w 0) = 1 ∨ (∃ m, m ≤ 12 ∧ pF S 102 (w 0) = nI m ∧ ∃ j, j < m ∧ n = nI j)))) (fun E => False) := by
  refine kM.of (by decide) (Nat.le_of_ble_eq_true rfl) ?_
  intro p e s m below meth c ls B hin
  obtain ⟨F, hr, hlk, hte, hP, hK, hD, hE, hS, hA, hl, hsz⟩ := B
  subst hsz
  have hx := F.1
  have hb := F.2.1
  have hl : lv_has ls 2 [(0, .ref (w 0)), (1, .int n)] := hl
  refine lv_aload_n hx hb dX6_state_0 rfl (lv_at hl 0 rfl) ?_
  refine lv_iload_n hx hb dX6_state_1 rfl (lv_at hl 1 rfl) ?_
  refine kcallI (kV (n := 1) (As := [.int n]) (rest := []) (b := (w 0)) (C := RX6) F hE hK hP hD hS hA (c_X6_isOrder l hl0 g e0 w S _ hI n) (rr_Model hK hP (hI.1.1 0 (by decide))) kw_447 kw_448 kw_449 kw_5 kw_450 (by decide +kernel) ⟨Nat.le_of_ble_eq_true rfl, Nat.le_of_ble_eq_true rfl⟩ rfl hl.1 rfl (Nat.le_of_ble_eq_true rfl) dX6_state_2 ⟨Nat.le_of_ble_eq_true rfl, Nat.le_of_ble_eq_true rfl⟩) rfl hD hS hA (fun _ _ _ _ _ h => False.elim h) (fun r1 T1 H locs hp hP hD hS => ?_)
  have hp := hp
  rcases hp with ⟨hr, hT, m2_, hm2, hmM2, j2, hj2, hn2⟩ | ⟨hr, hT, ho2⟩
  · subst hT
    subst hr
    have m2 : Mr w S (setF S 100 (w 0) 0) := (Mr.rf hI).thr
    refine lv_if_eq (tgt := 17) hx hb dX6_state_5 (by decide) (fun c3 => ?_) (fun c3 => ?_)
    · exact absurd c3 (by decide)
    · refine lv_aload_n hx hb dX6_state_8 rfl (lv_at hl 0 rfl) ?_
      refine rs_Model_state (b := w 8) F hK hP (m2.1.1.1 0 (by decide)) ((m2.1.2.1 8 (by decide) (by decide)).1) kw_74 dX6_state_9 ?_
      refine lv_iload_n hx hb dX6_state_12 rfl (lv_at hl 1 rfl) ?_
      refine rd_I F hK hP (m2.1.1.1 8 (by decide)) (by rw [show pN (setF S 100 (w 0) 0) (w 8) = 12 from (m2.1.2.1 8 (by decide) (by decide)).2, hn2]; exact vp_in_nI (by omega) (by decide)) dX6_state_13 ?_
      refine lv_topi (fun x4 ex4 => ?_)
      refine lv_goto (tgt := 18) hx hb dX6_state_14 (by decide) ?_
      refine lv_i2c (v := (x4.toUInt32 % 65536).toInt32) hx hb dX6_state_18 rfl ?_
      refine lv_topi (fun x5 ex5 => ?_)
      exact kEndI F hr ((kch_i2c ex5).1) hlk hP hD hS (Nat.le_of_ble_eq_true rfl) (Nat.le_of_ble_eq_true rfl) dX6_state_19 ⟨_, rfl, ⟨m2, ((uF_of (Or.inl (by decide))).trans rfl), kch_i2c ex5, Or.inr ⟨m2_, hm2, hmM2, j2, hj2, hn2⟩⟩⟩
  · subst hT
    subst hr
    have m2 : Mr w S (setF S 100 (w 0) 1) := (Mr.rf hI).thr
    refine lv_if_eq (tgt := 17) hx hb dX6_state_5 (by decide) (fun c6 => ?_) (fun c6 => ?_)
    · refine lv_iconst (v := 0) hx hb dX6_state_17 (by decide) ?_
      refine lv_i2c (v := ((0 : Int32).toUInt32 % 65536).toInt32) hx hb dX6_state_18 rfl ?_
      refine lv_topi (fun x7 ex7 => ?_)
      exact kEndI F hr ((kch_i2c ex7).1) hlk hP hD hS (Nat.le_of_ble_eq_true rfl) (Nat.le_of_ble_eq_true rfl) dX6_state_19 ⟨_, rfl, ⟨m2, ((uF_of (Or.inl (by decide))).trans rfl), kch_i2c ex7, Or.inl uF_at⟩⟩
    · exact absurd (by decide) c6
theorem dX6_waveOf_0 : decode cX6_waveOf 0 = .ok (.aload_n 0, 1) := by decide +kernel
theorem dX6_waveOf_1 : decode cX6_waveOf 1 = .ok (.iload_n 1, 1) := by decide +kernel
theorem dX6_waveOf_2 : decode cX6_waveOf 2 = .ok (.invokevirtual 118, 3) := by decide +kernel
theorem dX6_waveOf_5 : decode cX6_waveOf 5 = .ok (.ifCond .ne 5, 3) := by decide +kernel
theorem dX6_waveOf_8 : decode cX6_waveOf 8 = .ok (.iconst 0, 1) := by decide +kernel
theorem dX6_waveOf_9 : decode cX6_waveOf 9 = .ok (.ireturn, 1) := by decide +kernel
theorem dX6_waveOf_10 : decode cX6_waveOf 10 = .ok (.aload_n 0, 1) := by decide +kernel
theorem dX6_waveOf_11 : decode cX6_waveOf 11 = .ok (.getfield 34, 3) := by decide +kernel
theorem dX6_waveOf_14 : decode cX6_waveOf 14 = .ok (.iload_n 1, 1) := by decide +kernel
theorem dX6_waveOf_15 : decode cX6_waveOf 15 = .ok (.iaload, 1) := by decide +kernel
theorem dX6_waveOf_16 : decode cX6_waveOf 16 = .ok (.iconst (-1), 1) := by decide +kernel
theorem dX6_waveOf_17 : decode cX6_waveOf 17 = .ok (.if_icmp .ne 11, 3) := by decide +kernel
theorem dX6_waveOf_20 : decode cX6_waveOf 20 = .ok (.aload_n 0, 1) := by decide +kernel
theorem dX6_waveOf_21 : decode cX6_waveOf 21 = .ok (.iconst 2, 1) := by decide +kernel
theorem dX6_waveOf_22 : decode cX6_waveOf 22 = .ok (.invokevirtual 87, 3) := by decide +kernel
theorem dX6_waveOf_25 : decode cX6_waveOf 25 = .ok (.goto 9, 3) := by decide +kernel
theorem dX6_waveOf_28 : decode cX6_waveOf 28 = .ok (.aload_n 0, 1) := by decide +kernel
theorem dX6_waveOf_29 : decode cX6_waveOf 29 = .ok (.getfield 34, 3) := by decide +kernel
theorem dX6_waveOf_32 : decode cX6_waveOf 32 = .ok (.iload_n 1, 1) := by decide +kernel
theorem dX6_waveOf_33 : decode cX6_waveOf 33 = .ok (.iaload, 1) := by decide +kernel
theorem dX6_waveOf_34 : decode cX6_waveOf 34 = .ok (.ireturn, 1) := by decide +kernel
set_option maxHeartbeats 4000000 in
set_option maxRecDepth 100000 in
theorem c_X6_waveOf (l : Launch) (hl0 : l.stackTraces = false) (g : kG) (e0 : Nat) (w : Nat → Nat) (S : wPS) (sz : Nat) (hI : MI w S) (n : Int32) : kM l g e0 yX6_waveOf cX6_waveOf 2 (some .int) 2 43 0 0 [.ref (w 0), .int n] S sz (pI (fun r T => Mr w S T ∧ pF T 106 (w 0) = pF S 106 (w 0) ∧ (pF T 100 (w 0) = 1 ∨ (∃ m, m ≤ 12 ∧ pF S 102 (w 0) = nI m ∧ ∃ j, j < m ∧ n = nI j)))) (fun E => False) := by
  refine kM.of (by decide) (Nat.le_of_ble_eq_true rfl) ?_
  intro p e s m below meth c ls B hin
  obtain ⟨F, hr, hlk, hte, hP, hK, hD, hE, hS, hA, hl, hsz⟩ := B
  subst hsz
  have hx := F.1
  have hb := F.2.1
  have hl : lv_has ls 2 [(0, .ref (w 0)), (1, .int n)] := hl
  refine lv_aload_n hx hb dX6_waveOf_0 rfl (lv_at hl 0 rfl) ?_
  refine lv_iload_n hx hb dX6_waveOf_1 rfl (lv_at hl 1 rfl) ?_
  refine kcallI (kV (n := 1) (As := [.int n]) (rest := []) (b := (w 0)) (C := RX6) F hE hK hP hD hS hA (c_X6_isOrder l hl0 g e0 w S _ hI n) (rr_Model hK hP (hI.1.1 0 (by decide))) kw_447 kw_448 kw_449 kw_5 kw_450 (by decide +kernel) ⟨Nat.le_of_ble_eq_true rfl, Nat.le_of_ble_eq_true rfl⟩ rfl hl.1 rfl (Nat.le_of_ble_eq_true rfl) dX6_waveOf_2 ⟨Nat.le_of_ble_eq_true rfl, Nat.le_of_ble_eq_true rfl⟩) rfl hD hS hA (fun _ _ _ _ _ h => False.elim h) (fun r1 T1 H locs hp hP hD hS => ?_)
  have hp := hp
  rcases hp with ⟨hr, hT, m2_, hm2, hmM2, j2, hj2, hn2⟩ | ⟨hr, hT, ho2⟩
  · subst hT
    subst hr
    have m2 : Mr w S (setF S 100 (w 0) 0) := (Mr.rf hI).thr
    refine lv_if_ne (tgt := 10) hx hb dX6_waveOf_5 (by decide) (fun c3 => ?_) (fun c3 => ?_)
    · refine lv_aload_n hx hb dX6_waveOf_10 rfl (lv_at hl 0 rfl) ?_
      refine rs_Model_waveOf (b := w 9) F hK hP (m2.1.1.1 0 (by decide)) ((m2.1.2.1 9 (by decide) (by decide)).1) kw_75 dX6_waveOf_11 ?_
      refine lv_iload_n hx hb dX6_waveOf_14 rfl (lv_at hl 1 rfl) ?_
      refine rd_I F hK hP (m2.1.1.1 9 (by decide)) (by rw [show pN (setF S 100 (w 0) 0) (w 9) = 12 from (m2.1.2.1 9 (by decide) (by decide)).2, hn2]; exact vp_in_nI (by omega) (by decide)) dX6_waveOf_15 ?_
      refine lv_topi (fun x4 ex4 => ?_)
      refine lv_iconst (v := (-1)) hx hb dX6_waveOf_16 (by decide) ?_
      refine lv_icmp_ne (tgt := 28) hx hb dX6_waveOf_17 (by decide) (fun c5 => ?_) (fun c5 => ?_)
      · refine lv_aload_n hx hb dX6_waveOf_28 rfl (lv_at hl 0 rfl) ?_
        refine rs_Model_waveOf (b := w 9) F hK hP (m2.1.1.1 0 (by decide)) ((m2.1.2.1 9 (by decide) (by decide)).1) kw_75 dX6_waveOf_29 ?_
        refine lv_iload_n hx hb dX6_waveOf_32 rfl (lv_at hl 1 rfl) ?_
        refine rd_I F hK hP (m2.1.1.1 9 (by decide)) (by rw [show pN (setF S 100 (w 0) 0) (w 9) = 12 from (m2.1.2.1 9 (by decide) (by decide)).2, hn2]; exact vp_in_nI (by omega) (by decide)) dX6_waveOf_33 ?_
        refine lv_topi (fun x6 ex6 => ?_)
        exact kEndI F hr rfl hlk hP hD hS (Nat.le_of_ble_eq_true rfl) (Nat.le_of_ble_eq_true rfl) dX6_waveOf_34 ⟨_, rfl, ⟨m2, ((uF_of (Or.inl (by decide))).trans rfl), Or.inr ⟨m2_, hm2, hmM2, j2, hj2, hn2⟩⟩⟩
      · refine lv_aload_n hx hb dX6_waveOf_20 rfl (lv_at hl 0 rfl) ?_
        refine lv_iconst (v := 2) hx hb dX6_waveOf_21 (by decide) ?_
        refine kcallI (kV (n := 1) (As := [.int 2]) (rest := []) (b := (w 0)) (C := RX6) F hE hK hP hD hS hA (c_X6_fails l hl0 g e0 (setF S 100 (w 0) 0) _ (w 0) 2 (m2.1.1.1 0 (by decide))) (rr_Model hK hP (m2.1.1.1 0 (by decide))) kw_183 kw_184 kw_185 kw_5 kw_186 (by decide +kernel) ⟨Nat.le_of_ble_eq_true rfl, Nat.le_of_ble_eq_true rfl⟩ rfl hl.1 rfl (Nat.le_of_ble_eq_true rfl) dX6_waveOf_22 ⟨Nat.le_of_ble_eq_true rfl, Nat.le_of_ble_eq_true rfl⟩) rfl hD hS hA (fun _ _ _ _ _ h => False.elim h) (fun r7 T7 H locs hp hP hD hS => ?_)
        obtain ⟨hT, hr8⟩ := hp
        subst hT
        have m8 : Mr w S (setF (setF S 100 (w 0) 0) 100 (w 0) 2) := m2.thr
        subst hr8
        refine lv_goto (tgt := 34) hx hb dX6_waveOf_25 (by decide) ?_
        exact kEndI F hr rfl hlk hP hD hS (Nat.le_of_ble_eq_true rfl) (Nat.le_of_ble_eq_true rfl) dX6_waveOf_34 ⟨_, rfl, ⟨m8, ((uF_of (Or.inl (by decide))).trans ((uF_of (Or.inl (by decide))).trans rfl)), Or.inr ⟨m2_, hm2, hmM2, j2, hj2, hn2⟩⟩⟩
    · exact absurd c3 (by decide)
  · subst hT
    subst hr
    have m2 : Mr w S (setF S 100 (w 0) 1) := (Mr.rf hI).thr
    refine lv_if_ne (tgt := 10) hx hb dX6_waveOf_5 (by decide) (fun c9 => ?_) (fun c9 => ?_)
    · exact absurd c9 (by decide)
    · refine lv_iconst (v := 0) hx hb dX6_waveOf_8 (by decide) ?_
      exact kEndI F hr rfl hlk hP hD hS (Nat.le_of_ble_eq_true rfl) (Nat.le_of_ble_eq_true rfl) dX6_waveOf_9 ⟨_, rfl, ⟨m2, ((uF_of (Or.inl (by decide))).trans rfl), Or.inl uF_at⟩⟩
theorem dX6_carried_0 : decode cX6_carried 0 = .ok (.aload_n 0, 1) := by decide +kernel
theorem dX6_carried_1 : decode cX6_carried 1 = .ok (.iload_n 1, 1) := by decide +kernel
theorem dX6_carried_2 : decode cX6_carried 2 = .ok (.invokevirtual 133, 3) := by decide +kernel
theorem dX6_carried_5 : decode cX6_carried 5 = .ok (.ifCond .eq 12, 3) := by decide +kernel
theorem dX6_carried_8 : decode cX6_carried 8 = .ok (.aload_n 0, 1) := by decide +kernel
theorem dX6_carried_9 : decode cX6_carried 9 = .ok (.getfield 47, 3) := by decide +kernel
theorem dX6_carried_12 : decode cX6_carried 12 = .ok (.iload_n 1, 1) := by decide +kernel
theorem dX6_carried_13 : decode cX6_carried 13 = .ok (.iaload, 1) := by decide +kernel
theorem dX6_carried_14 : decode cX6_carried 14 = .ok (.goto 4, 3) := by decide +kernel
theorem dX6_carried_17 : decode cX6_carried 17 = .ok (.iconst 0, 1) := by decide +kernel
theorem dX6_carried_18 : decode cX6_carried 18 = .ok (.ireturn, 1) := by decide +kernel
set_option maxHeartbeats 4000000 in
set_option maxRecDepth 100000 in
theorem c_X6_carried (l : Launch) (hl0 : l.stackTraces = false) (g : kG) (e0 : Nat) (w : Nat → Nat) (S : wPS) (sz : Nat) (hI : MI w S) (n : Int32) : kM l g e0 yX6_carried cX6_carried 2 (some .int) 2 43 0 0 [.ref (w 0), .int n] S sz (pI (fun r T => Mr w S T ∧ pF T 106 (w 0) = pF S 106 (w 0) ∧ ((pF T 100 (w 0) = 1 ∧ (n < 0 ∨ 1 < n)) ∨ (pF T 100 (w 0) = 0 ∧ ∃ j, j < 2 ∧ n = nI j ∧ r = pX S (w 13) j)))) (fun E => False) := by
  refine kM.of (by decide) (Nat.le_of_ble_eq_true rfl) ?_
  intro p e s m below meth c ls B hin
  obtain ⟨F, hr, hlk, hte, hP, hK, hD, hE, hS, hA, hl, hsz⟩ := B
  subst hsz
  have hx := F.1
  have hb := F.2.1
  have hl : lv_has ls 2 [(0, .ref (w 0)), (1, .int n)] := hl
  refine lv_aload_n hx hb dX6_carried_0 rfl (lv_at hl 0 rfl) ?_
  refine lv_iload_n hx hb dX6_carried_1 rfl (lv_at hl 1 rfl) ?_
  refine kcallI (kV (n := 1) (As := [.int n]) (rest := []) (b := (w 0)) (C := RX6) F hE hK hP hD hS hA (c_X6_isRobot l hl0 g e0 w S _ hI n) (rr_Model hK hP (hI.1.1 0 (by decide))) kw_630 kw_631 kw_632 kw_5 kw_633 (by decide +kernel) ⟨Nat.le_of_ble_eq_true rfl, Nat.le_of_ble_eq_true rfl⟩ rfl hl.1 rfl (Nat.le_of_ble_eq_true rfl) dX6_carried_2 ⟨Nat.le_of_ble_eq_true rfl, Nat.le_of_ble_eq_true rfl⟩) rfl hD hS hA (fun _ _ _ _ _ h => False.elim h) (fun r1 T1 H locs hp hP hD hS => ?_)
  have hp := hp
  rcases hp with ⟨hr, hT, j2, hj2, hn2⟩ | ⟨hr, hT, ho2⟩
  · subst hT
    subst hr
    have m2 : Mr w S (setF S 100 (w 0) 0) := (Mr.rf hI).thr
    refine lv_if_eq (tgt := 17) hx hb dX6_carried_5 (by decide) (fun c3 => ?_) (fun c3 => ?_)
    · exact absurd c3 (by decide)
    · refine lv_aload_n hx hb dX6_carried_8 rfl (lv_at hl 0 rfl) ?_
      refine rs_Model_load (b := w 13) F hK hP (m2.1.1.1 0 (by decide)) ((m2.1.2.1 13 (by decide) (by decide)).1) kw_80 dX6_carried_9 ?_
      refine lv_iload_n hx hb dX6_carried_12 rfl (lv_at hl 1 rfl) ?_
      refine rd_I F hK hP (m2.1.1.1 13 (by decide)) (by rw [show pN (setF S 100 (w 0) 0) (w 13) = 2 from (m2.1.2.1 13 (by decide) (by decide)).2, hn2]; exact vp_in_nI (by omega) (by decide)) dX6_carried_13 ?_
      refine lv_topi (fun x4 ex4 => ?_)
      refine lv_goto (tgt := 18) hx hb dX6_carried_14 (by decide) ?_
      exact kEndI F hr rfl hlk hP hD hS (Nat.le_of_ble_eq_true rfl) (Nat.le_of_ble_eq_true rfl) dX6_carried_18 ⟨_, rfl, ⟨m2, ((uF_of (Or.inl (by decide))).trans rfl), Or.inr ⟨uF_at, j2, hj2, hn2, ex4.trans (show pX S (w 13) n.toNatClampNeg = pX S (w 13) j2 from by rw [hn2, nI_clamp (by omega)])⟩⟩⟩
  · subst hT
    subst hr
    have m2 : Mr w S (setF S 100 (w 0) 1) := (Mr.rf hI).thr
    refine lv_if_eq (tgt := 17) hx hb dX6_carried_5 (by decide) (fun c5 => ?_) (fun c5 => ?_)
    · refine lv_iconst (v := 0) hx hb dX6_carried_17 (by decide) ?_
      exact kEndI F hr rfl hlk hP hD hS (Nat.le_of_ble_eq_true rfl) (Nat.le_of_ble_eq_true rfl) dX6_carried_18 ⟨_, rfl, ⟨m2, ((uF_of (Or.inl (by decide))).trans rfl), Or.inl ⟨uF_at, ho2⟩⟩⟩
    · exact absurd (by decide) c5
theorem dX6_minutesOf_0 : decode cX6_minutesOf 0 = .ok (.aload_n 0, 1) := by decide +kernel
theorem dX6_minutesOf_1 : decode cX6_minutesOf 1 = .ok (.iload_n 1, 1) := by decide +kernel
theorem dX6_minutesOf_2 : decode cX6_minutesOf 2 = .ok (.invokevirtual 133, 3) := by decide +kernel
theorem dX6_minutesOf_5 : decode cX6_minutesOf 5 = .ok (.ifCond .eq 12, 3) := by decide +kernel
theorem dX6_minutesOf_8 : decode cX6_minutesOf 8 = .ok (.aload_n 0, 1) := by decide +kernel
theorem dX6_minutesOf_9 : decode cX6_minutesOf 9 = .ok (.getfield 50, 3) := by decide +kernel
theorem dX6_minutesOf_12 : decode cX6_minutesOf 12 = .ok (.iload_n 1, 1) := by decide +kernel
theorem dX6_minutesOf_13 : decode cX6_minutesOf 13 = .ok (.iaload, 1) := by decide +kernel
theorem dX6_minutesOf_14 : decode cX6_minutesOf 14 = .ok (.goto 4, 3) := by decide +kernel
theorem dX6_minutesOf_17 : decode cX6_minutesOf 17 = .ok (.iconst 0, 1) := by decide +kernel
theorem dX6_minutesOf_18 : decode cX6_minutesOf 18 = .ok (.ireturn, 1) := by decide +kernel
set_option maxHeartbeats 4000000 in
set_option maxRecDepth 100000 in
theorem c_X6_minutesOf (l : Launch) (hl0 : l.stackTraces = false) (g : kG) (e0 : Nat) (w : Nat → Nat) (S : wPS) (sz : Nat) (hI : MI w S) (n : Int32) : kM l g e0 yX6_minutesOf cX6_minutesOf 2 (some .int) 2 43 0 0 [.ref (w 0), .int n] S sz (pI (fun r T => Mr w S T ∧ pF T 106 (w 0) = pF S 106 (w 0) ∧ ((pF T 100 (w 0) = 1 ∧ (n < 0 ∨ 1 < n)) ∨ (pF T 100 (w 0) = 0 ∧ ∃ j, j < 2 ∧ n = nI j ∧ r = pX S (w 14) j)))) (fun E => False) := by
  refine kM.of (by decide) (Nat.le_of_ble_eq_true rfl) ?_
  intro p e s m below meth c ls B hin
  obtain ⟨F, hr, hlk, hte, hP, hK, hD, hE, hS, hA, hl, hsz⟩ := B
  subst hsz
  have hx := F.1
  have hb := F.2.1
  have hl : lv_has ls 2 [(0, .ref (w 0)), (1, .int n)] := hl
  refine lv_aload_n hx hb dX6_minutesOf_0 rfl (lv_at hl 0 rfl) ?_
  refine lv_iload_n hx hb dX6_minutesOf_1 rfl (lv_at hl 1 rfl) ?_
  refine kcallI (kV (n := 1) (As := [.int n]) (rest := []) (b := (w 0)) (C := RX6) F hE hK hP hD hS hA (c_X6_isRobot l hl0 g e0 w S _ hI n) (rr_Model hK hP (hI.1.1 0 (by decide))) kw_630 kw_631 kw_632 kw_5 kw_633 (by decide +kernel) ⟨Nat.le_of_ble_eq_true rfl, Nat.le_of_ble_eq_true rfl⟩ rfl hl.1 rfl (Nat.le_of_ble_eq_true rfl) dX6_minutesOf_2 ⟨Nat.le_of_ble_eq_true rfl, Nat.le_of_ble_eq_true rfl⟩) rfl hD hS hA (fun _ _ _ _ _ h => False.elim h) (fun r1 T1 H locs hp hP hD hS => ?_)
  have hp := hp
  rcases hp with ⟨hr, hT, j2, hj2, hn2⟩ | ⟨hr, hT, ho2⟩
  · subst hT
    subst hr
    have m2 : Mr w S (setF S 100 (w 0) 0) := (Mr.rf hI).thr
    refine lv_if_eq (tgt := 17) hx hb dX6_minutesOf_5 (by decide) (fun c3 => ?_) (fun c3 => ?_)
    · exact absurd c3 (by decide)
    · refine lv_aload_n hx hb dX6_minutesOf_8 rfl (lv_at hl 0 rfl) ?_
      refine rs_Model_left (b := w 14) F hK hP (m2.1.1.1 0 (by decide)) ((m2.1.2.1 14 (by decide) (by decide)).1) kw_81 dX6_minutesOf_9 ?_
      refine lv_iload_n hx hb dX6_minutesOf_12 rfl (lv_at hl 1 rfl) ?_
      refine rd_I F hK hP (m2.1.1.1 14 (by decide)) (by rw [show pN (setF S 100 (w 0) 0) (w 14) = 2 from (m2.1.2.1 14 (by decide) (by decide)).2, hn2]; exact vp_in_nI (by omega) (by decide)) dX6_minutesOf_13 ?_
      refine lv_topi (fun x4 ex4 => ?_)
      refine lv_goto (tgt := 18) hx hb dX6_minutesOf_14 (by decide) ?_
      exact kEndI F hr rfl hlk hP hD hS (Nat.le_of_ble_eq_true rfl) (Nat.le_of_ble_eq_true rfl) dX6_minutesOf_18 ⟨_, rfl, ⟨m2, ((uF_of (Or.inl (by decide))).trans rfl), Or.inr ⟨uF_at, j2, hj2, hn2, ex4.trans (show pX S (w 14) n.toNatClampNeg = pX S (w 14) j2 from by rw [hn2, nI_clamp (by omega)])⟩⟩⟩
  · subst hT
    subst hr
    have m2 : Mr w S (setF S 100 (w 0) 1) := (Mr.rf hI).thr
    refine lv_if_eq (tgt := 17) hx hb dX6_minutesOf_5 (by decide) (fun c5 => ?_) (fun c5 => ?_)
    · refine lv_iconst (v := 0) hx hb dX6_minutesOf_17 (by decide) ?_
      exact kEndI F hr rfl hlk hP hD hS (Nat.le_of_ble_eq_true rfl) (Nat.le_of_ble_eq_true rfl) dX6_minutesOf_18 ⟨_, rfl, ⟨m2, ((uF_of (Or.inl (by decide))).trans rfl), Or.inl ⟨uF_at, ho2⟩⟩⟩
    · exact absurd (by decide) c5
