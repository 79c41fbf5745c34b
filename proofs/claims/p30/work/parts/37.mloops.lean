theorem dX6_ship_0 : decode cX6_ship 0 = .ok (.aload_n 0, 1) := by decide +kernel
theorem dX6_ship_1 : decode cX6_ship 1 = .ok (.iload_n 1, 1) := by decide +kernel
theorem dX6_ship_2 : decode cX6_ship 2 = .ok (.invokevirtual 124, 3) := by decide +kernel
theorem dX6_ship_5 : decode cX6_ship 5 = .ok (.ifCond .ne 5, 3) := by decide +kernel
theorem dX6_ship_8 : decode cX6_ship 8 = .ok (.iconst 0, 1) := by decide +kernel
theorem dX6_ship_9 : decode cX6_ship 9 = .ok (.ireturn, 1) := by decide +kernel
theorem dX6_ship_10 : decode cX6_ship 10 = .ok (.iconst 0, 1) := by decide +kernel
theorem dX6_ship_11 : decode cX6_ship 11 = .ok (.istore_n 2, 1) := by decide +kernel
theorem dX6_ship_12 : decode cX6_ship 12 = .ok (.iconst 0, 1) := by decide +kernel
theorem dX6_ship_13 : decode cX6_ship 13 = .ok (.istore_n 3, 1) := by decide +kernel
theorem dX6_ship_14 : decode cX6_ship 14 = .ok (.iload_n 3, 1) := by decide +kernel
theorem dX6_ship_15 : decode cX6_ship 15 = .ok (.aload_n 0, 1) := by decide +kernel
theorem dX6_ship_16 : decode cX6_ship 16 = .ok (.getfield 73, 3) := by decide +kernel
theorem dX6_ship_19 : decode cX6_ship 19 = .ok (.if_icmp .ge 51, 3) := by decide +kernel
theorem dX6_ship_22 : decode cX6_ship 22 = .ok (.aload_n 0, 1) := by decide +kernel
theorem dX6_ship_23 : decode cX6_ship 23 = .ok (.getfield 31, 3) := by decide +kernel
theorem dX6_ship_26 : decode cX6_ship 26 = .ok (.iload_n 3, 1) := by decide +kernel
theorem dX6_ship_27 : decode cX6_ship 27 = .ok (.iaload, 1) := by decide +kernel
theorem dX6_ship_28 : decode cX6_ship 28 = .ok (.bipush 107, 2) := by decide +kernel
theorem dX6_ship_30 : decode cX6_ship 30 = .ok (.if_icmp .ne 34, 3) := by decide +kernel
theorem dX6_ship_33 : decode cX6_ship 33 = .ok (.aload_n 0, 1) := by decide +kernel
theorem dX6_ship_34 : decode cX6_ship 34 = .ok (.getfield 28, 3) := by decide +kernel
theorem dX6_ship_37 : decode cX6_ship 37 = .ok (.iload_n 3, 1) := by decide +kernel
theorem dX6_ship_38 : decode cX6_ship 38 = .ok (.iaload, 1) := by decide +kernel
theorem dX6_ship_39 : decode cX6_ship 39 = .ok (.iload_n 1, 1) := by decide +kernel
theorem dX6_ship_40 : decode cX6_ship 40 = .ok (.if_icmp .eq 6, 3) := by decide +kernel
theorem dX6_ship_43 : decode cX6_ship 43 = .ok (.goto 21, 3) := by decide +kernel
theorem dX6_ship_46 : decode cX6_ship 46 = .ok (.aload_n 0, 1) := by decide +kernel
theorem dX6_ship_47 : decode cX6_ship 47 = .ok (.getfield 31, 3) := by decide +kernel
theorem dX6_ship_50 : decode cX6_ship 50 = .ok (.iload_n 3, 1) := by decide +kernel
theorem dX6_ship_51 : decode cX6_ship 51 = .ok (.bipush 115, 2) := by decide +kernel
theorem dX6_ship_53 : decode cX6_ship 53 = .ok (.iastore, 1) := by decide +kernel
theorem dX6_ship_54 : decode cX6_ship 54 = .ok (.aload_n 0, 1) := by decide +kernel
theorem dX6_ship_55 : decode cX6_ship 55 = .ok (.iload_n 3, 1) := by decide +kernel
theorem dX6_ship_56 : decode cX6_ship 56 = .ok (.bipush 115, 2) := by decide +kernel
theorem dX6_ship_58 : decode cX6_ship 58 = .ok (.invokevirtual 83, 3) := by decide +kernel
theorem dX6_ship_61 : decode cX6_ship 61 = .ok (.iinc 2 1, 3) := by decide +kernel
theorem dX6_ship_64 : decode cX6_ship 64 = .ok (.iinc 3 1, 3) := by decide +kernel
theorem dX6_ship_67 : decode cX6_ship 67 = .ok (.goto (-53), 3) := by decide +kernel
theorem dX6_ship_70 : decode cX6_ship 70 = .ok (.iload_n 2, 1) := by decide +kernel
theorem dX6_ship_71 : decode cX6_ship 71 = .ok (.ireturn, 1) := by decide +kernel
set_option maxHeartbeats 4000000 in
set_option maxRecDepth 100000 in
theorem c_X6_ship (l : Launch) (hl0 : l.stackTraces = false) (g : kG) (e0 : Nat) (w : Nat → Nat) (S : wPS) (sz : Nat) (hI : MI w S) (n : Int32) (cn : Nat) (hc : pF S 106 (w 0) = nI cn) (hc7 : cn + 13 ≤ 7000) : kM l g e0 yX6_ship cX6_ship 4 (some .int) 2 43 0 0 [.ref (w 0), .int n] S sz (pI (fun r T => Mr w S T ∧ (∃ c9, c9 ≤ cn + 13 ∧ pF T 106 (w 0) = nI c9) ∧ ((pF T 100 (w 0) = 1 ∧ (n < 0 ∨ 2 < n)) ∨ (pF T 100 (w 0) = 0 ∧ (∃ j, j < 3 ∧ n = nI j) ∧ (pF S 102 (w 0) = 0 → r = 0))))) (fun E => False) := by
  refine kM.of (by decide) (Nat.le_of_ble_eq_true rfl) ?_
  intro p e s m below meth c ls B hin
  obtain ⟨F, hr, hlk, hte, hP, hK, hD, hE, hS, hA, hl, hsz⟩ := B
  subst hsz
  have hx := F.1
  have hb := F.2.1
  have hl : lv_has ls 4 [(0, .ref (w 0)), (1, .int n)] := hl
  obtain ⟨m9, hm9, hm8_⟩ := hI.2.2.1.2
  refine lv_aload_n hx hb dX6_ship_0 rfl (lv_at hl 0 rfl) ?_
  refine lv_iload_n hx hb dX6_ship_1 rfl (lv_at hl 1 rfl) ?_
  refine kcallI (kV (n := 1) (As := [.int n]) (rest := []) (b := (w 0)) (C := RX6) F hE hK hP hD hS hA (c_X6_isCarrier l hl0 g e0 w S _ hI n) (rr_Model hK hP (hI.1.1 0 (by decide))) kw_532 kw_533 kw_534 kw_5 kw_535 (by decide +kernel) ⟨Nat.le_of_ble_eq_true rfl, Nat.le_of_ble_eq_true rfl⟩ rfl hl.1 rfl (Nat.le_of_ble_eq_true rfl) dX6_ship_2 ⟨Nat.le_of_ble_eq_true rfl, Nat.le_of_ble_eq_true rfl⟩) rfl hD hS hA (fun _ _ _ _ _ h => False.elim h) (fun r1 T1 H locs hp hP hD hS => ?_)
  have hp := hp
  rcases hp with ⟨hr, hT, j2, hj2, hn2⟩ | ⟨hr, hT, ho2⟩
  · subst hT
    subst hr
    have m2 : Mr w S (setF S 100 (w 0) 0) := (Mr.rf hI).thr
    refine lv_if_ne (tgt := 10) hx hb dX6_ship_5 (by decide) (fun c3 => ?_) (fun c3 => ?_)
    · have hm8 : pF (setF S 100 (w 0) 0) 102 (w 0) = nI m9 := (uF_of (Or.inl (by decide))).trans hm8_
      refine lv_iconst (v := 0) hx hb dX6_ship_10 (by decide) ?_
      refine lv_istore_n (lv' := [(2, .int 0), (0, .ref (w 0)), (1, .int n)]) hx hb dX6_ship_11 rfl hl (by decide) rfl (fun ls hl => ?_)
      refine lv_iconst (v := 0) hx hb dX6_ship_12 (by decide) ?_
      refine lv_istore_n (lv' := [(3, .int 0), (2, .int 0), (0, .ref (w 0)), (1, .int n)]) hx hb dX6_ship_13 rfl hl (by decide) rfl (fun ls hl => ?_)
      have loop : ∀ (fu : Nat) (T0 : wPS) (i c1 : Nat) (xi sm : Int32) (H : Heap) (locs : List Loc) (ls : Array Slot), va_P (kD g) vwCl (kW g T0) H → va_D (kA (pL S) s.heap.size) (kW g T0) → va_S (kA (pL S) s.heap.size) s.heap H locs → lv_has ls 4 [(3, .int xi), (2, .int sm), (0, .ref (w 0)), (1, .int n)] → m9 - i < fu → (Mk w (setF S 100 (w 0) 0) T0) → (xi = nI i) → (i ≤ m9) → (pF T0 106 (w 0) = nI c1) → (c1 ≤ cn + i) → (i = 0 → sm = 0) → W p l e ({ frames := 2, cells := 0, slots := 0, locals := 43 }) s m ([.ref (w 0), .int n] : List Value).toArray below meth c H locs 0 0 (vx_MQ below (kQ g S s.heap.size (pI (fun r T => Mr w S T ∧ (∃ c9, c9 ≤ cn + 13 ∧ pF T 106 (w 0) = nI c9) ∧ ((pF T 100 (w 0) = 1 ∧ (n < 0 ∨ 2 < n)) ∨ (pF T 100 (w 0) = 0 ∧ (∃ j, j < 3 ∧ n = nI j) ∧ (pF S 102 (w 0) = 0 → r = 0)))))) (kX g S s.heap.size (fun E => False)) ([.ref (w 0), .int n] : List Value).toArray s 0 0 (kA (pL S) s.heap.size)) (F0 m 14 ls []) := by
        intro fu
        induction fu with
        | zero => intro T0 i c1 xi sm H locs ls hP hD hS hl hn hMk hi hin hcc hcl hz; exact absurd hn (Nat.not_lt_zero _)
        | succ fu ih =>
          intro T0 i c1 xi sm H locs ls hP hD hS hl hn hMk hi hin hcc hcl hz
          refine lv_iload_n hx hb dX6_ship_14 rfl (lv_at hl 0 rfl) ?_
          refine lv_aload_n hx hb dX6_ship_15 rfl (lv_at hl 2 rfl) ?_
          refine rg_Model_orders F hK hP (hMk.1.1.1.1 0 (by decide)) kw_263 dX6_ship_16 ?_
          refine lv_topi (fun x4 ex4 => ?_)
          refine lv_icmp_ge (tgt := 70) hx hb dX6_ship_19 (by decide) (fun c5 => ?_) (fun c5 => ?_)
          · refine lv_iload_n hx hb dX6_ship_70 rfl (lv_at hl 1 rfl) ?_
            exact kEndI F hr rfl hlk hP hD hS (Nat.le_of_ble_eq_true rfl) (Nat.le_of_ble_eq_true rfl) dX6_ship_71 ⟨_, rfl, ⟨(m2.trans hMk.1), ⟨c1, by omega, hcc⟩, Or.inr ⟨(hMk.2.1.trans uF_at), ⟨j2, hj2, hn2⟩, (fun h => hz (by have h9 : nI m9 = nI 0 := hm8_.symm.trans h; have := (nI_eq (by omega) (by decide)).mp h9; omega))⟩⟩⟩
          · have hlt : i < m9 := klm hin (by omega) hi (ex4.trans (hMk.2.2.trans hm8)) c5
            refine lv_aload_n hx hb dX6_ship_22 rfl (lv_at hl 2 rfl) ?_
            refine rs_Model_state (b := w 8) F hK hP (hMk.1.1.1.1 0 (by decide)) ((hMk.1.1.2.1 8 (by decide) (by decide)).1) kw_74 dX6_ship_23 ?_
            refine lv_iload_n hx hb dX6_ship_26 rfl (lv_at hl 0 rfl) ?_
            refine rd_I F hK hP (hMk.1.1.1.1 8 (by decide)) (by rw [show pN T0 (w 8) = 12 from (hMk.1.1.2.1 8 (by decide) (by decide)).2, hi]; exact vp_in_nI (by omega) (by decide)) dX6_ship_27 ?_
            refine lv_topi (fun x6 ex6 => ?_)
            refine lv_bipush (v := 107) hx hb dX6_ship_28 (by decide) ?_
            refine lv_icmp_ne (tgt := 64) hx hb dX6_ship_30 (by decide) (fun c7 => ?_) (fun c7 => ?_)
            · obtain ⟨x8, ex8⟩ : ∃ y : Int32, y = xi + 1 := ⟨_, rfl⟩
              refine lv_iinc (v := x8) (lv' := [(3, .int x8), (2, .int sm), (0, .ref (w 0)), (1, .int n)]) hx hb dX6_ship_64 hl (k := 0) rfl (by rw [ex8]; rfl) (by decide) rfl (fun ls hl => ?_)
              refine lv_goto (tgt := 14) hx hb dX6_ship_67 (by decide) ?_
              exact ih _ (i + 1) c1 x8 sm H locs ls hP hD hS (lv_sub hl [0, 1, 2, 3] rfl) (by omega) hMk (by rw [ex8, hi]; exact nI_1 i) hlt hcc (by omega) (fun h => absurd h (by omega))
            · refine lv_aload_n hx hb dX6_ship_33 rfl (lv_at hl 2 rfl) ?_
              refine rs_Model_carrier (b := w 7) F hK hP (hMk.1.1.1.1 0 (by decide)) ((hMk.1.1.2.1 7 (by decide) (by decide)).1) kw_73 dX6_ship_34 ?_
              refine lv_iload_n hx hb dX6_ship_37 rfl (lv_at hl 0 rfl) ?_
              refine rd_I F hK hP (hMk.1.1.1.1 7 (by decide)) (by rw [show pN T0 (w 7) = 12 from (hMk.1.1.2.1 7 (by decide) (by decide)).2, hi]; exact vp_in_nI (by omega) (by decide)) dX6_ship_38 ?_
              refine lv_topi (fun x9 ex9 => ?_)
              refine lv_iload_n hx hb dX6_ship_39 rfl (lv_at hl 3 rfl) ?_
              refine lv_icmp_eq (tgt := 46) hx hb dX6_ship_40 (by decide) (fun c10 => ?_) (fun c10 => ?_)
              · refine lv_aload_n hx hb dX6_ship_46 rfl (lv_at hl 2 rfl) ?_
                refine rs_Model_state (b := w 8) F hK hP (hMk.1.1.1.1 0 (by decide)) ((hMk.1.1.2.1 8 (by decide) (by decide)).1) kw_74 dX6_ship_47 ?_
                refine lv_iload_n hx hb dX6_ship_50 rfl (lv_at hl 0 rfl) ?_
                refine lv_bipush (v := 115) hx hb dX6_ship_51 (by decide) ?_
                refine rt_I F hK hP hD hS (hMk.1.1.1.1 8 (by decide)) (by rw [show pN T0 (w 8) = 12 from (hMk.1.1.2.1 8 (by decide) (by decide)).2, hi]; exact vp_in_nI (by omega) (by decide)) dX6_ship_53 (fun H locs hP hD hS => ?_)
                refine lv_aload_n hx hb dX6_ship_54 rfl (lv_at hl 2 rfl) ?_
                refine lv_iload_n hx hb dX6_ship_55 rfl (lv_at hl 0 rfl) ?_
                refine lv_bipush (v := 115) hx hb dX6_ship_56 (by decide) ?_
                refine kcallU (kV (n := 2) (As := [.int xi, .int 115]) (rest := []) (b := (w 0)) (C := RX6) F hE hK hP hD hS hA (c_X6_notes l hl0 g e0 w (setX T0 (w 8) (upd (pX T0 (w 8)) xi.toNatClampNeg 115)) _ ((Mk.x (i := 8) hMk (by decide) (by decide) (by decide)).1.1) xi 115 c1 hcc (by omega)) (rr_Model hK hP (hMk.1.1.1.1 0 (by decide))) kw_343 kw_344 kw_345 kw_5 kw_346 (by decide +kernel) ⟨Nat.le_of_ble_eq_true rfl, Nat.le_of_ble_eq_true rfl⟩ rfl hl.1 rfl (Nat.le_of_ble_eq_true rfl) dX6_ship_58 ⟨Nat.le_of_ble_eq_true rfl, Nat.le_of_ble_eq_true rfl⟩) rfl hD hS hA (fun _ _ _ _ _ h => False.elim h) (fun T11 H locs hp hP hD hS => ?_)
                obtain ⟨k12, c12_, s12⟩ := hp
                have K12 : Mk w (setF S 100 (w 0) 0) T11 := (Mk.x (i := 8) hMk (by decide) (by decide) (by decide)).trans k12
                obtain ⟨x13, ex13⟩ : ∃ y : Int32, y = sm + 1 := ⟨_, rfl⟩
                refine lv_iinc (v := x13) (lv' := [(2, .int x13), (3, .int xi), (0, .ref (w 0)), (1, .int n)]) hx hb dX6_ship_61 hl (k := 1) rfl (by rw [ex13]; rfl) (by decide) rfl (fun ls hl => ?_)
                obtain ⟨x14, ex14⟩ : ∃ y : Int32, y = xi + 1 := ⟨_, rfl⟩
                refine lv_iinc (v := x14) (lv' := [(3, .int x14), (2, .int x13), (0, .ref (w 0)), (1, .int n)]) hx hb dX6_ship_64 hl (k := 1) rfl (by rw [ex14]; rfl) (by decide) rfl (fun ls hl => ?_)
                refine lv_goto (tgt := 14) hx hb dX6_ship_67 (by decide) ?_
                exact ih _ (i + 1) (c1 + 1) x14 x13 H locs ls hP hD hS (lv_sub hl [0, 1, 2, 3] rfl) (by omega) K12 (by rw [ex14, hi]; exact nI_1 i) hlt c12_ (by omega) (fun h => absurd h (by omega))
              · refine lv_goto (tgt := 64) hx hb dX6_ship_43 (by decide) ?_
                obtain ⟨x15, ex15⟩ : ∃ y : Int32, y = xi + 1 := ⟨_, rfl⟩
                refine lv_iinc (v := x15) (lv' := [(3, .int x15), (2, .int sm), (0, .ref (w 0)), (1, .int n)]) hx hb dX6_ship_64 hl (k := 0) rfl (by rw [ex15]; rfl) (by decide) rfl (fun ls hl => ?_)
                refine lv_goto (tgt := 14) hx hb dX6_ship_67 (by decide) ?_
                exact ih _ (i + 1) c1 x15 sm H locs ls hP hD hS (lv_sub hl [0, 1, 2, 3] rfl) (by omega) hMk (by rw [ex15, hi]; exact nI_1 i) hlt hcc (by omega) (fun h => absurd h (by omega))
      exact loop 13 _ 0 cn 0 0 _ _ _ hP hD hS (lv_sub hl [0, 1, 2, 3] rfl) (by omega) (Mk.rf m2.1) rfl (Nat.zero_le _) (show pF (setF S 100 (w 0) 0) 106 (w 0) = nI cn from ((uF_of (Or.inl (by decide))).trans rfl).trans hc) (by omega) (fun _ => rfl)
    · exact absurd c3 (by decide)
  · subst hT
    subst hr
    have m2 : Mr w S (setF S 100 (w 0) 1) := (Mr.rf hI).thr
    refine lv_if_ne (tgt := 10) hx hb dX6_ship_5 (by decide) (fun c16 => ?_) (fun c16 => ?_)
    · exact absurd c16 (by decide)
    · refine lv_iconst (v := 0) hx hb dX6_ship_8 (by decide) ?_
      exact kEndI F hr rfl hlk hP hD hS (Nat.le_of_ble_eq_true rfl) (Nat.le_of_ble_eq_true rfl) dX6_ship_9 ⟨_, rfl, ⟨m2, ⟨cn, by omega, (show pF (setF S 100 (w 0) 1) 106 (w 0) = nI cn from ((uF_of (Or.inl (by decide))).trans rfl).trans hc)⟩, Or.inl ⟨uF_at, ho2⟩⟩⟩
theorem dX6_setBlocked_0 : decode cX6_setBlocked 0 = .ok (.aload_n 0, 1) := by decide +kernel
theorem dX6_setBlocked_1 : decode cX6_setBlocked 1 = .ok (.iload_n 1, 1) := by decide +kernel
theorem dX6_setBlocked_2 : decode cX6_setBlocked 2 = .ok (.invokevirtual 100, 3) := by decide +kernel
theorem dX6_setBlocked_5 : decode cX6_setBlocked 5 = .ok (.ifCond .ne 5, 3) := by decide +kernel
theorem dX6_setBlocked_8 : decode cX6_setBlocked 8 = .ok (.iconst 0, 1) := by decide +kernel
theorem dX6_setBlocked_9 : decode cX6_setBlocked 9 = .ok (.ireturn, 1) := by decide +kernel
theorem dX6_setBlocked_10 : decode cX6_setBlocked 10 = .ok (.aload_n 0, 1) := by decide +kernel
theorem dX6_setBlocked_11 : decode cX6_setBlocked 11 = .ok (.getfield 37, 3) := by decide +kernel
theorem dX6_setBlocked_14 : decode cX6_setBlocked 14 = .ok (.iload_n 1, 1) := by decide +kernel
theorem dX6_setBlocked_15 : decode cX6_setBlocked 15 = .ok (.baload, 1) := by decide +kernel
theorem dX6_setBlocked_16 : decode cX6_setBlocked 16 = .ok (.istore_n 3, 1) := by decide +kernel
theorem dX6_setBlocked_17 : decode cX6_setBlocked 17 = .ok (.aload_n 0, 1) := by decide +kernel
theorem dX6_setBlocked_18 : decode cX6_setBlocked 18 = .ok (.getfield 37, 3) := by decide +kernel
theorem dX6_setBlocked_21 : decode cX6_setBlocked 21 = .ok (.iload_n 1, 1) := by decide +kernel
theorem dX6_setBlocked_22 : decode cX6_setBlocked 22 = .ok (.iload_n 2, 1) := by decide +kernel
theorem dX6_setBlocked_23 : decode cX6_setBlocked 23 = .ok (.bastore, 1) := by decide +kernel
theorem dX6_setBlocked_24 : decode cX6_setBlocked 24 = .ok (.iconst 0, 1) := by decide +kernel
theorem dX6_setBlocked_25 : decode cX6_setBlocked 25 = .ok (.istore 4, 2) := by decide +kernel
theorem dX6_setBlocked_27 : decode cX6_setBlocked 27 = .ok (.iload 4, 2) := by decide +kernel
theorem dX6_setBlocked_29 : decode cX6_setBlocked 29 = .ok (.aload_n 0, 1) := by decide +kernel
theorem dX6_setBlocked_30 : decode cX6_setBlocked 30 = .ok (.getfield 73, 3) := by decide +kernel
theorem dX6_setBlocked_33 : decode cX6_setBlocked 33 = .ok (.if_icmp .ge 47, 3) := by decide +kernel
theorem dX6_setBlocked_36 : decode cX6_setBlocked 36 = .ok (.iload_n 2, 1) := by decide +kernel
theorem dX6_setBlocked_37 : decode cX6_setBlocked 37 = .ok (.ifCond .eq 43, 3) := by decide +kernel
theorem dX6_setBlocked_40 : decode cX6_setBlocked 40 = .ok (.aload_n 0, 1) := by decide +kernel
theorem dX6_setBlocked_41 : decode cX6_setBlocked 41 = .ok (.getfield 31, 3) := by decide +kernel
theorem dX6_setBlocked_44 : decode cX6_setBlocked 44 = .ok (.iload 4, 2) := by decide +kernel
theorem dX6_setBlocked_46 : decode cX6_setBlocked 46 = .ok (.iaload, 1) := by decide +kernel
theorem dX6_setBlocked_47 : decode cX6_setBlocked 47 = .ok (.bipush 112, 2) := by decide +kernel
theorem dX6_setBlocked_49 : decode cX6_setBlocked 49 = .ok (.if_icmp .ne 25, 3) := by decide +kernel
theorem dX6_setBlocked_52 : decode cX6_setBlocked 52 = .ok (.aload_n 0, 1) := by decide +kernel
theorem dX6_setBlocked_53 : decode cX6_setBlocked 53 = .ok (.getfield 7, 3) := by decide +kernel
theorem dX6_setBlocked_56 : decode cX6_setBlocked 56 = .ok (.aload_n 0, 1) := by decide +kernel
theorem dX6_setBlocked_57 : decode cX6_setBlocked 57 = .ok (.getfield 22, 3) := by decide +kernel
theorem dX6_setBlocked_60 : decode cX6_setBlocked 60 = .ok (.iload 4, 2) := by decide +kernel
theorem dX6_setBlocked_62 : decode cX6_setBlocked 62 = .ok (.iaload, 1) := by decide +kernel
theorem dX6_setBlocked_63 : decode cX6_setBlocked 63 = .ok (.iaload, 1) := by decide +kernel
theorem dX6_setBlocked_64 : decode cX6_setBlocked 64 = .ok (.iload_n 1, 1) := by decide +kernel
theorem dX6_setBlocked_65 : decode cX6_setBlocked 65 = .ok (.if_icmp .ne 9, 3) := by decide +kernel
theorem dX6_setBlocked_68 : decode cX6_setBlocked 68 = .ok (.aload_n 0, 1) := by decide +kernel
theorem dX6_setBlocked_69 : decode cX6_setBlocked 69 = .ok (.iload 4, 2) := by decide +kernel
theorem dX6_setBlocked_71 : decode cX6_setBlocked 71 = .ok (.invokevirtual 103, 3) := by decide +kernel
theorem dX6_setBlocked_74 : decode cX6_setBlocked 74 = .ok (.iinc 4 1, 3) := by decide +kernel
theorem dX6_setBlocked_77 : decode cX6_setBlocked 77 = .ok (.goto (-50), 3) := by decide +kernel
theorem dX6_setBlocked_80 : decode cX6_setBlocked 80 = .ok (.iload_n 3, 1) := by decide +kernel
theorem dX6_setBlocked_81 : decode cX6_setBlocked 81 = .ok (.ireturn, 1) := by decide +kernel
set_option maxHeartbeats 4000000 in
set_option maxRecDepth 100000 in
theorem c_X6_setBlocked (l : Launch) (hl0 : l.stackTraces = false) (g : kG) (e0 : Nat) (w : Nat → Nat) (S : wPS) (sz : Nat) (hI : MI w S) (n v : Int32) (hv : kBo v) (cn : Nat) (hc : pF S 106 (w 0) = nI cn) (hc7 : cn + 13 ≤ 7000) : kM l g e0 yX6_setBlocked cX6_setBlocked 5 (some .boolean) 2 43 0 0 [.ref (w 0), .int n, .int v] S sz (pI (fun r T => kBo r ∧ (∃ c9, c9 ≤ cn + 13 ∧ pF T 106 (w 0) = nI c9) ∧ ((pF T 100 (w 0) = 1 ∧ (n < 0 ∨ 3 < n) ∧ Mr w S T) ∨ (pF T 100 (w 0) = 0 ∧ ∃ j, j < 4 ∧ n = nI j ∧ r = pX S (w 10) j ∧ Mr w (setX S (w 10) (upd (pX S (w 10)) j v)) T)))) (fun E => False) := by
  refine kM.of (by decide) (Nat.le_of_ble_eq_true rfl) ?_
  intro p e s m below meth c ls B hin
  obtain ⟨F, hr, hlk, hte, hP, hK, hD, hE, hS, hA, hl, hsz⟩ := B
  subst hsz
  have hx := F.1
  have hb := F.2.1
  have hl : lv_has ls 5 [(0, .ref (w 0)), (1, .int n), (2, .int v)] := hl
  obtain ⟨m9, hm9, hm8_⟩ := hI.2.2.1.2
  refine lv_aload_n hx hb dX6_setBlocked_0 rfl (lv_at hl 0 rfl) ?_
  refine lv_iload_n hx hb dX6_setBlocked_1 rfl (lv_at hl 1 rfl) ?_
  refine kcallI (kV (n := 1) (As := [.int n]) (rest := []) (b := (w 0)) (C := RX6) F hE hK hP hD hS hA (c_X6_isAisle l hl0 g e0 w S _ hI n) (rr_Model hK hP (hI.1.1 0 (by decide))) kw_335 kw_336 kw_337 kw_5 kw_338 (by decide +kernel) ⟨Nat.le_of_ble_eq_true rfl, Nat.le_of_ble_eq_true rfl⟩ rfl hl.1 rfl (Nat.le_of_ble_eq_true rfl) dX6_setBlocked_2 ⟨Nat.le_of_ble_eq_true rfl, Nat.le_of_ble_eq_true rfl⟩) rfl hD hS hA (fun _ _ _ _ _ h => False.elim h) (fun r1 T1 H locs hp hP hD hS => ?_)
  have hp := hp
  rcases hp with ⟨hr, hT, j2, hj2, hn2⟩ | ⟨hr, hT, ho2⟩
  · subst hT
    subst hr
    have m2 : Mr w S (setF S 100 (w 0) 0) := (Mr.rf hI).thr
    refine lv_if_ne (tgt := 10) hx hb dX6_setBlocked_5 (by decide) (fun c3 => ?_) (fun c3 => ?_)
    · have hcl9 : n.toNatClampNeg = j2 := by rw [hn2, nI_clamp (by omega)]
      refine lv_aload_n hx hb dX6_setBlocked_10 rfl (lv_at hl 0 rfl) ?_
      refine rs_Model_isBlocked (b := w 10) F hK hP (m2.1.1.1 0 (by decide)) ((m2.1.2.1 10 (by decide) (by decide)).1) kw_77 dX6_setBlocked_11 ?_
      refine lv_iload_n hx hb dX6_setBlocked_14 rfl (lv_at hl 1 rfl) ?_
      refine rd_Z F hK hP (m2.1.1.1 10 (by decide)) (by rw [show pN (setF S 100 (w 0) 0) (w 10) = 4 from (m2.1.2.1 10 (by decide) (by decide)).2, hn2]; exact vp_in_nI (by omega) (by decide)) dX6_setBlocked_15 ?_
      refine lv_topi (fun x4 ex4 => ?_)
      refine lv_istore_n (lv' := [(3, .int x4), (0, .ref (w 0)), (1, .int n), (2, .int v)]) hx hb dX6_setBlocked_16 rfl hl (by decide) rfl (fun ls hl => ?_)
      refine lv_aload_n hx hb dX6_setBlocked_17 rfl (lv_at hl 1 rfl) ?_
      refine rs_Model_isBlocked (b := w 10) F hK hP (m2.1.1.1 0 (by decide)) ((m2.1.2.1 10 (by decide) (by decide)).1) kw_77 dX6_setBlocked_18 ?_
      refine lv_iload_n hx hb dX6_setBlocked_21 rfl (lv_at hl 2 rfl) ?_
      refine lv_iload_n hx hb dX6_setBlocked_22 rfl (lv_at hl 3 rfl) ?_
      refine rt_Z F hK hP hD hS (m2.1.1.1 10 (by decide)) (by rw [show pN (setF S 100 (w 0) 0) (w 10) = 4 from (m2.1.2.1 10 (by decide) (by decide)).2, hn2]; exact vp_in_nI (by omega) (by decide)) dX6_setBlocked_23 (fun H locs hP hD hS => ?_)
      obtain ⟨S2, hS2⟩ : ∃ x : wPS, x = setX (setF S 100 (w 0) 0) (w 10) (upd (pX (setF S 100 (w 0) 0) (w 10)) n.toNatClampNeg (vp_nar .boolean v)) := ⟨_, rfl⟩
      rw [← hS2] at hP hD
      have hr2 : Mr w (setX S (w 10) (upd (pX S (w 10)) j2 v)) S2 := by rw [hS2, kbo_vp hv, ← hcl9]; exact Mr.swapb hI (kbo_up hI.2.2.2.2.2.2 hv)
      have h100 : pF S2 100 (w 0) = 0 := by rw [hS2]; exact (show pF (setF S 100 (w 0) 0) 100 (w 0) = 0 from uF_at)
      have h106 : pF S2 106 (w 0) = nI cn := by rw [hS2]; exact (show pF (setF S 100 (w 0) 0) 106 (w 0) = nI cn from (uF_of (Or.inl (by decide))).trans hc)
      have hm8 : pF S2 102 (w 0) = nI m9 := by rw [hS2]; exact (show pF (setF S 100 (w 0) 0) 102 (w 0) = nI m9 from (uF_of (Or.inl (by decide))).trans hm8_)
      refine lv_iconst (v := 0) hx hb dX6_setBlocked_24 (by decide) ?_
      refine lv_istore (lv' := [(4, .int 0), (3, .int x4), (0, .ref (w 0)), (1, .int n), (2, .int v)]) hx hb dX6_setBlocked_25 hl (by decide) rfl (fun ls hl => ?_)
      have loop : ∀ (fu : Nat) (T0 : wPS) (i c1 : Nat) (xi : Int32) (H : Heap) (locs : List Loc) (ls : Array Slot), va_P (kD g) vwCl (kW g T0) H → va_D (kA (pL S) s.heap.size) (kW g T0) → va_S (kA (pL S) s.heap.size) s.heap H locs → lv_has ls 5 [(4, .int xi), (3, .int x4), (2, .int v), (0, .ref (w 0)), (1, .int n)] → m9 - i < fu → (Mk w S2 T0) → (xi = nI i) → (i ≤ m9) → (pF T0 106 (w 0) = nI c1) → (c1 ≤ cn + i) → W p l e ({ frames := 2, cells := 0, slots := 0, locals := 43 }) s m ([.ref (w 0), .int n, .int v] : List Value).toArray below meth c H locs 0 0 (vx_MQ below (kQ g S s.heap.size (pI (fun r T => kBo r ∧ (∃ c9, c9 ≤ cn + 13 ∧ pF T 106 (w 0) = nI c9) ∧ ((pF T 100 (w 0) = 1 ∧ (n < 0 ∨ 3 < n) ∧ Mr w S T) ∨ (pF T 100 (w 0) = 0 ∧ ∃ j, j < 4 ∧ n = nI j ∧ r = pX S (w 10) j ∧ Mr w (setX S (w 10) (upd (pX S (w 10)) j v)) T))))) (kX g S s.heap.size (fun E => False)) ([.ref (w 0), .int n, .int v] : List Value).toArray s 0 0 (kA (pL S) s.heap.size)) (F0 m 27 ls []) := by
        intro fu
        induction fu with
        | zero => intro T0 i c1 xi H locs ls hP hD hS hl hn hMk hi hin hcc hcl; exact absurd hn (Nat.not_lt_zero _)
        | succ fu ih =>
          intro T0 i c1 xi H locs ls hP hD hS hl hn hMk hi hin hcc hcl
          refine lv_iload hx hb dX6_setBlocked_27 (lv_at hl 0 rfl) ?_
          refine lv_aload_n hx hb dX6_setBlocked_29 rfl (lv_at hl 3 rfl) ?_
          refine rg_Model_orders F hK hP (hMk.1.1.1.1 0 (by decide)) kw_263 dX6_setBlocked_30 ?_
          refine lv_topi (fun x5 ex5 => ?_)
          refine lv_icmp_ge (tgt := 80) hx hb dX6_setBlocked_33 (by decide) (fun c6 => ?_) (fun c6 => ?_)
          · refine lv_iload_n hx hb dX6_setBlocked_80 rfl (lv_at hl 1 rfl) ?_
            exact kEndI F hr (by rw [ex4]; exact kbo_nar (hI.2.2.2.2.2.2 _)) hlk hP hD hS (Nat.le_of_ble_eq_true rfl) (Nat.le_of_ble_eq_true rfl) dX6_setBlocked_81 ⟨_, rfl, ⟨by rw [ex4]; exact hI.2.2.2.2.2.2 _, ⟨c1, by omega, hcc⟩, Or.inr ⟨hMk.2.1.trans h100, j2, hj2, hn2, ex4.trans (congrArg (pX S (w 10)) hcl9), hr2.trans hMk.1⟩⟩⟩
          · have hlt : i < m9 := klm hin (by omega) hi (ex5.trans (hMk.2.2.trans hm8)) c6
            refine lv_iload_n hx hb dX6_setBlocked_36 rfl (lv_at hl 2 rfl) ?_
            refine lv_if_eq (tgt := 80) hx hb dX6_setBlocked_37 (by decide) (fun c7 => ?_) (fun c7 => ?_)
            · refine lv_iload_n hx hb dX6_setBlocked_80 rfl (lv_at hl 1 rfl) ?_
              exact kEndI F hr (by rw [ex4]; exact kbo_nar (hI.2.2.2.2.2.2 _)) hlk hP hD hS (Nat.le_of_ble_eq_true rfl) (Nat.le_of_ble_eq_true rfl) dX6_setBlocked_81 ⟨_, rfl, ⟨by rw [ex4]; exact hI.2.2.2.2.2.2 _, ⟨c1, by omega, hcc⟩, Or.inr ⟨hMk.2.1.trans h100, j2, hj2, hn2, ex4.trans (congrArg (pX S (w 10)) hcl9), hr2.trans hMk.1⟩⟩⟩
            · refine lv_aload_n hx hb dX6_setBlocked_40 rfl (lv_at hl 3 rfl) ?_
              refine rs_Model_state (b := w 8) F hK hP (hMk.1.1.1.1 0 (by decide)) ((hMk.1.1.2.1 8 (by decide) (by decide)).1) kw_74 dX6_setBlocked_41 ?_
              refine lv_iload hx hb dX6_setBlocked_44 (lv_at hl 0 rfl) ?_
              refine rd_I F hK hP (hMk.1.1.1.1 8 (by decide)) (by rw [show pN T0 (w 8) = 12 from (hMk.1.1.2.1 8 (by decide) (by decide)).2, hi]; exact vp_in_nI (by omega) (by decide)) dX6_setBlocked_46 ?_
              refine lv_topi (fun x8 ex8 => ?_)
              refine lv_bipush (v := 112) hx hb dX6_setBlocked_47 (by decide) ?_
              refine lv_icmp_ne (tgt := 74) hx hb dX6_setBlocked_49 (by decide) (fun c9 => ?_) (fun c9 => ?_)
              · obtain ⟨x10, ex10⟩ : ∃ y : Int32, y = xi + 1 := ⟨_, rfl⟩
                refine lv_iinc (v := x10) (lv' := [(4, .int x10), (3, .int x4), (2, .int v), (0, .ref (w 0)), (1, .int n)]) hx hb dX6_setBlocked_74 hl (k := 0) rfl (by rw [ex10]; rfl) (by decide) rfl (fun ls hl => ?_)
                refine lv_goto (tgt := 27) hx hb dX6_setBlocked_77 (by decide) ?_
                exact ih _ (i + 1) c1 x10  H locs ls hP hD hS (lv_sub hl [0, 1, 2, 3, 4] rfl) (by omega) hMk (by rw [ex10, hi]; exact nI_1 i) hlt hcc (by omega)
              · refine lv_aload_n hx hb dX6_setBlocked_52 rfl (lv_at hl 3 rfl) ?_
                refine rs_Model_aisle (b := w 1) F hK hP (hMk.1.1.1.1 0 (by decide)) ((hMk.1.1.2.1 1 (by decide) (by decide)).1) kw_67 dX6_setBlocked_53 ?_
                refine lv_aload_n hx hb dX6_setBlocked_56 rfl (lv_at hl 3 rfl) ?_
                refine rs_Model_item (b := w 5) F hK hP (hMk.1.1.1.1 0 (by decide)) ((hMk.1.1.2.1 5 (by decide) (by decide)).1) kw_71 dX6_setBlocked_57 ?_
                refine lv_iload hx hb dX6_setBlocked_60 (lv_at hl 0 rfl) ?_
                refine rd_I F hK hP (hMk.1.1.1.1 5 (by decide)) (by rw [show pN T0 (w 5) = 12 from (hMk.1.1.2.1 5 (by decide) (by decide)).2, hi]; exact vp_in_nI (by omega) (by decide)) dX6_setBlocked_62 ?_
                refine lv_topi (fun x11 ex11 => ?_)
                obtain ⟨jg12, hjg12, hxg12⟩ : ∃ q, q < 6 ∧ x11 = nI q := by rw [ex11]; exact hMk.1.1.2.2.2.2.1 _
                refine rd_I F hK hP (hMk.1.1.1.1 1 (by decide)) (by rw [show pN T0 (w 1) = 6 from (hMk.1.1.2.1 1 (by decide) (by decide)).2, hxg12]; exact vp_in_nI (by omega) (by decide)) dX6_setBlocked_63 ?_
                refine lv_topi (fun x13 ex13 => ?_)
                refine lv_iload_n hx hb dX6_setBlocked_64 rfl (lv_at hl 4 rfl) ?_
                refine lv_icmp_ne (tgt := 74) hx hb dX6_setBlocked_65 (by decide) (fun c14 => ?_) (fun c14 => ?_)
                · obtain ⟨x15, ex15⟩ : ∃ y : Int32, y = xi + 1 := ⟨_, rfl⟩
                  refine lv_iinc (v := x15) (lv' := [(4, .int x15), (3, .int x4), (2, .int v), (0, .ref (w 0)), (1, .int n)]) hx hb dX6_setBlocked_74 hl (k := 0) rfl (by rw [ex15]; rfl) (by decide) rfl (fun ls hl => ?_)
                  refine lv_goto (tgt := 27) hx hb dX6_setBlocked_77 (by decide) ?_
                  exact ih _ (i + 1) c1 x15  H locs ls hP hD hS (lv_sub hl [0, 1, 2, 3, 4] rfl) (by omega) hMk (by rw [ex15, hi]; exact nI_1 i) hlt hcc (by omega)
                · refine lv_aload_n hx hb dX6_setBlocked_68 rfl (lv_at hl 3 rfl) ?_
                  refine lv_iload hx hb dX6_setBlocked_69 (lv_at hl 0 rfl) ?_
                  refine kcallU (kV (n := 1) (As := [.int xi]) (rest := []) (b := (w 0)) (C := RX6) F hE hK hP hD hS hA (c_X6_opens l hl0 g e0 w T0 _ hMk.1.1 xi i (by omega) hi c1 hcc (by omega)) (rr_Model hK hP (hMk.1.1.1.1 0 (by decide))) kw_339 kw_340 kw_341 kw_5 kw_342 (by decide +kernel) ⟨Nat.le_of_ble_eq_true rfl, Nat.le_of_ble_eq_true rfl⟩ rfl hl.1 rfl (Nat.le_of_ble_eq_true rfl) dX6_setBlocked_71 ⟨Nat.le_of_ble_eq_true rfl, Nat.le_of_ble_eq_true rfl⟩) rfl hD hS hA (fun _ _ _ _ _ h => False.elim h) (fun T16 H locs hp hP hD hS => ?_)
                  obtain ⟨k17, c17_, s17⟩ := hp
                  have K17 : Mk w S2 T16 := hMk.trans k17
                  obtain ⟨x18, ex18⟩ : ∃ y : Int32, y = xi + 1 := ⟨_, rfl⟩
                  refine lv_iinc (v := x18) (lv' := [(4, .int x18), (3, .int x4), (2, .int v), (0, .ref (w 0)), (1, .int n)]) hx hb dX6_setBlocked_74 hl (k := 0) rfl (by rw [ex18]; rfl) (by decide) rfl (fun ls hl => ?_)
                  refine lv_goto (tgt := 27) hx hb dX6_setBlocked_77 (by decide) ?_
                  exact ih _ (i + 1) (c1 + 1) x18  H locs ls hP hD hS (lv_sub hl [0, 1, 2, 3, 4] rfl) (by omega) K17 (by rw [ex18, hi]; exact nI_1 i) hlt c17_ (by omega)
      exact loop 13 _ 0 cn 0  _ _ _ hP hD hS (lv_sub hl [0, 1, 4, 2, 3] rfl) (by omega) (Mk.rf hr2.1) rfl (Nat.zero_le _) h106 (by omega)
    · exact absurd c3 (by decide)
  · subst hT
    subst hr
    have m2 : Mr w S (setF S 100 (w 0) 1) := (Mr.rf hI).thr
    refine lv_if_ne (tgt := 10) hx hb dX6_setBlocked_5 (by decide) (fun c19 => ?_) (fun c19 => ?_)
    · exact absurd c19 (by decide)
    · refine lv_iconst (v := 0) hx hb dX6_setBlocked_8 (by decide) ?_
      exact kEndI F hr rfl hlk hP hD hS (Nat.le_of_ble_eq_true rfl) (Nat.le_of_ble_eq_true rfl) dX6_setBlocked_9 ⟨_, rfl, ⟨Or.inl rfl, ⟨cn, by omega, (show pF (setF S 100 (w 0) 1) 106 (w 0) = nI cn from ((uF_of (Or.inl (by decide))).trans rfl).trans hc)⟩, Or.inl ⟨uF_at, ho2, m2⟩⟩⟩
theorem dX6_shipped_0 : decode cX6_shipped 0 = .ok (.aload_n 0, 1) := by decide +kernel
theorem dX6_shipped_1 : decode cX6_shipped 1 = .ok (.iconst 0, 1) := by decide +kernel
theorem dX6_shipped_2 : decode cX6_shipped 2 = .ok (.putfield 62, 3) := by decide +kernel
theorem dX6_shipped_5 : decode cX6_shipped 5 = .ok (.lconst 0, 1) := by decide +kernel
theorem dX6_shipped_6 : decode cX6_shipped 6 = .ok (.lstore_n 1, 1) := by decide +kernel
theorem dX6_shipped_7 : decode cX6_shipped 7 = .ok (.iconst 0, 1) := by decide +kernel
theorem dX6_shipped_8 : decode cX6_shipped 8 = .ok (.istore_n 3, 1) := by decide +kernel
theorem dX6_shipped_9 : decode cX6_shipped 9 = .ok (.iload_n 3, 1) := by decide +kernel
theorem dX6_shipped_10 : decode cX6_shipped 10 = .ok (.aload_n 0, 1) := by decide +kernel
theorem dX6_shipped_11 : decode cX6_shipped 11 = .ok (.getfield 73, 3) := by decide +kernel
theorem dX6_shipped_14 : decode cX6_shipped 14 = .ok (.if_icmp .ge 34, 3) := by decide +kernel
theorem dX6_shipped_17 : decode cX6_shipped 17 = .ok (.lload_n 1, 1) := by decide +kernel
theorem dX6_shipped_18 : decode cX6_shipped 18 = .ok (.aload_n 0, 1) := by decide +kernel
theorem dX6_shipped_19 : decode cX6_shipped 19 = .ok (.getfield 31, 3) := by decide +kernel
theorem dX6_shipped_22 : decode cX6_shipped 22 = .ok (.iload_n 3, 1) := by decide +kernel
theorem dX6_shipped_23 : decode cX6_shipped 23 = .ok (.iaload, 1) := by decide +kernel
theorem dX6_shipped_24 : decode cX6_shipped 24 = .ok (.bipush 115, 2) := by decide +kernel
theorem dX6_shipped_26 : decode cX6_shipped 26 = .ok (.if_icmp .ne 13, 3) := by decide +kernel
theorem dX6_shipped_29 : decode cX6_shipped 29 = .ok (.aload_n 0, 1) := by decide +kernel
theorem dX6_shipped_30 : decode cX6_shipped 30 = .ok (.getfield 25, 3) := by decide +kernel
theorem dX6_shipped_33 : decode cX6_shipped 33 = .ok (.iload_n 3, 1) := by decide +kernel
theorem dX6_shipped_34 : decode cX6_shipped 34 = .ok (.iaload, 1) := by decide +kernel
theorem dX6_shipped_35 : decode cX6_shipped 35 = .ok (.i2l, 1) := by decide +kernel
theorem dX6_shipped_36 : decode cX6_shipped 36 = .ok (.goto 4, 3) := by decide +kernel
theorem dX6_shipped_39 : decode cX6_shipped 39 = .ok (.lconst 0, 1) := by decide +kernel
theorem dX6_shipped_40 : decode cX6_shipped 40 = .ok (.ladd, 1) := by decide +kernel
theorem dX6_shipped_41 : decode cX6_shipped 41 = .ok (.lstore_n 1, 1) := by decide +kernel
theorem dX6_shipped_42 : decode cX6_shipped 42 = .ok (.iinc 3 1, 3) := by decide +kernel
theorem dX6_shipped_45 : decode cX6_shipped 45 = .ok (.goto (-36), 3) := by decide +kernel
theorem dX6_shipped_48 : decode cX6_shipped 48 = .ok (.lload_n 1, 1) := by decide +kernel
theorem dX6_shipped_49 : decode cX6_shipped 49 = .ok (.lreturn, 1) := by decide +kernel
set_option maxHeartbeats 4000000 in
set_option maxRecDepth 100000 in
theorem c_X6_shipped (l : Launch) (hl0 : l.stackTraces = false) (g : kG) (e0 : Nat) (w : Nat → Nat) (S : wPS) (sz : Nat) (hI : MI w S)  : kM l g e0 yX6_shipped cX6_shipped 4 (some .long) 0 0 0 0 [.ref (w 0)] S sz (pLo (fun r T => Mr w S T ∧ pF T 106 (w 0) = pF S 106 (w 0) ∧ pF T 100 (w 0) = 0 ∧ (pF S 102 (w 0) = 0 → r = 0))) (fun E => False) := by
  refine kM.of (by decide) (Nat.le_of_ble_eq_true rfl) ?_
  intro p e s m below meth c ls B hin
  obtain ⟨F, hr, hlk, hte, hP, hK, hD, hE, hS, hA, hl, hsz⟩ := B
  subst hsz
  have hx := F.1
  have hb := F.2.1
  have hl : lv_has ls 4 [(0, .ref (w 0))] := hl
  obtain ⟨m9, hm9, hm8_⟩ := hI.2.2.1.2
  refine lv_aload_n hx hb dX6_shipped_0 rfl (lv_at hl 0 rfl) ?_
  refine lv_iconst (v := 0) hx hb dX6_shipped_1 (by decide) ?_
  refine rp_Model_thrown F hK hP hD hS (hI.1.1 0 (by decide)) kw_179 dX6_shipped_2 (fun H locs hP hD hS => ?_)
  have m1 : Mr w S (setF S 100 (w 0) 0) := (Mr.rf hI).thr
  obtain ⟨S2, hS2⟩ : ∃ x : wPS, x = setF S 100 (w 0) 0 := ⟨_, rfl⟩
  rw [← hS2] at hP hD
  rw [← hS2] at m1
  have hm8 : pF S2 102 (w 0) = nI m9 := by rw [hS2]; exact (uF_of (Or.inl (by decide))).trans hm8_
  have h100 : pF S2 100 (w 0) = 0 := by rw [hS2]; exact uF_at
  have h106 : pF S2 106 (w 0) = pF S 106 (w 0) := by rw [hS2]; exact uF_of (Or.inl (by decide))
  refine lv_lconst (v := 0) hx hb dX6_shipped_5 (by decide) ?_
  refine lv_lstore_n (lv' := [(1, .long (0 : Int64)), (0, .ref (w 0))]) hx hb dX6_shipped_6 rfl hl (by decide) rfl (fun ls hl => ?_)
  refine lv_iconst (v := 0) hx hb dX6_shipped_7 (by decide) ?_
  refine lv_istore_n (lv' := [(3, .int 0), (1, .long (0 : Int64)), (0, .ref (w 0))]) hx hb dX6_shipped_8 rfl hl (by decide) rfl (fun ls hl => ?_)
  have loop : ∀ (fu : Nat) (i : Nat) (xi : Int32) (sm : Int64) (H : Heap) (locs : List Loc) (ls : Array Slot), va_P (kD g) vwCl (kW g S2) H → va_D (kA (pL S) s.heap.size) (kW g S2) → va_S (kA (pL S) s.heap.size) s.heap H locs → lv_has ls 4 [(3, .int xi), (1, .long sm), (0, .ref (w 0))] → m9 - i < fu → (xi = nI i) → (i ≤ m9) → (i = 0 → sm = 0) → W p l e ({ frames := 0, cells := 0, slots := 0, locals := 0 }) s m ([.ref (w 0)] : List Value).toArray below meth c H locs 0 0 (vx_MQ below (kQ g S s.heap.size (pLo (fun r T => Mr w S T ∧ pF T 106 (w 0) = pF S 106 (w 0) ∧ pF T 100 (w 0) = 0 ∧ (pF S 102 (w 0) = 0 → r = 0)))) (kX g S s.heap.size (fun E => False)) ([.ref (w 0)] : List Value).toArray s 0 0 (kA (pL S) s.heap.size)) (F0 m 9 ls []) := by
    intro fu
    induction fu with
    | zero => intro i xi sm H locs ls hP hD hS hl hn hi hin hz; exact absurd hn (Nat.not_lt_zero _)
    | succ fu ih =>
      intro i xi sm H locs ls hP hD hS hl hn hi hin hz
      refine lv_iload_n hx hb dX6_shipped_9 rfl (lv_at hl 0 rfl) ?_
      refine lv_aload_n hx hb dX6_shipped_10 rfl (lv_at hl 2 rfl) ?_
      refine rg_Model_orders F hK hP (m1.1.1.1 0 (by decide)) kw_263 dX6_shipped_11 ?_
      refine lv_topi (fun x2 ex2 => ?_)
      refine lv_icmp_ge (tgt := 48) hx hb dX6_shipped_14 (by decide) (fun c3 => ?_) (fun c3 => ?_)
      · refine lv_lload_n hx hb dX6_shipped_48 rfl (lv_at hl 1 rfl) ?_
        exact kEndL F hr hlk hP hD hS (Nat.le_of_ble_eq_true rfl) (Nat.le_of_ble_eq_true rfl) dX6_shipped_49 ⟨_, rfl, ⟨m1, h106, h100, (fun h => hz (by have h9 : nI m9 = nI 0 := hm8_.symm.trans h; have := (nI_eq (by omega) (by decide)).mp h9; omega))⟩⟩
      · have hlt : i < m9 := klm hin (by omega) hi (ex2.trans hm8) c3
        refine lv_lload_n hx hb dX6_shipped_17 rfl (lv_at hl 1 rfl) ?_
        refine lv_aload_n hx hb dX6_shipped_18 rfl (lv_at hl 2 rfl) ?_
        refine rs_Model_state (b := w 8) F hK hP (m1.1.1.1 0 (by decide)) ((m1.1.2.1 8 (by decide) (by decide)).1) kw_74 dX6_shipped_19 ?_
        refine lv_iload_n hx hb dX6_shipped_22 rfl (lv_at hl 0 rfl) ?_
        refine rd_I F hK hP (m1.1.1.1 8 (by decide)) (by rw [show pN S2 (w 8) = 12 from (m1.1.2.1 8 (by decide) (by decide)).2, hi]; exact vp_in_nI (by omega) (by decide)) dX6_shipped_23 ?_
        refine lv_topi (fun x4 ex4 => ?_)
        refine lv_bipush (v := 115) hx hb dX6_shipped_24 (by decide) ?_
        refine lv_icmp_ne (tgt := 39) hx hb dX6_shipped_26 (by decide) (fun c5 => ?_) (fun c5 => ?_)
        · refine lv_lconst (v := 0) hx hb dX6_shipped_39 (by decide) ?_
          refine lv_ladd hx hb dX6_shipped_40 ?_
          refine lv_topl (fun x6 ex6 => ?_)
          refine lv_lstore_n (lv' := [(1, .long x6), (3, .int xi), (0, .ref (w 0))]) hx hb dX6_shipped_41 rfl hl (by decide) rfl (fun ls hl => ?_)
          obtain ⟨x7, ex7⟩ : ∃ y : Int32, y = xi + 1 := ⟨_, rfl⟩
          refine lv_iinc (v := x7) (lv' := [(3, .int x7), (1, .long x6), (0, .ref (w 0))]) hx hb dX6_shipped_42 hl (k := 1) rfl (by rw [ex7]; rfl) (by decide) rfl (fun ls hl => ?_)
          refine lv_goto (tgt := 9) hx hb dX6_shipped_45 (by decide) ?_
          exact ih (i + 1) x7 x6 H locs ls hP hD hS (lv_sub hl [0, 1, 2] rfl) (by omega) (by rw [ex7, hi]; exact nI_1 i) hlt (fun h => absurd h (by omega))
        · refine lv_aload_n hx hb dX6_shipped_29 rfl (lv_at hl 2 rfl) ?_
          refine rs_Model_amount (b := w 6) F hK hP (m1.1.1.1 0 (by decide)) ((m1.1.2.1 6 (by decide) (by decide)).1) kw_72 dX6_shipped_30 ?_
          refine lv_iload_n hx hb dX6_shipped_33 rfl (lv_at hl 0 rfl) ?_
          refine rd_I F hK hP (m1.1.1.1 6 (by decide)) (by rw [show pN S2 (w 6) = 12 from (m1.1.2.1 6 (by decide) (by decide)).2, hi]; exact vp_in_nI (by omega) (by decide)) dX6_shipped_34 ?_
          refine lv_topi (fun x8 ex8 => ?_)
          refine lv_i2l (v := x8.toInt64) hx hb dX6_shipped_35 rfl ?_
          refine lv_goto (tgt := 40) hx hb dX6_shipped_36 (by decide) ?_
          refine lv_ladd hx hb dX6_shipped_40 ?_
          refine lv_topl (fun x9 ex9 => ?_)
          refine lv_lstore_n (lv' := [(1, .long x9), (3, .int xi), (0, .ref (w 0))]) hx hb dX6_shipped_41 rfl hl (by decide) rfl (fun ls hl => ?_)
          obtain ⟨x10, ex10⟩ : ∃ y : Int32, y = xi + 1 := ⟨_, rfl⟩
          refine lv_iinc (v := x10) (lv' := [(3, .int x10), (1, .long x9), (0, .ref (w 0))]) hx hb dX6_shipped_42 hl (k := 1) rfl (by rw [ex10]; rfl) (by decide) rfl (fun ls hl => ?_)
          refine lv_goto (tgt := 9) hx hb dX6_shipped_45 (by decide) ?_
          exact ih (i + 1) x10 x9 H locs ls hP hD hS (lv_sub hl [0, 1, 2] rfl) (by omega) (by rw [ex10, hi]; exact nI_1 i) hlt (fun h => absurd h (by omega))
  exact loop 13 0 0 0 _ _ _ hP hD hS (lv_sub hl [0, 1, 2] rfl) (by omega) rfl (Nat.zero_le _) (fun _ => rfl)
