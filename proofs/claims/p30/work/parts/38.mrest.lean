theorem dX6_shippedShare_0 : decode cX6_shippedShare 0 = .ok (.aload_n 0, 1) := by decide +kernel
theorem dX6_shippedShare_1 : decode cX6_shippedShare 1 = .ok (.aload_n 0, 1) := by decide +kernel
theorem dX6_shippedShare_2 : decode cX6_shippedShare 2 = .ok (.getfield 73, 3) := by decide +kernel
theorem dX6_shippedShare_5 : decode cX6_shippedShare 5 = .ok (.ifCond .ne 7, 3) := by decide +kernel
theorem dX6_shippedShare_8 : decode cX6_shippedShare 8 = .ok (.iconst 1, 1) := by decide +kernel
theorem dX6_shippedShare_9 : decode cX6_shippedShare 9 = .ok (.goto 4, 3) := by decide +kernel
theorem dX6_shippedShare_12 : decode cX6_shippedShare 12 = .ok (.iconst 0, 1) := by decide +kernel
theorem dX6_shippedShare_13 : decode cX6_shippedShare 13 = .ok (.putfield 62, 3) := by decide +kernel
theorem dX6_shippedShare_16 : decode cX6_shippedShare 16 = .ok (.iconst 0, 1) := by decide +kernel
theorem dX6_shippedShare_17 : decode cX6_shippedShare 17 = .ok (.istore_n 1, 1) := by decide +kernel
theorem dX6_shippedShare_18 : decode cX6_shippedShare 18 = .ok (.iconst 0, 1) := by decide +kernel
theorem dX6_shippedShare_19 : decode cX6_shippedShare 19 = .ok (.istore_n 2, 1) := by decide +kernel
theorem dX6_shippedShare_20 : decode cX6_shippedShare 20 = .ok (.iload_n 2, 1) := by decide +kernel
theorem dX6_shippedShare_21 : decode cX6_shippedShare 21 = .ok (.aload_n 0, 1) := by decide +kernel
theorem dX6_shippedShare_22 : decode cX6_shippedShare 22 = .ok (.getfield 73, 3) := by decide +kernel
theorem dX6_shippedShare_25 : decode cX6_shippedShare 25 = .ok (.if_icmp .ge 28, 3) := by decide +kernel
theorem dX6_shippedShare_28 : decode cX6_shippedShare 28 = .ok (.iload_n 1, 1) := by decide +kernel
theorem dX6_shippedShare_29 : decode cX6_shippedShare 29 = .ok (.aload_n 0, 1) := by decide +kernel
theorem dX6_shippedShare_30 : decode cX6_shippedShare 30 = .ok (.getfield 31, 3) := by decide +kernel
theorem dX6_shippedShare_33 : decode cX6_shippedShare 33 = .ok (.iload_n 2, 1) := by decide +kernel
theorem dX6_shippedShare_34 : decode cX6_shippedShare 34 = .ok (.iaload, 1) := by decide +kernel
theorem dX6_shippedShare_35 : decode cX6_shippedShare 35 = .ok (.bipush 115, 2) := by decide +kernel
theorem dX6_shippedShare_37 : decode cX6_shippedShare 37 = .ok (.if_icmp .ne 7, 3) := by decide +kernel
theorem dX6_shippedShare_40 : decode cX6_shippedShare 40 = .ok (.iconst 1, 1) := by decide +kernel
theorem dX6_shippedShare_41 : decode cX6_shippedShare 41 = .ok (.goto 4, 3) := by decide +kernel
theorem dX6_shippedShare_44 : decode cX6_shippedShare 44 = .ok (.iconst 0, 1) := by decide +kernel
theorem dX6_shippedShare_45 : decode cX6_shippedShare 45 = .ok (.iadd, 1) := by decide +kernel
theorem dX6_shippedShare_46 : decode cX6_shippedShare 46 = .ok (.istore_n 1, 1) := by decide +kernel
theorem dX6_shippedShare_47 : decode cX6_shippedShare 47 = .ok (.iinc 2 1, 3) := by decide +kernel
theorem dX6_shippedShare_50 : decode cX6_shippedShare 50 = .ok (.goto (-30), 3) := by decide +kernel
theorem dX6_shippedShare_53 : decode cX6_shippedShare 53 = .ok (.aload_n 0, 1) := by decide +kernel
theorem dX6_shippedShare_54 : decode cX6_shippedShare 54 = .ok (.getfield 73, 3) := by decide +kernel
theorem dX6_shippedShare_57 : decode cX6_shippedShare 57 = .ok (.ifCond .ne 7, 3) := by decide +kernel
theorem dX6_shippedShare_60 : decode cX6_shippedShare 60 = .ok (.fconst 0, 1) := by decide +kernel
theorem dX6_shippedShare_61 : decode cX6_shippedShare 61 = .ok (.goto 11, 3) := by decide +kernel
theorem dX6_shippedShare_64 : decode cX6_shippedShare 64 = .ok (.iload_n 1, 1) := by decide +kernel
theorem dX6_shippedShare_65 : decode cX6_shippedShare 65 = .ok (.i2f, 1) := by decide +kernel
theorem dX6_shippedShare_66 : decode cX6_shippedShare 66 = .ok (.aload_n 0, 1) := by decide +kernel
theorem dX6_shippedShare_67 : decode cX6_shippedShare 67 = .ok (.getfield 73, 3) := by decide +kernel
theorem dX6_shippedShare_70 : decode cX6_shippedShare 70 = .ok (.i2f, 1) := by decide +kernel
theorem dX6_shippedShare_71 : decode cX6_shippedShare 71 = .ok (.fdiv, 1) := by decide +kernel
theorem dX6_shippedShare_72 : decode cX6_shippedShare 72 = .ok (.freturn, 1) := by decide +kernel
set_option maxHeartbeats 4000000 in
set_option maxRecDepth 100000 in
theorem c_X6_shippedShare (l : Launch) (hl0 : l.stackTraces = false) (g : kG) (e0 : Nat) (w : Nat → Nat) (S : wPS) (sz : Nat) (hI : MI w S)  : kM l g e0 yX6_shippedShare cX6_shippedShare 3 (some .float) 0 0 0 0 [.ref (w 0)] S sz (pFl (fun r T => pF T 106 (w 0) = pF S 106 (w 0) ∧ Mr w S T ∧ ((pF S 102 (w 0) = 0 ∧ pF T 100 (w 0) = 1) ∨ (¬ pF S 102 (w 0) = 0 ∧ pF T 100 (w 0) = 0)))) (fun E => False) := by
  refine kM.of (by decide) (Nat.le_of_ble_eq_true rfl) ?_
  intro p e s m below meth c ls B hin
  obtain ⟨F, hr, hlk, hte, hP, hK, hD, hE, hS, hA, hl, hsz⟩ := B
  subst hsz
  have hx := F.1
  have hb := F.2.1
  have hl : lv_has ls 3 [(0, .ref (w 0))] := hl
  obtain ⟨m9, hm9, hm8_⟩ := hI.2.2.1.2
  refine lv_aload_n hx hb dX6_shippedShare_0 rfl (lv_at hl 0 rfl) ?_
  refine lv_aload_n hx hb dX6_shippedShare_1 rfl (lv_at hl 0 rfl) ?_
  refine rg_Model_orders F hK hP (hI.1.1 0 (by decide)) kw_263 dX6_shippedShare_2 ?_
  refine lv_topi (fun x1 ex1 => ?_)
  refine lv_if_ne (tgt := 12) hx hb dX6_shippedShare_5 (by decide) (fun c2 => ?_) (fun c2 => ?_)
  · refine lv_iconst (v := 0) hx hb dX6_shippedShare_12 (by decide) ?_
    have hor : ¬ pF S 102 (w 0) = 0 := by rw [← ex1]; exact c2
    refine rp_Model_thrown F hK hP hD hS (hI.1.1 0 (by decide)) kw_179 dX6_shippedShare_13 (fun H locs hP hD hS => ?_)
    have m3 : Mr w S (setF S 100 (w 0) 0) := (Mr.rf hI).thr
    have hm8 : pF (setF S 100 (w 0) 0) 102 (w 0) = nI m9 := (uF_of (Or.inl (by decide))).trans hm8_
    refine lv_iconst (v := 0) hx hb dX6_shippedShare_16 (by decide) ?_
    refine lv_istore_n (lv' := [(1, .int 0), (0, .ref (w 0))]) hx hb dX6_shippedShare_17 rfl hl (by decide) rfl (fun ls hl => ?_)
    refine lv_iconst (v := 0) hx hb dX6_shippedShare_18 (by decide) ?_
    refine lv_istore_n (lv' := [(2, .int 0), (1, .int 0), (0, .ref (w 0))]) hx hb dX6_shippedShare_19 rfl hl (by decide) rfl (fun ls hl => ?_)
    have loop : ∀ (fu : Nat) (i : Nat) (xi sm : Int32) (H : Heap) (locs : List Loc) (ls : Array Slot), va_P (kD g) vwCl (kW g (setF S 100 (w 0) 0)) H → va_D (kA (pL S) s.heap.size) (kW g (setF S 100 (w 0) 0)) → va_S (kA (pL S) s.heap.size) s.heap H locs → lv_has ls 3 [(2, .int xi), (1, .int sm), (0, .ref (w 0))] → m9 - i < fu → (xi = nI i) → (i ≤ m9) → (∃ k, k ≤ i ∧ sm = nI k) → W p l e ({ frames := 0, cells := 0, slots := 0, locals := 0 }) s m ([.ref (w 0)] : List Value).toArray below meth c H locs 0 0 (vx_MQ below (kQ g S s.heap.size (pFl (fun r T => pF T 106 (w 0) = pF S 106 (w 0) ∧ Mr w S T ∧ ((pF S 102 (w 0) = 0 ∧ pF T 100 (w 0) = 1) ∨ (¬ pF S 102 (w 0) = 0 ∧ pF T 100 (w 0) = 0))))) (kX g S s.heap.size (fun E => False)) ([.ref (w 0)] : List Value).toArray s 0 0 (kA (pL S) s.heap.size)) (F0 m 20 ls []) := by
      intro fu
      induction fu with
      | zero => intro i xi sm H locs ls hP hD hS hl hn hi hin hk; exact absurd hn (Nat.not_lt_zero _)
      | succ fu ih =>
        intro i xi sm H locs ls hP hD hS hl hn hi hin hk
        refine lv_iload_n hx hb dX6_shippedShare_20 rfl (lv_at hl 0 rfl) ?_
        refine lv_aload_n hx hb dX6_shippedShare_21 rfl (lv_at hl 2 rfl) ?_
        refine rg_Model_orders F hK hP (m3.1.1.1 0 (by decide)) kw_263 dX6_shippedShare_22 ?_
        refine lv_topi (fun x4 ex4 => ?_)
        refine lv_icmp_ge (tgt := 53) hx hb dX6_shippedShare_25 (by decide) (fun c5 => ?_) (fun c5 => ?_)
        · refine lv_aload_n hx hb dX6_shippedShare_53 rfl (lv_at hl 2 rfl) ?_
          refine rg_Model_orders F hK hP (m3.1.1.1 0 (by decide)) kw_263 dX6_shippedShare_54 ?_
          refine lv_topi (fun x6 ex6 => ?_)
          refine lv_if_ne (tgt := 64) hx hb dX6_shippedShare_57 (by decide) (fun c7 => ?_) (fun c7 => ?_)
          · have hn0 : ¬ pF S 102 (w 0) = 0 := fun h => c7 (ex6.trans ((uF_of (Or.inl (by decide))).trans h))
            have hm1 : 1 ≤ m9 := by rcases Nat.eq_zero_or_pos m9 with q | q; exact absurd (by rw [hm8_, q]; rfl) hn0; exact q
            refine lv_iload_n hx hb dX6_shippedShare_64 rfl (lv_at hl 1 rfl) ?_
            refine lv_i2f hx hb dX6_shippedShare_65 ?_
            refine lv_aload_n hx hb dX6_shippedShare_66 rfl (lv_at hl 2 rfl) ?_
            refine rg_Model_orders F hK hP (m3.1.1.1 0 (by decide)) kw_263 dX6_shippedShare_67 ?_
            refine lv_topi (fun x8 ex8 => ?_)
            refine lv_i2f hx hb dX6_shippedShare_70 ?_
            refine lv_fdiv hx hb dX6_shippedShare_71 (by obtain ⟨k, hk1, hk2⟩ := hk; rw [hk2, show x8 = nI m9 from ex8.trans hm8]; exact (kshare (Nat.le_trans hk1 hin) hm9 hm1).1) ?_
            exact kEndF F hr hlk hP hD hS (Nat.le_of_ble_eq_true rfl) (Nat.le_of_ble_eq_true rfl) dX6_shippedShare_72 ⟨_, rfl, ⟨((uF_of (Or.inl (by decide))).trans rfl), m3, Or.inr ⟨hor, uF_at⟩⟩⟩
          · refine lv_fconst0 hx hb dX6_shippedShare_60 ?_
            refine lv_goto (tgt := 72) hx hb dX6_shippedShare_61 (by decide) ?_
            exact kEndF F hr hlk hP hD hS (Nat.le_of_ble_eq_true rfl) (Nat.le_of_ble_eq_true rfl) dX6_shippedShare_72 ⟨_, rfl, ⟨((uF_of (Or.inl (by decide))).trans rfl), m3, Or.inr ⟨hor, uF_at⟩⟩⟩
        · have hlt : i < m9 := klm hin (by omega) hi (ex4.trans hm8) c5
          refine lv_iload_n hx hb dX6_shippedShare_28 rfl (lv_at hl 1 rfl) ?_
          refine lv_aload_n hx hb dX6_shippedShare_29 rfl (lv_at hl 2 rfl) ?_
          refine rs_Model_state (b := w 8) F hK hP (m3.1.1.1 0 (by decide)) ((m3.1.2.1 8 (by decide) (by decide)).1) kw_74 dX6_shippedShare_30 ?_
          refine lv_iload_n hx hb dX6_shippedShare_33 rfl (lv_at hl 0 rfl) ?_
          refine rd_I F hK hP (m3.1.1.1 8 (by decide)) (by rw [show pN (setF S 100 (w 0) 0) (w 8) = 12 from (m3.1.2.1 8 (by decide) (by decide)).2, hi]; exact vp_in_nI (by omega) (by decide)) dX6_shippedShare_34 ?_
          refine lv_topi (fun x9 ex9 => ?_)
          refine lv_bipush (v := 115) hx hb dX6_shippedShare_35 (by decide) ?_
          refine lv_icmp_ne (tgt := 44) hx hb dX6_shippedShare_37 (by decide) (fun c10 => ?_) (fun c10 => ?_)
          · refine lv_iconst (v := 0) hx hb dX6_shippedShare_44 (by decide) ?_
            refine lv_iadd hx hb dX6_shippedShare_45 ?_
            refine lv_topi (fun x11 ex11 => ?_)
            refine lv_istore_n (lv' := [(1, .int x11), (2, .int xi), (0, .ref (w 0))]) hx hb dX6_shippedShare_46 rfl hl (by decide) rfl (fun ls hl => ?_)
            obtain ⟨x12, ex12⟩ : ∃ y : Int32, y = xi + 1 := ⟨_, rfl⟩
            refine lv_iinc (v := x12) (lv' := [(2, .int x12), (1, .int x11), (0, .ref (w 0))]) hx hb dX6_shippedShare_47 hl (k := 1) rfl (by rw [ex12]; rfl) (by decide) rfl (fun ls hl => ?_)
            refine lv_goto (tgt := 20) hx hb dX6_shippedShare_50 (by decide) ?_
            exact ih (i + 1) x12 x11 H locs ls hP hD hS (lv_sub hl [0, 1, 2] rfl) (by omega) (by rw [ex12, hi]; exact nI_1 i) hlt (hk.elim fun k h => ⟨k, Nat.le_succ_of_le h.1, by rw [ex11, h.2]; exact Int32.add_zero _⟩)
          · refine lv_iconst (v := 1) hx hb dX6_shippedShare_40 (by decide) ?_
            refine lv_goto (tgt := 45) hx hb dX6_shippedShare_41 (by decide) ?_
            refine lv_iadd hx hb dX6_shippedShare_45 ?_
            refine lv_topi (fun x13 ex13 => ?_)
            refine lv_istore_n (lv' := [(1, .int x13), (2, .int xi), (0, .ref (w 0))]) hx hb dX6_shippedShare_46 rfl hl (by decide) rfl (fun ls hl => ?_)
            obtain ⟨x14, ex14⟩ : ∃ y : Int32, y = xi + 1 := ⟨_, rfl⟩
            refine lv_iinc (v := x14) (lv' := [(2, .int x14), (1, .int x13), (0, .ref (w 0))]) hx hb dX6_shippedShare_47 hl (k := 1) rfl (by rw [ex14]; rfl) (by decide) rfl (fun ls hl => ?_)
            refine lv_goto (tgt := 20) hx hb dX6_shippedShare_50 (by decide) ?_
            exact ih (i + 1) x14 x13 H locs ls hP hD hS (lv_sub hl [0, 1, 2] rfl) (by omega) (by rw [ex14, hi]; exact nI_1 i) hlt (hk.elim fun k h => ⟨k + 1, Nat.succ_le_succ h.1, by rw [ex13, h.2]; exact nI_1 k⟩)
    exact loop 13 0 0 0 _ _ _ hP hD hS (lv_sub hl [0, 1, 2] rfl) (by omega) rfl (Nat.zero_le _) ⟨0, Nat.le_refl _, rfl⟩
  · refine lv_iconst (v := 1) hx hb dX6_shippedShare_8 (by decide) ?_
    refine lv_goto (tgt := 13) hx hb dX6_shippedShare_9 (by decide) ?_
    have hor : pF S 102 (w 0) = 0 := by rw [← ex1]; exact c2
    refine rp_Model_thrown F hK hP hD hS (hI.1.1 0 (by decide)) kw_179 dX6_shippedShare_13 (fun H locs hP hD hS => ?_)
    have m15 : Mr w S (setF S 100 (w 0) 1) := (Mr.rf hI).thr
    have hm8 : pF (setF S 100 (w 0) 1) 102 (w 0) = nI m9 := (uF_of (Or.inl (by decide))).trans hm8_
    refine lv_iconst (v := 0) hx hb dX6_shippedShare_16 (by decide) ?_
    refine lv_istore_n (lv' := [(1, .int 0), (0, .ref (w 0))]) hx hb dX6_shippedShare_17 rfl hl (by decide) rfl (fun ls hl => ?_)
    refine lv_iconst (v := 0) hx hb dX6_shippedShare_18 (by decide) ?_
    refine lv_istore_n (lv' := [(2, .int 0), (1, .int 0), (0, .ref (w 0))]) hx hb dX6_shippedShare_19 rfl hl (by decide) rfl (fun ls hl => ?_)
    have loop : ∀ (fu : Nat) (i : Nat) (xi sm : Int32) (H : Heap) (locs : List Loc) (ls : Array Slot), va_P (kD g) vwCl (kW g (setF S 100 (w 0) 1)) H → va_D (kA (pL S) s.heap.size) (kW g (setF S 100 (w 0) 1)) → va_S (kA (pL S) s.heap.size) s.heap H locs → lv_has ls 3 [(2, .int xi), (1, .int sm), (0, .ref (w 0))] → m9 - i < fu → (xi = nI i) → (i ≤ m9) → (∃ k, k ≤ i ∧ sm = nI k) → W p l e ({ frames := 0, cells := 0, slots := 0, locals := 0 }) s m ([.ref (w 0)] : List Value).toArray below meth c H locs 0 0 (vx_MQ below (kQ g S s.heap.size (pFl (fun r T => pF T 106 (w 0) = pF S 106 (w 0) ∧ Mr w S T ∧ ((pF S 102 (w 0) = 0 ∧ pF T 100 (w 0) = 1) ∨ (¬ pF S 102 (w 0) = 0 ∧ pF T 100 (w 0) = 0))))) (kX g S s.heap.size (fun E => False)) ([.ref (w 0)] : List Value).toArray s 0 0 (kA (pL S) s.heap.size)) (F0 m 20 ls []) := by
      intro fu
      induction fu with
      | zero => intro i xi sm H locs ls hP hD hS hl hn hi hin hk; exact absurd hn (Nat.not_lt_zero _)
      | succ fu ih =>
        intro i xi sm H locs ls hP hD hS hl hn hi hin hk
        refine lv_iload_n hx hb dX6_shippedShare_20 rfl (lv_at hl 0 rfl) ?_
        refine lv_aload_n hx hb dX6_shippedShare_21 rfl (lv_at hl 2 rfl) ?_
        refine rg_Model_orders F hK hP (m15.1.1.1 0 (by decide)) kw_263 dX6_shippedShare_22 ?_
        refine lv_topi (fun x16 ex16 => ?_)
        refine lv_icmp_ge (tgt := 53) hx hb dX6_shippedShare_25 (by decide) (fun c17 => ?_) (fun c17 => ?_)
        · refine lv_aload_n hx hb dX6_shippedShare_53 rfl (lv_at hl 2 rfl) ?_
          refine rg_Model_orders F hK hP (m15.1.1.1 0 (by decide)) kw_263 dX6_shippedShare_54 ?_
          refine lv_topi (fun x18 ex18 => ?_)
          refine lv_if_ne (tgt := 64) hx hb dX6_shippedShare_57 (by decide) (fun c19 => ?_) (fun c19 => ?_)
          · have hn0 : ¬ pF S 102 (w 0) = 0 := fun h => c19 (ex18.trans ((uF_of (Or.inl (by decide))).trans h))
            have hm1 : 1 ≤ m9 := by rcases Nat.eq_zero_or_pos m9 with q | q; exact absurd (by rw [hm8_, q]; rfl) hn0; exact q
            refine lv_iload_n hx hb dX6_shippedShare_64 rfl (lv_at hl 1 rfl) ?_
            refine lv_i2f hx hb dX6_shippedShare_65 ?_
            refine lv_aload_n hx hb dX6_shippedShare_66 rfl (lv_at hl 2 rfl) ?_
            refine rg_Model_orders F hK hP (m15.1.1.1 0 (by decide)) kw_263 dX6_shippedShare_67 ?_
            refine lv_topi (fun x20 ex20 => ?_)
            refine lv_i2f hx hb dX6_shippedShare_70 ?_
            refine lv_fdiv hx hb dX6_shippedShare_71 (by obtain ⟨k, hk1, hk2⟩ := hk; rw [hk2, show x20 = nI m9 from ex20.trans hm8]; exact (kshare (Nat.le_trans hk1 hin) hm9 hm1).1) ?_
            exact kEndF F hr hlk hP hD hS (Nat.le_of_ble_eq_true rfl) (Nat.le_of_ble_eq_true rfl) dX6_shippedShare_72 ⟨_, rfl, ⟨((uF_of (Or.inl (by decide))).trans rfl), m15, Or.inl ⟨hor, uF_at⟩⟩⟩
          · refine lv_fconst0 hx hb dX6_shippedShare_60 ?_
            refine lv_goto (tgt := 72) hx hb dX6_shippedShare_61 (by decide) ?_
            exact kEndF F hr hlk hP hD hS (Nat.le_of_ble_eq_true rfl) (Nat.le_of_ble_eq_true rfl) dX6_shippedShare_72 ⟨_, rfl, ⟨((uF_of (Or.inl (by decide))).trans rfl), m15, Or.inl ⟨hor, uF_at⟩⟩⟩
        · have hlt : i < m9 := klm hin (by omega) hi (ex16.trans hm8) c17
          refine lv_iload_n hx hb dX6_shippedShare_28 rfl (lv_at hl 1 rfl) ?_
          refine lv_aload_n hx hb dX6_shippedShare_29 rfl (lv_at hl 2 rfl) ?_
          refine rs_Model_state (b := w 8) F hK hP (m15.1.1.1 0 (by decide)) ((m15.1.2.1 8 (by decide) (by decide)).1) kw_74 dX6_shippedShare_30 ?_
          refine lv_iload_n hx hb dX6_shippedShare_33 rfl (lv_at hl 0 rfl) ?_
          refine rd_I F hK hP (m15.1.1.1 8 (by decide)) (by rw [show pN (setF S 100 (w 0) 1) (w 8) = 12 from (m15.1.2.1 8 (by decide) (by decide)).2, hi]; exact vp_in_nI (by omega) (by decide)) dX6_shippedShare_34 ?_
          refine lv_topi (fun x21 ex21 => ?_)
          refine lv_bipush (v := 115) hx hb dX6_shippedShare_35 (by decide) ?_
          refine lv_icmp_ne (tgt := 44) hx hb dX6_shippedShare_37 (by decide) (fun c22 => ?_) (fun c22 => ?_)
          · refine lv_iconst (v := 0) hx hb dX6_shippedShare_44 (by decide) ?_
            refine lv_iadd hx hb dX6_shippedShare_45 ?_
            refine lv_topi (fun x23 ex23 => ?_)
            refine lv_istore_n (lv' := [(1, .int x23), (2, .int xi), (0, .ref (w 0))]) hx hb dX6_shippedShare_46 rfl hl (by decide) rfl (fun ls hl => ?_)
            obtain ⟨x24, ex24⟩ : ∃ y : Int32, y = xi + 1 := ⟨_, rfl⟩
            refine lv_iinc (v := x24) (lv' := [(2, .int x24), (1, .int x23), (0, .ref (w 0))]) hx hb dX6_shippedShare_47 hl (k := 1) rfl (by rw [ex24]; rfl) (by decide) rfl (fun ls hl => ?_)
            refine lv_goto (tgt := 20) hx hb dX6_shippedShare_50 (by decide) ?_
            exact ih (i + 1) x24 x23 H locs ls hP hD hS (lv_sub hl [0, 1, 2] rfl) (by omega) (by rw [ex24, hi]; exact nI_1 i) hlt (hk.elim fun k h => ⟨k, Nat.le_succ_of_le h.1, by rw [ex23, h.2]; exact Int32.add_zero _⟩)
          · refine lv_iconst (v := 1) hx hb dX6_shippedShare_40 (by decide) ?_
            refine lv_goto (tgt := 45) hx hb dX6_shippedShare_41 (by decide) ?_
            refine lv_iadd hx hb dX6_shippedShare_45 ?_
            refine lv_topi (fun x25 ex25 => ?_)
            refine lv_istore_n (lv' := [(1, .int x25), (2, .int xi), (0, .ref (w 0))]) hx hb dX6_shippedShare_46 rfl hl (by decide) rfl (fun ls hl => ?_)
            obtain ⟨x26, ex26⟩ : ∃ y : Int32, y = xi + 1 := ⟨_, rfl⟩
            refine lv_iinc (v := x26) (lv' := [(2, .int x26), (1, .int x25), (0, .ref (w 0))]) hx hb dX6_shippedShare_47 hl (k := 1) rfl (by rw [ex26]; rfl) (by decide) rfl (fun ls hl => ?_)
            refine lv_goto (tgt := 20) hx hb dX6_shippedShare_50 (by decide) ?_
            exact ih (i + 1) x26 x25 H locs ls hP hD hS (lv_sub hl [0, 1, 2] rfl) (by omega) (by rw [ex26, hi]; exact nI_1 i) hlt (hk.elim fun k h => ⟨k + 1, Nat.succ_le_succ h.1, by rw [ex25, h.2]; exact nI_1 k⟩)
    exact loop 13 0 0 0 _ _ _ hP hD hS (lv_sub hl [0, 1, 2] rfl) (by omega) rfl (Nat.zero_le _) ⟨0, Nat.le_refl _, rfl⟩
theorem dX6_send_0 : decode cX6_send 0 = .ok (.aload_n 0, 1) := by decide +kernel
theorem dX6_send_1 : decode cX6_send 1 = .ok (.iload_n 1, 1) := by decide +kernel
theorem dX6_send_2 : decode cX6_send 2 = .ok (.invokevirtual 133, 3) := by decide +kernel
theorem dX6_send_5 : decode cX6_send 5 = .ok (.ifCond .eq 11, 3) := by decide +kernel
theorem dX6_send_8 : decode cX6_send 8 = .ok (.aload_n 0, 1) := by decide +kernel
theorem dX6_send_9 : decode cX6_send 9 = .ok (.iload_n 2, 1) := by decide +kernel
theorem dX6_send_10 : decode cX6_send 10 = .ok (.invokevirtual 90, 3) := by decide +kernel
theorem dX6_send_13 : decode cX6_send 13 = .ok (.ifCond .ne 5, 3) := by decide +kernel
theorem dX6_send_16 : decode cX6_send 16 = .ok (.iconst 0, 1) := by decide +kernel
theorem dX6_send_17 : decode cX6_send 17 = .ok (.ireturn, 1) := by decide +kernel
theorem dX6_send_18 : decode cX6_send 18 = .ok (.aload_n 0, 1) := by decide +kernel
theorem dX6_send_19 : decode cX6_send 19 = .ok (.getfield 7, 3) := by decide +kernel
theorem dX6_send_22 : decode cX6_send 22 = .ok (.iload_n 2, 1) := by decide +kernel
theorem dX6_send_23 : decode cX6_send 23 = .ok (.iaload, 1) := by decide +kernel
theorem dX6_send_24 : decode cX6_send 24 = .ok (.istore_n 3, 1) := by decide +kernel
theorem dX6_send_25 : decode cX6_send 25 = .ok (.aload_n 0, 1) := by decide +kernel
theorem dX6_send_26 : decode cX6_send 26 = .ok (.getfield 37, 3) := by decide +kernel
theorem dX6_send_29 : decode cX6_send 29 = .ok (.iload_n 3, 1) := by decide +kernel
theorem dX6_send_30 : decode cX6_send 30 = .ok (.baload, 1) := by decide +kernel
theorem dX6_send_31 : decode cX6_send 31 = .ok (.ifCond .eq 9, 3) := by decide +kernel
theorem dX6_send_34 : decode cX6_send 34 = .ok (.aload_n 0, 1) := by decide +kernel
theorem dX6_send_35 : decode cX6_send 35 = .ok (.iconst 2, 1) := by decide +kernel
theorem dX6_send_36 : decode cX6_send 36 = .ok (.invokevirtual 87, 3) := by decide +kernel
theorem dX6_send_39 : decode cX6_send 39 = .ok (.ireturn, 1) := by decide +kernel
theorem dX6_send_40 : decode cX6_send 40 = .ok (.aload_n 0, 1) := by decide +kernel
theorem dX6_send_41 : decode cX6_send 41 = .ok (.getfield 47, 3) := by decide +kernel
theorem dX6_send_44 : decode cX6_send 44 = .ok (.iload_n 1, 1) := by decide +kernel
theorem dX6_send_45 : decode cX6_send 45 = .ok (.iaload, 1) := by decide +kernel
theorem dX6_send_46 : decode cX6_send 46 = .ok (.ifCond .le 9, 3) := by decide +kernel
theorem dX6_send_49 : decode cX6_send 49 = .ok (.aload_n 0, 1) := by decide +kernel
theorem dX6_send_50 : decode cX6_send 50 = .ok (.iconst 3, 1) := by decide +kernel
theorem dX6_send_51 : decode cX6_send 51 = .ok (.invokevirtual 87, 3) := by decide +kernel
theorem dX6_send_54 : decode cX6_send 54 = .ok (.ireturn, 1) := by decide +kernel
theorem dX6_send_55 : decode cX6_send 55 = .ok (.aload_n 0, 1) := by decide +kernel
theorem dX6_send_56 : decode cX6_send 56 = .ok (.getfield 19, 3) := by decide +kernel
theorem dX6_send_59 : decode cX6_send 59 = .ok (.iload_n 2, 1) := by decide +kernel
theorem dX6_send_60 : decode cX6_send 60 = .ok (.iaload, 1) := by decide +kernel
theorem dX6_send_61 : decode cX6_send 61 = .ok (.aload_n 0, 1) := by decide +kernel
theorem dX6_send_62 : decode cX6_send 62 = .ok (.getfield 13, 3) := by decide +kernel
theorem dX6_send_65 : decode cX6_send 65 = .ok (.iload_n 2, 1) := by decide +kernel
theorem dX6_send_66 : decode cX6_send 66 = .ok (.iaload, 1) := by decide +kernel
theorem dX6_send_67 : decode cX6_send 67 = .ok (.isub, 1) := by decide +kernel
theorem dX6_send_68 : decode cX6_send 68 = .ok (.istore 4, 2) := by decide +kernel
theorem dX6_send_70 : decode cX6_send 70 = .ok (.iload 4, 2) := by decide +kernel
theorem dX6_send_72 : decode cX6_send 72 = .ok (.aload_n 0, 1) := by decide +kernel
theorem dX6_send_73 : decode cX6_send 73 = .ok (.getfield 16, 3) := by decide +kernel
theorem dX6_send_76 : decode cX6_send 76 = .ok (.iload_n 2, 1) := by decide +kernel
theorem dX6_send_77 : decode cX6_send 77 = .ok (.iaload, 1) := by decide +kernel
theorem dX6_send_78 : decode cX6_send 78 = .ok (.if_icmp .ge 8, 3) := by decide +kernel
theorem dX6_send_81 : decode cX6_send 81 = .ok (.iload 4, 2) := by decide +kernel
theorem dX6_send_83 : decode cX6_send 83 = .ok (.goto 9, 3) := by decide +kernel
theorem dX6_send_86 : decode cX6_send 86 = .ok (.aload_n 0, 1) := by decide +kernel
theorem dX6_send_87 : decode cX6_send 87 = .ok (.getfield 16, 3) := by decide +kernel
theorem dX6_send_90 : decode cX6_send 90 = .ok (.iload_n 2, 1) := by decide +kernel
theorem dX6_send_91 : decode cX6_send 91 = .ok (.iaload, 1) := by decide +kernel
theorem dX6_send_92 : decode cX6_send 92 = .ok (.istore 5, 2) := by decide +kernel
theorem dX6_send_94 : decode cX6_send 94 = .ok (.iload 5, 2) := by decide +kernel
theorem dX6_send_96 : decode cX6_send 96 = .ok (.ifCond .ne 9, 3) := by decide +kernel
theorem dX6_send_99 : decode cX6_send 99 = .ok (.aload_n 0, 1) := by decide +kernel
theorem dX6_send_100 : decode cX6_send 100 = .ok (.iconst 4, 1) := by decide +kernel
theorem dX6_send_101 : decode cX6_send 101 = .ok (.invokevirtual 87, 3) := by decide +kernel
theorem dX6_send_104 : decode cX6_send 104 = .ok (.ireturn, 1) := by decide +kernel
theorem dX6_send_105 : decode cX6_send 105 = .ok (.iload 5, 2) := by decide +kernel
theorem dX6_send_107 : decode cX6_send 107 = .ok (.bipush 10, 2) := by decide +kernel
theorem dX6_send_109 : decode cX6_send 109 = .ok (.if_icmp .le 7, 3) := by decide +kernel
theorem dX6_send_112 : decode cX6_send 112 = .ok (.bipush 10, 2) := by decide +kernel
theorem dX6_send_114 : decode cX6_send 114 = .ok (.istore 5, 2) := by decide +kernel
theorem dX6_send_116 : decode cX6_send 116 = .ok (.iconst 1, 1) := by decide +kernel
theorem dX6_send_117 : decode cX6_send 117 = .ok (.iload_n 1, 1) := by decide +kernel
theorem dX6_send_118 : decode cX6_send 118 = .ok (.isub, 1) := by decide +kernel
theorem dX6_send_119 : decode cX6_send 119 = .ok (.istore 6, 2) := by decide +kernel
theorem dX6_send_121 : decode cX6_send 121 = .ok (.aload_n 0, 1) := by decide +kernel
theorem dX6_send_122 : decode cX6_send 122 = .ok (.getfield 50, 3) := by decide +kernel
theorem dX6_send_125 : decode cX6_send 125 = .ok (.iload_n 1, 1) := by decide +kernel
theorem dX6_send_126 : decode cX6_send 126 = .ok (.iconst 3, 1) := by decide +kernel
theorem dX6_send_127 : decode cX6_send 127 = .ok (.iconst 2, 1) := by decide +kernel
theorem dX6_send_128 : decode cX6_send 128 = .ok (.aload_n 0, 1) := by decide +kernel
theorem dX6_send_129 : decode cX6_send 129 = .ok (.getfield 41, 3) := by decide +kernel
theorem dX6_send_132 : decode cX6_send 132 = .ok (.iload_n 3, 1) := by decide +kernel
theorem dX6_send_133 : decode cX6_send 133 = .ok (.iaload, 1) := by decide +kernel
theorem dX6_send_134 : decode cX6_send 134 = .ok (.imul, 1) := by decide +kernel
theorem dX6_send_135 : decode cX6_send 135 = .ok (.iadd, 1) := by decide +kernel
theorem dX6_send_136 : decode cX6_send 136 = .ok (.aload_n 0, 1) := by decide +kernel
theorem dX6_send_137 : decode cX6_send 137 = .ok (.getfield 47, 3) := by decide +kernel
theorem dX6_send_140 : decode cX6_send 140 = .ok (.iload 6, 2) := by decide +kernel
theorem dX6_send_142 : decode cX6_send 142 = .ok (.iaload, 1) := by decide +kernel
theorem dX6_send_143 : decode cX6_send 143 = .ok (.ifCond .le 23, 3) := by decide +kernel
theorem dX6_send_146 : decode cX6_send 146 = .ok (.aload_n 0, 1) := by decide +kernel
theorem dX6_send_147 : decode cX6_send 147 = .ok (.getfield 7, 3) := by decide +kernel
theorem dX6_send_150 : decode cX6_send 150 = .ok (.aload_n 0, 1) := by decide +kernel
theorem dX6_send_151 : decode cX6_send 151 = .ok (.getfield 53, 3) := by decide +kernel
theorem dX6_send_154 : decode cX6_send 154 = .ok (.iload 6, 2) := by decide +kernel
theorem dX6_send_156 : decode cX6_send 156 = .ok (.iaload, 1) := by decide +kernel
theorem dX6_send_157 : decode cX6_send 157 = .ok (.iaload, 1) := by decide +kernel
theorem dX6_send_158 : decode cX6_send 158 = .ok (.iload_n 3, 1) := by decide +kernel
theorem dX6_send_159 : decode cX6_send 159 = .ok (.if_icmp .ne 7, 3) := by decide +kernel
theorem dX6_send_162 : decode cX6_send 162 = .ok (.iconst 4, 1) := by decide +kernel
theorem dX6_send_163 : decode cX6_send 163 = .ok (.goto 4, 3) := by decide +kernel
theorem dX6_send_166 : decode cX6_send 166 = .ok (.iconst 0, 1) := by decide +kernel
theorem dX6_send_167 : decode cX6_send 167 = .ok (.iadd, 1) := by decide +kernel
theorem dX6_send_168 : decode cX6_send 168 = .ok (.iastore, 1) := by decide +kernel
theorem dX6_send_169 : decode cX6_send 169 = .ok (.aload_n 0, 1) := by decide +kernel
theorem dX6_send_170 : decode cX6_send 170 = .ok (.getfield 47, 3) := by decide +kernel
theorem dX6_send_173 : decode cX6_send 173 = .ok (.iload_n 1, 1) := by decide +kernel
theorem dX6_send_174 : decode cX6_send 174 = .ok (.iload 5, 2) := by decide +kernel
theorem dX6_send_176 : decode cX6_send 176 = .ok (.iastore, 1) := by decide +kernel
theorem dX6_send_177 : decode cX6_send 177 = .ok (.aload_n 0, 1) := by decide +kernel
theorem dX6_send_178 : decode cX6_send 178 = .ok (.getfield 53, 3) := by decide +kernel
theorem dX6_send_181 : decode cX6_send 181 = .ok (.iload_n 1, 1) := by decide +kernel
theorem dX6_send_182 : decode cX6_send 182 = .ok (.iload_n 2, 1) := by decide +kernel
theorem dX6_send_183 : decode cX6_send 183 = .ok (.iastore, 1) := by decide +kernel
theorem dX6_send_184 : decode cX6_send 184 = .ok (.aload_n 0, 1) := by decide +kernel
theorem dX6_send_185 : decode cX6_send 185 = .ok (.getfield 16, 3) := by decide +kernel
theorem dX6_send_188 : decode cX6_send 188 = .ok (.iload_n 2, 1) := by decide +kernel
theorem dX6_send_189 : decode cX6_send 189 = .ok (.dup2, 1) := by decide +kernel
theorem dX6_send_190 : decode cX6_send 190 = .ok (.iaload, 1) := by decide +kernel
theorem dX6_send_191 : decode cX6_send 191 = .ok (.iload 5, 2) := by decide +kernel
theorem dX6_send_193 : decode cX6_send 193 = .ok (.isub, 1) := by decide +kernel
theorem dX6_send_194 : decode cX6_send 194 = .ok (.iastore, 1) := by decide +kernel
theorem dX6_send_195 : decode cX6_send 195 = .ok (.aload_n 0, 1) := by decide +kernel
theorem dX6_send_196 : decode cX6_send 196 = .ok (.getfield 50, 3) := by decide +kernel
theorem dX6_send_199 : decode cX6_send 199 = .ok (.iload_n 1, 1) := by decide +kernel
theorem dX6_send_200 : decode cX6_send 200 = .ok (.iaload, 1) := by decide +kernel
theorem dX6_send_201 : decode cX6_send 201 = .ok (.ireturn, 1) := by decide +kernel
set_option maxHeartbeats 4000000 in
set_option maxRecDepth 100000 in
theorem c_X6_send (l : Launch) (hl0 : l.stackTraces = false) (g : kG) (e0 : Nat) (w : Nat → Nat) (S : wPS) (sz : Nat) (hI : MI w S) (n a : Int32) : kM l g e0 yX6_send cX6_send 7 (some .int) 2 43 0 0 [.ref (w 0), .int n, .int a] S sz (pI (fun r T => Mr w S T ∧ pF T 106 (w 0) = pF S 106 (w 0) ∧ (pF T 100 (w 0) = 1 ∨ (∃ m, m ≤ 6 ∧ pF S 101 (w 0) = nI m ∧ ∃ j, j < m ∧ a = nI j)))) (fun E => False) := by
  refine kM.of (by decide) (Nat.le_of_ble_eq_true rfl) ?_
  intro p e s m below meth c ls B hin
  obtain ⟨F, hr, hlk, hte, hP, hK, hD, hE, hS, hA, hl, hsz⟩ := B
  subst hsz
  have hx := F.1
  have hb := F.2.1
  have hl : lv_has ls 7 [(0, .ref (w 0)), (1, .int n), (2, .int a)] := hl
  refine lv_aload_n hx hb dX6_send_0 rfl (lv_at hl 0 rfl) ?_
  refine lv_iload_n hx hb dX6_send_1 rfl (lv_at hl 1 rfl) ?_
  refine kcallI (kV (n := 1) (As := [.int n]) (rest := []) (b := (w 0)) (C := RX6) F hE hK hP hD hS hA (c_X6_isRobot l hl0 g e0 w S _ hI n) (rr_Model hK hP (hI.1.1 0 (by decide))) kw_630 kw_631 kw_632 kw_5 kw_633 (by decide +kernel) ⟨Nat.le_of_ble_eq_true rfl, Nat.le_of_ble_eq_true rfl⟩ rfl hl.1 rfl (Nat.le_of_ble_eq_true rfl) dX6_send_2 ⟨Nat.le_of_ble_eq_true rfl, Nat.le_of_ble_eq_true rfl⟩) rfl hD hS hA (fun _ _ _ _ _ h => False.elim h) (fun r1 T1 H locs hp hP hD hS => ?_)
  have hp := hp
  rcases hp with ⟨hr, hT, j2, hj2, hn2⟩ | ⟨hr, hT, ho2⟩
  · subst hT
    subst hr
    have m2 : Mr w S (setF S 100 (w 0) 0) := (Mr.rf hI).thr
    refine lv_if_eq (tgt := 16) hx hb dX6_send_5 (by decide) (fun c3 => ?_) (fun c3 => ?_)
    · exact absurd c3 (by decide)
    · refine lv_aload_n hx hb dX6_send_8 rfl (lv_at hl 0 rfl) ?_
      refine lv_iload_n hx hb dX6_send_9 rfl (lv_at hl 2 rfl) ?_
      refine kcallI (kV (n := 1) (As := [.int a]) (rest := []) (b := (w 0)) (C := RX6) F hE hK hP hD hS hA (c_X6_isArticle l hl0 g e0 w (setF S 100 (w 0) 0) _ m2.1 a) (rr_Model hK hP (m2.1.1.1 0 (by decide))) kw_223 kw_224 kw_225 kw_5 kw_226 (by decide +kernel) ⟨Nat.le_of_ble_eq_true rfl, Nat.le_of_ble_eq_true rfl⟩ rfl hl.1 rfl (Nat.le_of_ble_eq_true rfl) dX6_send_10 ⟨Nat.le_of_ble_eq_true rfl, Nat.le_of_ble_eq_true rfl⟩) rfl hD hS hA (fun _ _ _ _ _ h => False.elim h) (fun r4 T4 H locs hp hP hD hS => ?_)
      have hp := hp
      rcases hp with ⟨hr, hT, m5_, hm5, hmM5, j5, hj5, hn5⟩ | ⟨hr, hT, ho5⟩
      · subst hT
        subst hr
        have m5 : Mr w S (setF (setF S 100 (w 0) 0) 100 (w 0) 0) := m2.thr
        refine lv_if_ne (tgt := 18) hx hb dX6_send_13 (by decide) (fun c6 => ?_) (fun c6 => ?_)
        · refine lv_aload_n hx hb dX6_send_18 rfl (lv_at hl 0 rfl) ?_
          refine rs_Model_aisle (b := w 1) F hK hP (m5.1.1.1 0 (by decide)) ((m5.1.2.1 1 (by decide) (by decide)).1) kw_67 dX6_send_19 ?_
          refine lv_iload_n hx hb dX6_send_22 rfl (lv_at hl 2 rfl) ?_
          refine rd_I F hK hP (m5.1.1.1 1 (by decide)) (by rw [show pN (setF (setF S 100 (w 0) 0) 100 (w 0) 0) (w 1) = 6 from (m5.1.2.1 1 (by decide) (by decide)).2, hn5]; exact vp_in_nI (by omega) (by decide)) dX6_send_23 ?_
          refine lv_topi (fun x7 ex7 => ?_)
          obtain ⟨jv8, hjv8, hxv8⟩ : ∃ q, q < 4 ∧ x7 = nI q := by rw [ex7]; exact m5.1.2.2.2.1 _
          refine lv_istore_n (lv' := [(3, .int x7), (0, .ref (w 0)), (1, .int n), (2, .int a)]) hx hb dX6_send_24 rfl hl (by decide) rfl (fun ls hl => ?_)
          refine lv_aload_n hx hb dX6_send_25 rfl (lv_at hl 1 rfl) ?_
          refine rs_Model_isBlocked (b := w 10) F hK hP (m5.1.1.1 0 (by decide)) ((m5.1.2.1 10 (by decide) (by decide)).1) kw_77 dX6_send_26 ?_
          refine lv_iload_n hx hb dX6_send_29 rfl (lv_at hl 0 rfl) ?_
          refine rd_Z F hK hP (m5.1.1.1 10 (by decide)) (by rw [show pN (setF (setF S 100 (w 0) 0) 100 (w 0) 0) (w 10) = 4 from (m5.1.2.1 10 (by decide) (by decide)).2, hxv8]; exact vp_in_nI (by omega) (by decide)) dX6_send_30 ?_
          refine lv_topi (fun x9 ex9 => ?_)
          refine lv_if_eq (tgt := 40) hx hb dX6_send_31 (by decide) (fun c10 => ?_) (fun c10 => ?_)
          · refine lv_aload_n hx hb dX6_send_40 rfl (lv_at hl 1 rfl) ?_
            refine rs_Model_load (b := w 13) F hK hP (m5.1.1.1 0 (by decide)) ((m5.1.2.1 13 (by decide) (by decide)).1) kw_80 dX6_send_41 ?_
            refine lv_iload_n hx hb dX6_send_44 rfl (lv_at hl 2 rfl) ?_
            refine rd_I F hK hP (m5.1.1.1 13 (by decide)) (by rw [show pN (setF (setF S 100 (w 0) 0) 100 (w 0) 0) (w 13) = 2 from (m5.1.2.1 13 (by decide) (by decide)).2, hn2]; exact vp_in_nI (by omega) (by decide)) dX6_send_45 ?_
            refine lv_topi (fun x11 ex11 => ?_)
            refine lv_if_le (tgt := 55) hx hb dX6_send_46 (by decide) (fun c12 => ?_) (fun c12 => ?_)
            · refine lv_aload_n hx hb dX6_send_55 rfl (lv_at hl 1 rfl) ?_
              refine rs_Model_room (b := w 4) F hK hP (m5.1.1.1 0 (by decide)) ((m5.1.2.1 4 (by decide) (by decide)).1) kw_70 dX6_send_56 ?_
              refine lv_iload_n hx hb dX6_send_59 rfl (lv_at hl 3 rfl) ?_
              refine rd_I F hK hP (m5.1.1.1 4 (by decide)) (by rw [show pN (setF (setF S 100 (w 0) 0) 100 (w 0) 0) (w 4) = 6 from (m5.1.2.1 4 (by decide) (by decide)).2, hn5]; exact vp_in_nI (by omega) (by decide)) dX6_send_60 ?_
              refine lv_topi (fun x13 ex13 => ?_)
              refine lv_aload_n hx hb dX6_send_61 rfl (lv_at hl 1 rfl) ?_
              refine rs_Model_stock (b := w 2) F hK hP (m5.1.1.1 0 (by decide)) ((m5.1.2.1 2 (by decide) (by decide)).1) kw_68 dX6_send_62 ?_
              refine lv_iload_n hx hb dX6_send_65 rfl (lv_at hl 3 rfl) ?_
              refine rd_I F hK hP (m5.1.1.1 2 (by decide)) (by rw [show pN (setF (setF S 100 (w 0) 0) 100 (w 0) 0) (w 2) = 6 from (m5.1.2.1 2 (by decide) (by decide)).2, hn5]; exact vp_in_nI (by omega) (by decide)) dX6_send_66 ?_
              refine lv_topi (fun x14 ex14 => ?_)
              refine lv_isub hx hb dX6_send_67 ?_
              refine lv_topi (fun x15 ex15 => ?_)
              refine lv_istore (lv' := [(4, .int x15), (3, .int x7), (0, .ref (w 0)), (1, .int n), (2, .int a)]) hx hb dX6_send_68 hl (by decide) rfl (fun ls hl => ?_)
              refine lv_iload hx hb dX6_send_70 (lv_at hl 0 rfl) ?_
              refine lv_aload_n hx hb dX6_send_72 rfl (lv_at hl 2 rfl) ?_
              refine rs_Model_reserve (b := w 3) F hK hP (m5.1.1.1 0 (by decide)) ((m5.1.2.1 3 (by decide) (by decide)).1) kw_69 dX6_send_73 ?_
              refine lv_iload_n hx hb dX6_send_76 rfl (lv_at hl 4 rfl) ?_
              refine rd_I F hK hP (m5.1.1.1 3 (by decide)) (by rw [show pN (setF (setF S 100 (w 0) 0) 100 (w 0) 0) (w 3) = 6 from (m5.1.2.1 3 (by decide) (by decide)).2, hn5]; exact vp_in_nI (by omega) (by decide)) dX6_send_77 ?_
              refine lv_topi (fun x16 ex16 => ?_)
              refine lv_icmp_ge (tgt := 86) hx hb dX6_send_78 (by decide) (fun c17 => ?_) (fun c17 => ?_)
              · refine lv_aload_n hx hb dX6_send_86 rfl (lv_at hl 2 rfl) ?_
                refine rs_Model_reserve (b := w 3) F hK hP (m5.1.1.1 0 (by decide)) ((m5.1.2.1 3 (by decide) (by decide)).1) kw_69 dX6_send_87 ?_
                refine lv_iload_n hx hb dX6_send_90 rfl (lv_at hl 4 rfl) ?_
                refine rd_I F hK hP (m5.1.1.1 3 (by decide)) (by rw [show pN (setF (setF S 100 (w 0) 0) 100 (w 0) 0) (w 3) = 6 from (m5.1.2.1 3 (by decide) (by decide)).2, hn5]; exact vp_in_nI (by omega) (by decide)) dX6_send_91 ?_
                refine lv_topi (fun x18 ex18 => ?_)
                refine lv_istore (lv' := [(5, .int x18), (4, .int x15), (3, .int x7), (0, .ref (w 0)), (1, .int n), (2, .int a)]) hx hb dX6_send_92 hl (by decide) rfl (fun ls hl => ?_)
                refine lv_iload hx hb dX6_send_94 (lv_at hl 0 rfl) ?_
                refine lv_if_ne (tgt := 105) hx hb dX6_send_96 (by decide) (fun c19 => ?_) (fun c19 => ?_)
                · refine lv_iload hx hb dX6_send_105 (lv_at hl 0 rfl) ?_
                  refine lv_bipush (v := 10) hx hb dX6_send_107 (by decide) ?_
                  refine lv_icmp_le (tgt := 116) hx hb dX6_send_109 (by decide) (fun c20 => ?_) (fun c20 => ?_)
                  · refine lv_iconst (v := 1) hx hb dX6_send_116 (by decide) ?_
                    refine lv_iload_n hx hb dX6_send_117 rfl (lv_at hl 4 rfl) ?_
                    refine lv_isub hx hb dX6_send_118 ?_
                    refine lv_topi (fun x21 ex21 => ?_)
                    obtain ⟨jo, hjo, hxo⟩ := kother hj2 hn2 ex21
                    refine lv_istore (lv' := [(6, .int x21), (5, .int x18), (4, .int x15), (3, .int x7), (0, .ref (w 0)), (1, .int n), (2, .int a)]) hx hb dX6_send_119 hl (by decide) rfl (fun ls hl => ?_)
                    refine lv_aload_n hx hb dX6_send_121 rfl (lv_at hl 4 rfl) ?_
                    refine rs_Model_left (b := w 14) F hK hP (m5.1.1.1 0 (by decide)) ((m5.1.2.1 14 (by decide) (by decide)).1) kw_81 dX6_send_122 ?_
                    refine lv_iload_n hx hb dX6_send_125 rfl (lv_at hl 5 rfl) ?_
                    refine lv_iconst (v := 3) hx hb dX6_send_126 (by decide) ?_
                    refine lv_iconst (v := 2) hx hb dX6_send_127 (by decide) ?_
                    refine lv_aload_n hx hb dX6_send_128 rfl (lv_at hl 4 rfl) ?_
                    refine rs_Model_pickers (b := w 11) F hK hP (m5.1.1.1 0 (by decide)) ((m5.1.2.1 11 (by decide) (by decide)).1) kw_78 dX6_send_129 ?_
                    refine lv_iload_n hx hb dX6_send_132 rfl (lv_at hl 3 rfl) ?_
                    refine rd_I F hK hP (m5.1.1.1 11 (by decide)) (by rw [show pN (setF (setF S 100 (w 0) 0) 100 (w 0) 0) (w 11) = 4 from (m5.1.2.1 11 (by decide) (by decide)).2, hxv8]; exact vp_in_nI (by omega) (by decide)) dX6_send_133 ?_
                    refine lv_topi (fun x22 ex22 => ?_)
                    refine lv_imul hx hb dX6_send_134 ?_
                    refine lv_topi (fun x23 ex23 => ?_)
                    refine lv_iadd hx hb dX6_send_135 ?_
                    refine lv_topi (fun x24 ex24 => ?_)
                    refine lv_aload_n hx hb dX6_send_136 rfl (lv_at hl 4 rfl) ?_
                    refine rs_Model_load (b := w 13) F hK hP (m5.1.1.1 0 (by decide)) ((m5.1.2.1 13 (by decide) (by decide)).1) kw_80 dX6_send_137 ?_
                    refine lv_iload hx hb dX6_send_140 (lv_at hl 0 rfl) ?_
                    refine rd_I F hK hP (m5.1.1.1 13 (by decide)) (by rw [show pN (setF (setF S 100 (w 0) 0) 100 (w 0) 0) (w 13) = 2 from (m5.1.2.1 13 (by decide) (by decide)).2, hxo]; exact vp_in_nI (by omega) (by decide)) dX6_send_142 ?_
                    refine lv_topi (fun x25 ex25 => ?_)
                    refine lv_if_le (tgt := 166) hx hb dX6_send_143 (by decide) (fun c26 => ?_) (fun c26 => ?_)
                    · refine lv_iconst (v := 0) hx hb dX6_send_166 (by decide) ?_
                      refine lv_iadd hx hb dX6_send_167 ?_
                      refine lv_topi (fun x27 ex27 => ?_)
                      refine rt_I F hK hP hD hS (m5.1.1.1 14 (by decide)) (by rw [show pN (setF (setF S 100 (w 0) 0) 100 (w 0) 0) (w 14) = 2 from (m5.1.2.1 14 (by decide) (by decide)).2, hn2]; exact vp_in_nI (by omega) (by decide)) dX6_send_168 (fun H locs hP hD hS => ?_)
                      refine lv_aload_n hx hb dX6_send_169 rfl (lv_at hl 4 rfl) ?_
                      refine rs_Model_load (b := w 13) F hK hP (m5.1.1.1 0 (by decide)) ((m5.1.2.1 13 (by decide) (by decide)).1) kw_80 dX6_send_170 ?_
                      refine lv_iload_n hx hb dX6_send_173 rfl (lv_at hl 5 rfl) ?_
                      refine lv_iload hx hb dX6_send_174 (lv_at hl 1 rfl) ?_
                      refine rt_I F hK hP hD hS (m5.1.1.1 13 (by decide)) (by rw [show pN (setX (setF (setF S 100 (w 0) 0) 100 (w 0) 0) (w 14) (upd (pX (setF (setF S 100 (w 0) 0) 100 (w 0) 0) (w 14)) n.toNatClampNeg x27)) (w 13) = 2 from (m5.1.2.1 13 (by decide) (by decide)).2, hn2]; exact vp_in_nI (by omega) (by decide)) dX6_send_176 (fun H locs hP hD hS => ?_)
                      refine lv_aload_n hx hb dX6_send_177 rfl (lv_at hl 4 rfl) ?_
                      refine rs_Model_goal (b := w 15) F hK hP (m5.1.1.1 0 (by decide)) ((m5.1.2.1 15 (by decide) (by decide)).1) kw_82 dX6_send_178 ?_
                      refine lv_iload_n hx hb dX6_send_181 rfl (lv_at hl 5 rfl) ?_
                      refine lv_iload_n hx hb dX6_send_182 rfl (lv_at hl 6 rfl) ?_
                      refine rt_I F hK hP hD hS (m5.1.1.1 15 (by decide)) (by rw [show pN (setX (setX (setF (setF S 100 (w 0) 0) 100 (w 0) 0) (w 14) (upd (pX (setF (setF S 100 (w 0) 0) 100 (w 0) 0) (w 14)) n.toNatClampNeg x27)) (w 13) (upd (pX (setX (setF (setF S 100 (w 0) 0) 100 (w 0) 0) (w 14) (upd (pX (setF (setF S 100 (w 0) 0) 100 (w 0) 0) (w 14)) n.toNatClampNeg x27)) (w 13)) n.toNatClampNeg x18)) (w 15) = 2 from (m5.1.2.1 15 (by decide) (by decide)).2, hn2]; exact vp_in_nI (by omega) (by decide)) dX6_send_183 (fun H locs hP hD hS => ?_)
                      refine lv_aload_n hx hb dX6_send_184 rfl (lv_at hl 4 rfl) ?_
                      refine rs_Model_reserve (b := w 3) F hK hP (m5.1.1.1 0 (by decide)) ((m5.1.2.1 3 (by decide) (by decide)).1) kw_69 dX6_send_185 ?_
                      refine lv_iload_n hx hb dX6_send_188 rfl (lv_at hl 6 rfl) ?_
                      refine lv_dup2_11 hx hb dX6_send_189 rfl rfl ?_
                      refine rd_I F hK hP (m5.1.1.1 3 (by decide)) (by rw [show pN (setX (setX (setX (setF (setF S 100 (w 0) 0) 100 (w 0) 0) (w 14) (upd (pX (setF (setF S 100 (w 0) 0) 100 (w 0) 0) (w 14)) n.toNatClampNeg x27)) (w 13) (upd (pX (setX (setF (setF S 100 (w 0) 0) 100 (w 0) 0) (w 14) (upd (pX (setF (setF S 100 (w 0) 0) 100 (w 0) 0) (w 14)) n.toNatClampNeg x27)) (w 13)) n.toNatClampNeg x18)) (w 15) (upd (pX (setX (setX (setF (setF S 100 (w 0) 0) 100 (w 0) 0) (w 14) (upd (pX (setF (setF S 100 (w 0) 0) 100 (w 0) 0) (w 14)) n.toNatClampNeg x27)) (w 13) (upd (pX (setX (setF (setF S 100 (w 0) 0) 100 (w 0) 0) (w 14) (upd (pX (setF (setF S 100 (w 0) 0) 100 (w 0) 0) (w 14)) n.toNatClampNeg x27)) (w 13)) n.toNatClampNeg x18)) (w 15)) n.toNatClampNeg a)) (w 3) = 6 from (m5.1.2.1 3 (by decide) (by decide)).2, hn5]; exact vp_in_nI (by omega) (by decide)) dX6_send_190 ?_
                      refine lv_topi (fun x28 ex28 => ?_)
                      refine lv_iload hx hb dX6_send_191 (lv_at hl 1 rfl) ?_
                      refine lv_isub hx hb dX6_send_193 ?_
                      refine lv_topi (fun x29 ex29 => ?_)
                      refine rt_I F hK hP hD hS (m5.1.1.1 3 (by decide)) (by rw [show pN (setX (setX (setX (setF (setF S 100 (w 0) 0) 100 (w 0) 0) (w 14) (upd (pX (setF (setF S 100 (w 0) 0) 100 (w 0) 0) (w 14)) n.toNatClampNeg x27)) (w 13) (upd (pX (setX (setF (setF S 100 (w 0) 0) 100 (w 0) 0) (w 14) (upd (pX (setF (setF S 100 (w 0) 0) 100 (w 0) 0) (w 14)) n.toNatClampNeg x27)) (w 13)) n.toNatClampNeg x18)) (w 15) (upd (pX (setX (setX (setF (setF S 100 (w 0) 0) 100 (w 0) 0) (w 14) (upd (pX (setF (setF S 100 (w 0) 0) 100 (w 0) 0) (w 14)) n.toNatClampNeg x27)) (w 13) (upd (pX (setX (setF (setF S 100 (w 0) 0) 100 (w 0) 0) (w 14) (upd (pX (setF (setF S 100 (w 0) 0) 100 (w 0) 0) (w 14)) n.toNatClampNeg x27)) (w 13)) n.toNatClampNeg x18)) (w 15)) n.toNatClampNeg a)) (w 3) = 6 from (m5.1.2.1 3 (by decide) (by decide)).2, hn5]; exact vp_in_nI (by omega) (by decide)) dX6_send_194 (fun H locs hP hD hS => ?_)
                      refine lv_aload_n hx hb dX6_send_195 rfl (lv_at hl 4 rfl) ?_
                      refine rs_Model_left (b := w 14) F hK hP (m5.1.1.1 0 (by decide)) ((m5.1.2.1 14 (by decide) (by decide)).1) kw_81 dX6_send_196 ?_
                      refine lv_iload_n hx hb dX6_send_199 rfl (lv_at hl 5 rfl) ?_
                      refine rd_I F hK hP (m5.1.1.1 14 (by decide)) (by rw [show pN (setX (setX (setX (setX (setF (setF S 100 (w 0) 0) 100 (w 0) 0) (w 14) (upd (pX (setF (setF S 100 (w 0) 0) 100 (w 0) 0) (w 14)) n.toNatClampNeg x27)) (w 13) (upd (pX (setX (setF (setF S 100 (w 0) 0) 100 (w 0) 0) (w 14) (upd (pX (setF (setF S 100 (w 0) 0) 100 (w 0) 0) (w 14)) n.toNatClampNeg x27)) (w 13)) n.toNatClampNeg x18)) (w 15) (upd (pX (setX (setX (setF (setF S 100 (w 0) 0) 100 (w 0) 0) (w 14) (upd (pX (setF (setF S 100 (w 0) 0) 100 (w 0) 0) (w 14)) n.toNatClampNeg x27)) (w 13) (upd (pX (setX (setF (setF S 100 (w 0) 0) 100 (w 0) 0) (w 14) (upd (pX (setF (setF S 100 (w 0) 0) 100 (w 0) 0) (w 14)) n.toNatClampNeg x27)) (w 13)) n.toNatClampNeg x18)) (w 15)) n.toNatClampNeg a)) (w 3) (upd (pX (setX (setX (setX (setF (setF S 100 (w 0) 0) 100 (w 0) 0) (w 14) (upd (pX (setF (setF S 100 (w 0) 0) 100 (w 0) 0) (w 14)) n.toNatClampNeg x27)) (w 13) (upd (pX (setX (setF (setF S 100 (w 0) 0) 100 (w 0) 0) (w 14) (upd (pX (setF (setF S 100 (w 0) 0) 100 (w 0) 0) (w 14)) n.toNatClampNeg x27)) (w 13)) n.toNatClampNeg x18)) (w 15) (upd (pX (setX (setX (setF (setF S 100 (w 0) 0) 100 (w 0) 0) (w 14) (upd (pX (setF (setF S 100 (w 0) 0) 100 (w 0) 0) (w 14)) n.toNatClampNeg x27)) (w 13) (upd (pX (setX (setF (setF S 100 (w 0) 0) 100 (w 0) 0) (w 14) (upd (pX (setF (setF S 100 (w 0) 0) 100 (w 0) 0) (w 14)) n.toNatClampNeg x27)) (w 13)) n.toNatClampNeg x18)) (w 15)) n.toNatClampNeg a)) (w 3)) a.toNatClampNeg x29)) (w 14) = 2 from (m5.1.2.1 14 (by decide) (by decide)).2, hn2]; exact vp_in_nI (by omega) (by decide)) dX6_send_200 ?_
                      refine lv_topi (fun x30 ex30 => ?_)
                      exact kEndI F hr rfl hlk hP hD hS (Nat.le_of_ble_eq_true rfl) (Nat.le_of_ble_eq_true rfl) dX6_send_201 ⟨_, rfl, ⟨(m5.trans (Mk.x (i := 3) (Mk.v (i := 15) (Mk.x (i := 13) (Mk.x (i := 14) (Mk.rf m5.1) (by decide) (by decide) (by decide)) (by decide) (by decide) (by decide)) (by decide) ⟨j5, (show j5 < 6 by omega), hn5⟩) (by decide) (by decide) (by decide)).1), (show pF (setF (setF S 100 (w 0) 0) 100 (w 0) 0) 106 (w 0) = pF S 106 (w 0) from ((uF_of (Or.inl (by decide))).trans ((uF_of (Or.inl (by decide))).trans rfl))), Or.inr ⟨m5_, hm5, (uF_of (Or.inl (by decide))).symm.trans hmM5, j5, hj5, hn5⟩⟩⟩
                    · refine lv_aload_n hx hb dX6_send_146 rfl (lv_at hl 4 rfl) ?_
                      refine rs_Model_aisle (b := w 1) F hK hP (m5.1.1.1 0 (by decide)) ((m5.1.2.1 1 (by decide) (by decide)).1) kw_67 dX6_send_147 ?_
                      refine lv_aload_n hx hb dX6_send_150 rfl (lv_at hl 4 rfl) ?_
                      refine rs_Model_goal (b := w 15) F hK hP (m5.1.1.1 0 (by decide)) ((m5.1.2.1 15 (by decide) (by decide)).1) kw_82 dX6_send_151 ?_
                      refine lv_iload hx hb dX6_send_154 (lv_at hl 0 rfl) ?_
                      refine rd_I F hK hP (m5.1.1.1 15 (by decide)) (by rw [show pN (setF (setF S 100 (w 0) 0) 100 (w 0) 0) (w 15) = 2 from (m5.1.2.1 15 (by decide) (by decide)).2, hxo]; exact vp_in_nI (by omega) (by decide)) dX6_send_156 ?_
                      refine lv_topi (fun x31 ex31 => ?_)
                      obtain ⟨jv32, hjv32, hxv32⟩ : ∃ q, q < 6 ∧ x31 = nI q := by rw [ex31]; exact m5.1.2.2.2.2.2.1 _
                      refine rd_I F hK hP (m5.1.1.1 1 (by decide)) (by rw [show pN (setF (setF S 100 (w 0) 0) 100 (w 0) 0) (w 1) = 6 from (m5.1.2.1 1 (by decide) (by decide)).2, hxv32]; exact vp_in_nI (by omega) (by decide)) dX6_send_157 ?_
                      refine lv_topi (fun x33 ex33 => ?_)
                      refine lv_iload_n hx hb dX6_send_158 rfl (lv_at hl 3 rfl) ?_
                      refine lv_icmp_ne (tgt := 166) hx hb dX6_send_159 (by decide) (fun c34 => ?_) (fun c34 => ?_)
                      · refine lv_iconst (v := 0) hx hb dX6_send_166 (by decide) ?_
                        refine lv_iadd hx hb dX6_send_167 ?_
                        refine lv_topi (fun x35 ex35 => ?_)
                        refine rt_I F hK hP hD hS (m5.1.1.1 14 (by decide)) (by rw [show pN (setF (setF S 100 (w 0) 0) 100 (w 0) 0) (w 14) = 2 from (m5.1.2.1 14 (by decide) (by decide)).2, hn2]; exact vp_in_nI (by omega) (by decide)) dX6_send_168 (fun H locs hP hD hS => ?_)
                        refine lv_aload_n hx hb dX6_send_169 rfl (lv_at hl 4 rfl) ?_
                        refine rs_Model_load (b := w 13) F hK hP (m5.1.1.1 0 (by decide)) ((m5.1.2.1 13 (by decide) (by decide)).1) kw_80 dX6_send_170 ?_
                        refine lv_iload_n hx hb dX6_send_173 rfl (lv_at hl 5 rfl) ?_
                        refine lv_iload hx hb dX6_send_174 (lv_at hl 1 rfl) ?_
                        refine rt_I F hK hP hD hS (m5.1.1.1 13 (by decide)) (by rw [show pN (setX (setF (setF S 100 (w 0) 0) 100 (w 0) 0) (w 14) (upd (pX (setF (setF S 100 (w 0) 0) 100 (w 0) 0) (w 14)) n.toNatClampNeg x35)) (w 13) = 2 from (m5.1.2.1 13 (by decide) (by decide)).2, hn2]; exact vp_in_nI (by omega) (by decide)) dX6_send_176 (fun H locs hP hD hS => ?_)
                        refine lv_aload_n hx hb dX6_send_177 rfl (lv_at hl 4 rfl) ?_
                        refine rs_Model_goal (b := w 15) F hK hP (m5.1.1.1 0 (by decide)) ((m5.1.2.1 15 (by decide) (by decide)).1) kw_82 dX6_send_178 ?_
                        refine lv_iload_n hx hb dX6_send_181 rfl (lv_at hl 5 rfl) ?_
                        refine lv_iload_n hx hb dX6_send_182 rfl (lv_at hl 6 rfl) ?_
                        refine rt_I F hK hP hD hS (m5.1.1.1 15 (by decide)) (by rw [show pN (setX (setX (setF (setF S 100 (w 0) 0) 100 (w 0) 0) (w 14) (upd (pX (setF (setF S 100 (w 0) 0) 100 (w 0) 0) (w 14)) n.toNatClampNeg x35)) (w 13) (upd (pX (setX (setF (setF S 100 (w 0) 0) 100 (w 0) 0) (w 14) (upd (pX (setF (setF S 100 (w 0) 0) 100 (w 0) 0) (w 14)) n.toNatClampNeg x35)) (w 13)) n.toNatClampNeg x18)) (w 15) = 2 from (m5.1.2.1 15 (by decide) (by decide)).2, hn2]; exact vp_in_nI (by omega) (by decide)) dX6_send_183 (fun H locs hP hD hS => ?_)
                        refine lv_aload_n hx hb dX6_send_184 rfl (lv_at hl 4 rfl) ?_
                        refine rs_Model_reserve (b := w 3) F hK hP (m5.1.1.1 0 (by decide)) ((m5.1.2.1 3 (by decide) (by decide)).1) kw_69 dX6_send_185 ?_
                        refine lv_iload_n hx hb dX6_send_188 rfl (lv_at hl 6 rfl) ?_
                        refine lv_dup2_11 hx hb dX6_send_189 rfl rfl ?_
                        refine rd_I F hK hP (m5.1.1.1 3 (by decide)) (by rw [show pN (setX (setX (setX (setF (setF S 100 (w 0) 0) 100 (w 0) 0) (w 14) (upd (pX (setF (setF S 100 (w 0) 0) 100 (w 0) 0) (w 14)) n.toNatClampNeg x35)) (w 13) (upd (pX (setX (setF (setF S 100 (w 0) 0) 100 (w 0) 0) (w 14) (upd (pX (setF (setF S 100 (w 0) 0) 100 (w 0) 0) (w 14)) n.toNatClampNeg x35)) (w 13)) n.toNatClampNeg x18)) (w 15) (upd (pX (setX (setX (setF (setF S 100 (w 0) 0) 100 (w 0) 0) (w 14) (upd (pX (setF (setF S 100 (w 0) 0) 100 (w 0) 0) (w 14)) n.toNatClampNeg x35)) (w 13) (upd (pX (setX (setF (setF S 100 (w 0) 0) 100 (w 0) 0) (w 14) (upd (pX (setF (setF S 100 (w 0) 0) 100 (w 0) 0) (w 14)) n.toNatClampNeg x35)) (w 13)) n.toNatClampNeg x18)) (w 15)) n.toNatClampNeg a)) (w 3) = 6 from (m5.1.2.1 3 (by decide) (by decide)).2, hn5]; exact vp_in_nI (by omega) (by decide)) dX6_send_190 ?_
                        refine lv_topi (fun x36 ex36 => ?_)
                        refine lv_iload hx hb dX6_send_191 (lv_at hl 1 rfl) ?_
                        refine lv_isub hx hb dX6_send_193 ?_
                        refine lv_topi (fun x37 ex37 => ?_)
                        refine rt_I F hK hP hD hS (m5.1.1.1 3 (by decide)) (by rw [show pN (setX (setX (setX (setF (setF S 100 (w 0) 0) 100 (w 0) 0) (w 14) (upd (pX (setF (setF S 100 (w 0) 0) 100 (w 0) 0) (w 14)) n.toNatClampNeg x35)) (w 13) (upd (pX (setX (setF (setF S 100 (w 0) 0) 100 (w 0) 0) (w 14) (upd (pX (setF (setF S 100 (w 0) 0) 100 (w 0) 0) (w 14)) n.toNatClampNeg x35)) (w 13)) n.toNatClampNeg x18)) (w 15) (upd (pX (setX (setX (setF (setF S 100 (w 0) 0) 100 (w 0) 0) (w 14) (upd (pX (setF (setF S 100 (w 0) 0) 100 (w 0) 0) (w 14)) n.toNatClampNeg x35)) (w 13) (upd (pX (setX (setF (setF S 100 (w 0) 0) 100 (w 0) 0) (w 14) (upd (pX (setF (setF S 100 (w 0) 0) 100 (w 0) 0) (w 14)) n.toNatClampNeg x35)) (w 13)) n.toNatClampNeg x18)) (w 15)) n.toNatClampNeg a)) (w 3) = 6 from (m5.1.2.1 3 (by decide) (by decide)).2, hn5]; exact vp_in_nI (by omega) (by decide)) dX6_send_194 (fun H locs hP hD hS => ?_)
                        refine lv_aload_n hx hb dX6_send_195 rfl (lv_at hl 4 rfl) ?_
                        refine rs_Model_left (b := w 14) F hK hP (m5.1.1.1 0 (by decide)) ((m5.1.2.1 14 (by decide) (by decide)).1) kw_81 dX6_send_196 ?_
                        refine lv_iload_n hx hb dX6_send_199 rfl (lv_at hl 5 rfl) ?_
                        refine rd_I F hK hP (m5.1.1.1 14 (by decide)) (by rw [show pN (setX (setX (setX (setX (setF (setF S 100 (w 0) 0) 100 (w 0) 0) (w 14) (upd (pX (setF (setF S 100 (w 0) 0) 100 (w 0) 0) (w 14)) n.toNatClampNeg x35)) (w 13) (upd (pX (setX (setF (setF S 100 (w 0) 0) 100 (w 0) 0) (w 14) (upd (pX (setF (setF S 100 (w 0) 0) 100 (w 0) 0) (w 14)) n.toNatClampNeg x35)) (w 13)) n.toNatClampNeg x18)) (w 15) (upd (pX (setX (setX (setF (setF S 100 (w 0) 0) 100 (w 0) 0) (w 14) (upd (pX (setF (setF S 100 (w 0) 0) 100 (w 0) 0) (w 14)) n.toNatClampNeg x35)) (w 13) (upd (pX (setX (setF (setF S 100 (w 0) 0) 100 (w 0) 0) (w 14) (upd (pX (setF (setF S 100 (w 0) 0) 100 (w 0) 0) (w 14)) n.toNatClampNeg x35)) (w 13)) n.toNatClampNeg x18)) (w 15)) n.toNatClampNeg a)) (w 3) (upd (pX (setX (setX (setX (setF (setF S 100 (w 0) 0) 100 (w 0) 0) (w 14) (upd (pX (setF (setF S 100 (w 0) 0) 100 (w 0) 0) (w 14)) n.toNatClampNeg x35)) (w 13) (upd (pX (setX (setF (setF S 100 (w 0) 0) 100 (w 0) 0) (w 14) (upd (pX (setF (setF S 100 (w 0) 0) 100 (w 0) 0) (w 14)) n.toNatClampNeg x35)) (w 13)) n.toNatClampNeg x18)) (w 15) (upd (pX (setX (setX (setF (setF S 100 (w 0) 0) 100 (w 0) 0) (w 14) (upd (pX (setF (setF S 100 (w 0) 0) 100 (w 0) 0) (w 14)) n.toNatClampNeg x35)) (w 13) (upd (pX (setX (setF (setF S 100 (w 0) 0) 100 (w 0) 0) (w 14) (upd (pX (setF (setF S 100 (w 0) 0) 100 (w 0) 0) (w 14)) n.toNatClampNeg x35)) (w 13)) n.toNatClampNeg x18)) (w 15)) n.toNatClampNeg a)) (w 3)) a.toNatClampNeg x37)) (w 14) = 2 from (m5.1.2.1 14 (by decide) (by decide)).2, hn2]; exact vp_in_nI (by omega) (by decide)) dX6_send_200 ?_
                        refine lv_topi (fun x38 ex38 => ?_)
                        exact kEndI F hr rfl hlk hP hD hS (Nat.le_of_ble_eq_true rfl) (Nat.le_of_ble_eq_true rfl) dX6_send_201 ⟨_, rfl, ⟨(m5.trans (Mk.x (i := 3) (Mk.v (i := 15) (Mk.x (i := 13) (Mk.x (i := 14) (Mk.rf m5.1) (by decide) (by decide) (by decide)) (by decide) (by decide) (by decide)) (by decide) ⟨j5, (show j5 < 6 by omega), hn5⟩) (by decide) (by decide) (by decide)).1), (show pF (setF (setF S 100 (w 0) 0) 100 (w 0) 0) 106 (w 0) = pF S 106 (w 0) from ((uF_of (Or.inl (by decide))).trans ((uF_of (Or.inl (by decide))).trans rfl))), Or.inr ⟨m5_, hm5, (uF_of (Or.inl (by decide))).symm.trans hmM5, j5, hj5, hn5⟩⟩⟩
                      · refine lv_iconst (v := 4) hx hb dX6_send_162 (by decide) ?_
                        refine lv_goto (tgt := 167) hx hb dX6_send_163 (by decide) ?_
                        refine lv_iadd hx hb dX6_send_167 ?_
                        refine lv_topi (fun x39 ex39 => ?_)
                        refine rt_I F hK hP hD hS (m5.1.1.1 14 (by decide)) (by rw [show pN (setF (setF S 100 (w 0) 0) 100 (w 0) 0) (w 14) = 2 from (m5.1.2.1 14 (by decide) (by decide)).2, hn2]; exact vp_in_nI (by omega) (by decide)) dX6_send_168 (fun H locs hP hD hS => ?_)
                        refine lv_aload_n hx hb dX6_send_169 rfl (lv_at hl 4 rfl) ?_
                        refine rs_Model_load (b := w 13) F hK hP (m5.1.1.1 0 (by decide)) ((m5.1.2.1 13 (by decide) (by decide)).1) kw_80 dX6_send_170 ?_
                        refine lv_iload_n hx hb dX6_send_173 rfl (lv_at hl 5 rfl) ?_
                        refine lv_iload hx hb dX6_send_174 (lv_at hl 1 rfl) ?_
                        refine rt_I F hK hP hD hS (m5.1.1.1 13 (by decide)) (by rw [show pN (setX (setF (setF S 100 (w 0) 0) 100 (w 0) 0) (w 14) (upd (pX (setF (setF S 100 (w 0) 0) 100 (w 0) 0) (w 14)) n.toNatClampNeg x39)) (w 13) = 2 from (m5.1.2.1 13 (by decide) (by decide)).2, hn2]; exact vp_in_nI (by omega) (by decide)) dX6_send_176 (fun H locs hP hD hS => ?_)
                        refine lv_aload_n hx hb dX6_send_177 rfl (lv_at hl 4 rfl) ?_
                        refine rs_Model_goal (b := w 15) F hK hP (m5.1.1.1 0 (by decide)) ((m5.1.2.1 15 (by decide) (by decide)).1) kw_82 dX6_send_178 ?_
                        refine lv_iload_n hx hb dX6_send_181 rfl (lv_at hl 5 rfl) ?_
                        refine lv_iload_n hx hb dX6_send_182 rfl (lv_at hl 6 rfl) ?_
                        refine rt_I F hK hP hD hS (m5.1.1.1 15 (by decide)) (by rw [show pN (setX (setX (setF (setF S 100 (w 0) 0) 100 (w 0) 0) (w 14) (upd (pX (setF (setF S 100 (w 0) 0) 100 (w 0) 0) (w 14)) n.toNatClampNeg x39)) (w 13) (upd (pX (setX (setF (setF S 100 (w 0) 0) 100 (w 0) 0) (w 14) (upd (pX (setF (setF S 100 (w 0) 0) 100 (w 0) 0) (w 14)) n.toNatClampNeg x39)) (w 13)) n.toNatClampNeg x18)) (w 15) = 2 from (m5.1.2.1 15 (by decide) (by decide)).2, hn2]; exact vp_in_nI (by omega) (by decide)) dX6_send_183 (fun H locs hP hD hS => ?_)
                        refine lv_aload_n hx hb dX6_send_184 rfl (lv_at hl 4 rfl) ?_
                        refine rs_Model_reserve (b := w 3) F hK hP (m5.1.1.1 0 (by decide)) ((m5.1.2.1 3 (by decide) (by decide)).1) kw_69 dX6_send_185 ?_
                        refine lv_iload_n hx hb dX6_send_188 rfl (lv_at hl 6 rfl) ?_
                        refine lv_dup2_11 hx hb dX6_send_189 rfl rfl ?_
                        refine rd_I F hK hP (m5.1.1.1 3 (by decide)) (by rw [show pN (setX (setX (setX (setF (setF S 100 (w 0) 0) 100 (w 0) 0) (w 14) (upd (pX (setF (setF S 100 (w 0) 0) 100 (w 0) 0) (w 14)) n.toNatClampNeg x39)) (w 13) (upd (pX (setX (setF (setF S 100 (w 0) 0) 100 (w 0) 0) (w 14) (upd (pX (setF (setF S 100 (w 0) 0) 100 (w 0) 0) (w 14)) n.toNatClampNeg x39)) (w 13)) n.toNatClampNeg x18)) (w 15) (upd (pX (setX (setX (setF (setF S 100 (w 0) 0) 100 (w 0) 0) (w 14) (upd (pX (setF (setF S 100 (w 0) 0) 100 (w 0) 0) (w 14)) n.toNatClampNeg x39)) (w 13) (upd (pX (setX (setF (setF S 100 (w 0) 0) 100 (w 0) 0) (w 14) (upd (pX (setF (setF S 100 (w 0) 0) 100 (w 0) 0) (w 14)) n.toNatClampNeg x39)) (w 13)) n.toNatClampNeg x18)) (w 15)) n.toNatClampNeg a)) (w 3) = 6 from (m5.1.2.1 3 (by decide) (by decide)).2, hn5]; exact vp_in_nI (by omega) (by decide)) dX6_send_190 ?_
                        refine lv_topi (fun x40 ex40 => ?_)
                        refine lv_iload hx hb dX6_send_191 (lv_at hl 1 rfl) ?_
                        refine lv_isub hx hb dX6_send_193 ?_
                        refine lv_topi (fun x41 ex41 => ?_)
                        refine rt_I F hK hP hD hS (m5.1.1.1 3 (by decide)) (by rw [show pN (setX (setX (setX (setF (setF S 100 (w 0) 0) 100 (w 0) 0) (w 14) (upd (pX (setF (setF S 100 (w 0) 0) 100 (w 0) 0) (w 14)) n.toNatClampNeg x39)) (w 13) (upd (pX (setX (setF (setF S 100 (w 0) 0) 100 (w 0) 0) (w 14) (upd (pX (setF (setF S 100 (w 0) 0) 100 (w 0) 0) (w 14)) n.toNatClampNeg x39)) (w 13)) n.toNatClampNeg x18)) (w 15) (upd (pX (setX (setX (setF (setF S 100 (w 0) 0) 100 (w 0) 0) (w 14) (upd (pX (setF (setF S 100 (w 0) 0) 100 (w 0) 0) (w 14)) n.toNatClampNeg x39)) (w 13) (upd (pX (setX (setF (setF S 100 (w 0) 0) 100 (w 0) 0) (w 14) (upd (pX (setF (setF S 100 (w 0) 0) 100 (w 0) 0) (w 14)) n.toNatClampNeg x39)) (w 13)) n.toNatClampNeg x18)) (w 15)) n.toNatClampNeg a)) (w 3) = 6 from (m5.1.2.1 3 (by decide) (by decide)).2, hn5]; exact vp_in_nI (by omega) (by decide)) dX6_send_194 (fun H locs hP hD hS => ?_)
                        refine lv_aload_n hx hb dX6_send_195 rfl (lv_at hl 4 rfl) ?_
                        refine rs_Model_left (b := w 14) F hK hP (m5.1.1.1 0 (by decide)) ((m5.1.2.1 14 (by decide) (by decide)).1) kw_81 dX6_send_196 ?_
                        refine lv_iload_n hx hb dX6_send_199 rfl (lv_at hl 5 rfl) ?_
                        refine rd_I F hK hP (m5.1.1.1 14 (by decide)) (by rw [show pN (setX (setX (setX (setX (setF (setF S 100 (w 0) 0) 100 (w 0) 0) (w 14) (upd (pX (setF (setF S 100 (w 0) 0) 100 (w 0) 0) (w 14)) n.toNatClampNeg x39)) (w 13) (upd (pX (setX (setF (setF S 100 (w 0) 0) 100 (w 0) 0) (w 14) (upd (pX (setF (setF S 100 (w 0) 0) 100 (w 0) 0) (w 14)) n.toNatClampNeg x39)) (w 13)) n.toNatClampNeg x18)) (w 15) (upd (pX (setX (setX (setF (setF S 100 (w 0) 0) 100 (w 0) 0) (w 14) (upd (pX (setF (setF S 100 (w 0) 0) 100 (w 0) 0) (w 14)) n.toNatClampNeg x39)) (w 13) (upd (pX (setX (setF (setF S 100 (w 0) 0) 100 (w 0) 0) (w 14) (upd (pX (setF (setF S 100 (w 0) 0) 100 (w 0) 0) (w 14)) n.toNatClampNeg x39)) (w 13)) n.toNatClampNeg x18)) (w 15)) n.toNatClampNeg a)) (w 3) (upd (pX (setX (setX (setX (setF (setF S 100 (w 0) 0) 100 (w 0) 0) (w 14) (upd (pX (setF (setF S 100 (w 0) 0) 100 (w 0) 0) (w 14)) n.toNatClampNeg x39)) (w 13) (upd (pX (setX (setF (setF S 100 (w 0) 0) 100 (w 0) 0) (w 14) (upd (pX (setF (setF S 100 (w 0) 0) 100 (w 0) 0) (w 14)) n.toNatClampNeg x39)) (w 13)) n.toNatClampNeg x18)) (w 15) (upd (pX (setX (setX (setF (setF S 100 (w 0) 0) 100 (w 0) 0) (w 14) (upd (pX (setF (setF S 100 (w 0) 0) 100 (w 0) 0) (w 14)) n.toNatClampNeg x39)) (w 13) (upd (pX (setX (setF (setF S 100 (w 0) 0) 100 (w 0) 0) (w 14) (upd (pX (setF (setF S 100 (w 0) 0) 100 (w 0) 0) (w 14)) n.toNatClampNeg x39)) (w 13)) n.toNatClampNeg x18)) (w 15)) n.toNatClampNeg a)) (w 3)) a.toNatClampNeg x41)) (w 14) = 2 from (m5.1.2.1 14 (by decide) (by decide)).2, hn2]; exact vp_in_nI (by omega) (by decide)) dX6_send_200 ?_
                        refine lv_topi (fun x42 ex42 => ?_)
                        exact kEndI F hr rfl hlk hP hD hS (Nat.le_of_ble_eq_true rfl) (Nat.le_of_ble_eq_true rfl) dX6_send_201 ⟨_, rfl, ⟨(m5.trans (Mk.x (i := 3) (Mk.v (i := 15) (Mk.x (i := 13) (Mk.x (i := 14) (Mk.rf m5.1) (by decide) (by decide) (by decide)) (by decide) (by decide) (by decide)) (by decide) ⟨j5, (show j5 < 6 by omega), hn5⟩) (by decide) (by decide) (by decide)).1), (show pF (setF (setF S 100 (w 0) 0) 100 (w 0) 0) 106 (w 0) = pF S 106 (w 0) from ((uF_of (Or.inl (by decide))).trans ((uF_of (Or.inl (by decide))).trans rfl))), Or.inr ⟨m5_, hm5, (uF_of (Or.inl (by decide))).symm.trans hmM5, j5, hj5, hn5⟩⟩⟩
                  · refine lv_bipush (v := 10) hx hb dX6_send_112 (by decide) ?_
                    refine lv_istore (lv' := [(5, .int 10), (4, .int x15), (3, .int x7), (0, .ref (w 0)), (1, .int n), (2, .int a)]) hx hb dX6_send_114 hl (by decide) rfl (fun ls hl => ?_)
                    refine lv_iconst (v := 1) hx hb dX6_send_116 (by decide) ?_
                    refine lv_iload_n hx hb dX6_send_117 rfl (lv_at hl 4 rfl) ?_
                    refine lv_isub hx hb dX6_send_118 ?_
                    refine lv_topi (fun x43 ex43 => ?_)
                    obtain ⟨jo, hjo, hxo⟩ := kother hj2 hn2 ex43
                    refine lv_istore (lv' := [(6, .int x43), (5, .int 10), (4, .int x15), (3, .int x7), (0, .ref (w 0)), (1, .int n), (2, .int a)]) hx hb dX6_send_119 hl (by decide) rfl (fun ls hl => ?_)
                    refine lv_aload_n hx hb dX6_send_121 rfl (lv_at hl 4 rfl) ?_
                    refine rs_Model_left (b := w 14) F hK hP (m5.1.1.1 0 (by decide)) ((m5.1.2.1 14 (by decide) (by decide)).1) kw_81 dX6_send_122 ?_
                    refine lv_iload_n hx hb dX6_send_125 rfl (lv_at hl 5 rfl) ?_
                    refine lv_iconst (v := 3) hx hb dX6_send_126 (by decide) ?_
                    refine lv_iconst (v := 2) hx hb dX6_send_127 (by decide) ?_
                    refine lv_aload_n hx hb dX6_send_128 rfl (lv_at hl 4 rfl) ?_
                    refine rs_Model_pickers (b := w 11) F hK hP (m5.1.1.1 0 (by decide)) ((m5.1.2.1 11 (by decide) (by decide)).1) kw_78 dX6_send_129 ?_
                    refine lv_iload_n hx hb dX6_send_132 rfl (lv_at hl 3 rfl) ?_
                    refine rd_I F hK hP (m5.1.1.1 11 (by decide)) (by rw [show pN (setF (setF S 100 (w 0) 0) 100 (w 0) 0) (w 11) = 4 from (m5.1.2.1 11 (by decide) (by decide)).2, hxv8]; exact vp_in_nI (by omega) (by decide)) dX6_send_133 ?_
                    refine lv_topi (fun x44 ex44 => ?_)
                    refine lv_imul hx hb dX6_send_134 ?_
                    refine lv_topi (fun x45 ex45 => ?_)
                    refine lv_iadd hx hb dX6_send_135 ?_
                    refine lv_topi (fun x46 ex46 => ?_)
                    refine lv_aload_n hx hb dX6_send_136 rfl (lv_at hl 4 rfl) ?_
                    refine rs_Model_load (b := w 13) F hK hP (m5.1.1.1 0 (by decide)) ((m5.1.2.1 13 (by decide) (by decide)).1) kw_80 dX6_send_137 ?_
                    refine lv_iload hx hb dX6_send_140 (lv_at hl 0 rfl) ?_
                    refine rd_I F hK hP (m5.1.1.1 13 (by decide)) (by rw [show pN (setF (setF S 100 (w 0) 0) 100 (w 0) 0) (w 13) = 2 from (m5.1.2.1 13 (by decide) (by decide)).2, hxo]; exact vp_in_nI (by omega) (by decide)) dX6_send_142 ?_
                    refine lv_topi (fun x47 ex47 => ?_)
                    refine lv_if_le (tgt := 166) hx hb dX6_send_143 (by decide) (fun c48 => ?_) (fun c48 => ?_)
                    · refine lv_iconst (v := 0) hx hb dX6_send_166 (by decide) ?_
                      refine lv_iadd hx hb dX6_send_167 ?_
                      refine lv_topi (fun x49 ex49 => ?_)
                      refine rt_I F hK hP hD hS (m5.1.1.1 14 (by decide)) (by rw [show pN (setF (setF S 100 (w 0) 0) 100 (w 0) 0) (w 14) = 2 from (m5.1.2.1 14 (by decide) (by decide)).2, hn2]; exact vp_in_nI (by omega) (by decide)) dX6_send_168 (fun H locs hP hD hS => ?_)
                      refine lv_aload_n hx hb dX6_send_169 rfl (lv_at hl 4 rfl) ?_
                      refine rs_Model_load (b := w 13) F hK hP (m5.1.1.1 0 (by decide)) ((m5.1.2.1 13 (by decide) (by decide)).1) kw_80 dX6_send_170 ?_
                      refine lv_iload_n hx hb dX6_send_173 rfl (lv_at hl 5 rfl) ?_
                      refine lv_iload hx hb dX6_send_174 (lv_at hl 1 rfl) ?_
                      refine rt_I F hK hP hD hS (m5.1.1.1 13 (by decide)) (by rw [show pN (setX (setF (setF S 100 (w 0) 0) 100 (w 0) 0) (w 14) (upd (pX (setF (setF S 100 (w 0) 0) 100 (w 0) 0) (w 14)) n.toNatClampNeg x49)) (w 13) = 2 from (m5.1.2.1 13 (by decide) (by decide)).2, hn2]; exact vp_in_nI (by omega) (by decide)) dX6_send_176 (fun H locs hP hD hS => ?_)
                      refine lv_aload_n hx hb dX6_send_177 rfl (lv_at hl 4 rfl) ?_
                      refine rs_Model_goal (b := w 15) F hK hP (m5.1.1.1 0 (by decide)) ((m5.1.2.1 15 (by decide) (by decide)).1) kw_82 dX6_send_178 ?_
                      refine lv_iload_n hx hb dX6_send_181 rfl (lv_at hl 5 rfl) ?_
                      refine lv_iload_n hx hb dX6_send_182 rfl (lv_at hl 6 rfl) ?_
                      refine rt_I F hK hP hD hS (m5.1.1.1 15 (by decide)) (by rw [show pN (setX (setX (setF (setF S 100 (w 0) 0) 100 (w 0) 0) (w 14) (upd (pX (setF (setF S 100 (w 0) 0) 100 (w 0) 0) (w 14)) n.toNatClampNeg x49)) (w 13) (upd (pX (setX (setF (setF S 100 (w 0) 0) 100 (w 0) 0) (w 14) (upd (pX (setF (setF S 100 (w 0) 0) 100 (w 0) 0) (w 14)) n.toNatClampNeg x49)) (w 13)) n.toNatClampNeg 10)) (w 15) = 2 from (m5.1.2.1 15 (by decide) (by decide)).2, hn2]; exact vp_in_nI (by omega) (by decide)) dX6_send_183 (fun H locs hP hD hS => ?_)
                      refine lv_aload_n hx hb dX6_send_184 rfl (lv_at hl 4 rfl) ?_
                      refine rs_Model_reserve (b := w 3) F hK hP (m5.1.1.1 0 (by decide)) ((m5.1.2.1 3 (by decide) (by decide)).1) kw_69 dX6_send_185 ?_
                      refine lv_iload_n hx hb dX6_send_188 rfl (lv_at hl 6 rfl) ?_
                      refine lv_dup2_11 hx hb dX6_send_189 rfl rfl ?_
                      refine rd_I F hK hP (m5.1.1.1 3 (by decide)) (by rw [show pN (setX (setX (setX (setF (setF S 100 (w 0) 0) 100 (w 0) 0) (w 14) (upd (pX (setF (setF S 100 (w 0) 0) 100 (w 0) 0) (w 14)) n.toNatClampNeg x49)) (w 13) (upd (pX (setX (setF (setF S 100 (w 0) 0) 100 (w 0) 0) (w 14) (upd (pX (setF (setF S 100 (w 0) 0) 100 (w 0) 0) (w 14)) n.toNatClampNeg x49)) (w 13)) n.toNatClampNeg 10)) (w 15) (upd (pX (setX (setX (setF (setF S 100 (w 0) 0) 100 (w 0) 0) (w 14) (upd (pX (setF (setF S 100 (w 0) 0) 100 (w 0) 0) (w 14)) n.toNatClampNeg x49)) (w 13) (upd (pX (setX (setF (setF S 100 (w 0) 0) 100 (w 0) 0) (w 14) (upd (pX (setF (setF S 100 (w 0) 0) 100 (w 0) 0) (w 14)) n.toNatClampNeg x49)) (w 13)) n.toNatClampNeg 10)) (w 15)) n.toNatClampNeg a)) (w 3) = 6 from (m5.1.2.1 3 (by decide) (by decide)).2, hn5]; exact vp_in_nI (by omega) (by decide)) dX6_send_190 ?_
                      refine lv_topi (fun x50 ex50 => ?_)
                      refine lv_iload hx hb dX6_send_191 (lv_at hl 1 rfl) ?_
                      refine lv_isub hx hb dX6_send_193 ?_
                      refine lv_topi (fun x51 ex51 => ?_)
                      refine rt_I F hK hP hD hS (m5.1.1.1 3 (by decide)) (by rw [show pN (setX (setX (setX (setF (setF S 100 (w 0) 0) 100 (w 0) 0) (w 14) (upd (pX (setF (setF S 100 (w 0) 0) 100 (w 0) 0) (w 14)) n.toNatClampNeg x49)) (w 13) (upd (pX (setX (setF (setF S 100 (w 0) 0) 100 (w 0) 0) (w 14) (upd (pX (setF (setF S 100 (w 0) 0) 100 (w 0) 0) (w 14)) n.toNatClampNeg x49)) (w 13)) n.toNatClampNeg 10)) (w 15) (upd (pX (setX (setX (setF (setF S 100 (w 0) 0) 100 (w 0) 0) (w 14) (upd (pX (setF (setF S 100 (w 0) 0) 100 (w 0) 0) (w 14)) n.toNatClampNeg x49)) (w 13) (upd (pX (setX (setF (setF S 100 (w 0) 0) 100 (w 0) 0) (w 14) (upd (pX (setF (setF S 100 (w 0) 0) 100 (w 0) 0) (w 14)) n.toNatClampNeg x49)) (w 13)) n.toNatClampNeg 10)) (w 15)) n.toNatClampNeg a)) (w 3) = 6 from (m5.1.2.1 3 (by decide) (by decide)).2, hn5]; exact vp_in_nI (by omega) (by decide)) dX6_send_194 (fun H locs hP hD hS => ?_)
                      refine lv_aload_n hx hb dX6_send_195 rfl (lv_at hl 4 rfl) ?_
                      refine rs_Model_left (b := w 14) F hK hP (m5.1.1.1 0 (by decide)) ((m5.1.2.1 14 (by decide) (by decide)).1) kw_81 dX6_send_196 ?_
                      refine lv_iload_n hx hb dX6_send_199 rfl (lv_at hl 5 rfl) ?_
                      refine rd_I F hK hP (m5.1.1.1 14 (by decide)) (by rw [show pN (setX (setX (setX (setX (setF (setF S 100 (w 0) 0) 100 (w 0) 0) (w 14) (upd (pX (setF (setF S 100 (w 0) 0) 100 (w 0) 0) (w 14)) n.toNatClampNeg x49)) (w 13) (upd (pX (setX (setF (setF S 100 (w 0) 0) 100 (w 0) 0) (w 14) (upd (pX (setF (setF S 100 (w 0) 0) 100 (w 0) 0) (w 14)) n.toNatClampNeg x49)) (w 13)) n.toNatClampNeg 10)) (w 15) (upd (pX (setX (setX (setF (setF S 100 (w 0) 0) 100 (w 0) 0) (w 14) (upd (pX (setF (setF S 100 (w 0) 0) 100 (w 0) 0) (w 14)) n.toNatClampNeg x49)) (w 13) (upd (pX (setX (setF (setF S 100 (w 0) 0) 100 (w 0) 0) (w 14) (upd (pX (setF (setF S 100 (w 0) 0) 100 (w 0) 0) (w 14)) n.toNatClampNeg x49)) (w 13)) n.toNatClampNeg 10)) (w 15)) n.toNatClampNeg a)) (w 3) (upd (pX (setX (setX (setX (setF (setF S 100 (w 0) 0) 100 (w 0) 0) (w 14) (upd (pX (setF (setF S 100 (w 0) 0) 100 (w 0) 0) (w 14)) n.toNatClampNeg x49)) (w 13) (upd (pX (setX (setF (setF S 100 (w 0) 0) 100 (w 0) 0) (w 14) (upd (pX (setF (setF S 100 (w 0) 0) 100 (w 0) 0) (w 14)) n.toNatClampNeg x49)) (w 13)) n.toNatClampNeg 10)) (w 15) (upd (pX (setX (setX (setF (setF S 100 (w 0) 0) 100 (w 0) 0) (w 14) (upd (pX (setF (setF S 100 (w 0) 0) 100 (w 0) 0) (w 14)) n.toNatClampNeg x49)) (w 13) (upd (pX (setX (setF (setF S 100 (w 0) 0) 100 (w 0) 0) (w 14) (upd (pX (setF (setF S 100 (w 0) 0) 100 (w 0) 0) (w 14)) n.toNatClampNeg x49)) (w 13)) n.toNatClampNeg 10)) (w 15)) n.toNatClampNeg a)) (w 3)) a.toNatClampNeg x51)) (w 14) = 2 from (m5.1.2.1 14 (by decide) (by decide)).2, hn2]; exact vp_in_nI (by omega) (by decide)) dX6_send_200 ?_
                      refine lv_topi (fun x52 ex52 => ?_)
                      exact kEndI F hr rfl hlk hP hD hS (Nat.le_of_ble_eq_true rfl) (Nat.le_of_ble_eq_true rfl) dX6_send_201 ⟨_, rfl, ⟨(m5.trans (Mk.x (i := 3) (Mk.v (i := 15) (Mk.x (i := 13) (Mk.x (i := 14) (Mk.rf m5.1) (by decide) (by decide) (by decide)) (by decide) (by decide) (by decide)) (by decide) ⟨j5, (show j5 < 6 by omega), hn5⟩) (by decide) (by decide) (by decide)).1), (show pF (setF (setF S 100 (w 0) 0) 100 (w 0) 0) 106 (w 0) = pF S 106 (w 0) from ((uF_of (Or.inl (by decide))).trans ((uF_of (Or.inl (by decide))).trans rfl))), Or.inr ⟨m5_, hm5, (uF_of (Or.inl (by decide))).symm.trans hmM5, j5, hj5, hn5⟩⟩⟩
                    · refine lv_aload_n hx hb dX6_send_146 rfl (lv_at hl 4 rfl) ?_
                      refine rs_Model_aisle (b := w 1) F hK hP (m5.1.1.1 0 (by decide)) ((m5.1.2.1 1 (by decide) (by decide)).1) kw_67 dX6_send_147 ?_
                      refine lv_aload_n hx hb dX6_send_150 rfl (lv_at hl 4 rfl) ?_
                      refine rs_Model_goal (b := w 15) F hK hP (m5.1.1.1 0 (by decide)) ((m5.1.2.1 15 (by decide) (by decide)).1) kw_82 dX6_send_151 ?_
                      refine lv_iload hx hb dX6_send_154 (lv_at hl 0 rfl) ?_
                      refine rd_I F hK hP (m5.1.1.1 15 (by decide)) (by rw [show pN (setF (setF S 100 (w 0) 0) 100 (w 0) 0) (w 15) = 2 from (m5.1.2.1 15 (by decide) (by decide)).2, hxo]; exact vp_in_nI (by omega) (by decide)) dX6_send_156 ?_
                      refine lv_topi (fun x53 ex53 => ?_)
                      obtain ⟨jv54, hjv54, hxv54⟩ : ∃ q, q < 6 ∧ x53 = nI q := by rw [ex53]; exact m5.1.2.2.2.2.2.1 _
                      refine rd_I F hK hP (m5.1.1.1 1 (by decide)) (by rw [show pN (setF (setF S 100 (w 0) 0) 100 (w 0) 0) (w 1) = 6 from (m5.1.2.1 1 (by decide) (by decide)).2, hxv54]; exact vp_in_nI (by omega) (by decide)) dX6_send_157 ?_
                      refine lv_topi (fun x55 ex55 => ?_)
                      refine lv_iload_n hx hb dX6_send_158 rfl (lv_at hl 3 rfl) ?_
                      refine lv_icmp_ne (tgt := 166) hx hb dX6_send_159 (by decide) (fun c56 => ?_) (fun c56 => ?_)
                      · refine lv_iconst (v := 0) hx hb dX6_send_166 (by decide) ?_
                        refine lv_iadd hx hb dX6_send_167 ?_
                        refine lv_topi (fun x57 ex57 => ?_)
                        refine rt_I F hK hP hD hS (m5.1.1.1 14 (by decide)) (by rw [show pN (setF (setF S 100 (w 0) 0) 100 (w 0) 0) (w 14) = 2 from (m5.1.2.1 14 (by decide) (by decide)).2, hn2]; exact vp_in_nI (by omega) (by decide)) dX6_send_168 (fun H locs hP hD hS => ?_)
                        refine lv_aload_n hx hb dX6_send_169 rfl (lv_at hl 4 rfl) ?_
                        refine rs_Model_load (b := w 13) F hK hP (m5.1.1.1 0 (by decide)) ((m5.1.2.1 13 (by decide) (by decide)).1) kw_80 dX6_send_170 ?_
                        refine lv_iload_n hx hb dX6_send_173 rfl (lv_at hl 5 rfl) ?_
                        refine lv_iload hx hb dX6_send_174 (lv_at hl 1 rfl) ?_
                        refine rt_I F hK hP hD hS (m5.1.1.1 13 (by decide)) (by rw [show pN (setX (setF (setF S 100 (w 0) 0) 100 (w 0) 0) (w 14) (upd (pX (setF (setF S 100 (w 0) 0) 100 (w 0) 0) (w 14)) n.toNatClampNeg x57)) (w 13) = 2 from (m5.1.2.1 13 (by decide) (by decide)).2, hn2]; exact vp_in_nI (by omega) (by decide)) dX6_send_176 (fun H locs hP hD hS => ?_)
                        refine lv_aload_n hx hb dX6_send_177 rfl (lv_at hl 4 rfl) ?_
                        refine rs_Model_goal (b := w 15) F hK hP (m5.1.1.1 0 (by decide)) ((m5.1.2.1 15 (by decide) (by decide)).1) kw_82 dX6_send_178 ?_
                        refine lv_iload_n hx hb dX6_send_181 rfl (lv_at hl 5 rfl) ?_
                        refine lv_iload_n hx hb dX6_send_182 rfl (lv_at hl 6 rfl) ?_
                        refine rt_I F hK hP hD hS (m5.1.1.1 15 (by decide)) (by rw [show pN (setX (setX (setF (setF S 100 (w 0) 0) 100 (w 0) 0) (w 14) (upd (pX (setF (setF S 100 (w 0) 0) 100 (w 0) 0) (w 14)) n.toNatClampNeg x57)) (w 13) (upd (pX (setX (setF (setF S 100 (w 0) 0) 100 (w 0) 0) (w 14) (upd (pX (setF (setF S 100 (w 0) 0) 100 (w 0) 0) (w 14)) n.toNatClampNeg x57)) (w 13)) n.toNatClampNeg 10)) (w 15) = 2 from (m5.1.2.1 15 (by decide) (by decide)).2, hn2]; exact vp_in_nI (by omega) (by decide)) dX6_send_183 (fun H locs hP hD hS => ?_)
                        refine lv_aload_n hx hb dX6_send_184 rfl (lv_at hl 4 rfl) ?_
                        refine rs_Model_reserve (b := w 3) F hK hP (m5.1.1.1 0 (by decide)) ((m5.1.2.1 3 (by decide) (by decide)).1) kw_69 dX6_send_185 ?_
                        refine lv_iload_n hx hb dX6_send_188 rfl (lv_at hl 6 rfl) ?_
                        refine lv_dup2_11 hx hb dX6_send_189 rfl rfl ?_
                        refine rd_I F hK hP (m5.1.1.1 3 (by decide)) (by rw [show pN (setX (setX (setX (setF (setF S 100 (w 0) 0) 100 (w 0) 0) (w 14) (upd (pX (setF (setF S 100 (w 0) 0) 100 (w 0) 0) (w 14)) n.toNatClampNeg x57)) (w 13) (upd (pX (setX (setF (setF S 100 (w 0) 0) 100 (w 0) 0) (w 14) (upd (pX (setF (setF S 100 (w 0) 0) 100 (w 0) 0) (w 14)) n.toNatClampNeg x57)) (w 13)) n.toNatClampNeg 10)) (w 15) (upd (pX (setX (setX (setF (setF S 100 (w 0) 0) 100 (w 0) 0) (w 14) (upd (pX (setF (setF S 100 (w 0) 0) 100 (w 0) 0) (w 14)) n.toNatClampNeg x57)) (w 13) (upd (pX (setX (setF (setF S 100 (w 0) 0) 100 (w 0) 0) (w 14) (upd (pX (setF (setF S 100 (w 0) 0) 100 (w 0) 0) (w 14)) n.toNatClampNeg x57)) (w 13)) n.toNatClampNeg 10)) (w 15)) n.toNatClampNeg a)) (w 3) = 6 from (m5.1.2.1 3 (by decide) (by decide)).2, hn5]; exact vp_in_nI (by omega) (by decide)) dX6_send_190 ?_
                        refine lv_topi (fun x58 ex58 => ?_)
                        refine lv_iload hx hb dX6_send_191 (lv_at hl 1 rfl) ?_
                        refine lv_isub hx hb dX6_send_193 ?_
                        refine lv_topi (fun x59 ex59 => ?_)
                        refine rt_I F hK hP hD hS (m5.1.1.1 3 (by decide)) (by rw [show pN (setX (setX (setX (setF (setF S 100 (w 0) 0) 100 (w 0) 0) (w 14) (upd (pX (setF (setF S 100 (w 0) 0) 100 (w 0) 0) (w 14)) n.toNatClampNeg x57)) (w 13) (upd (pX (setX (setF (setF S 100 (w 0) 0) 100 (w 0) 0) (w 14) (upd (pX (setF (setF S 100 (w 0) 0) 100 (w 0) 0) (w 14)) n.toNatClampNeg x57)) (w 13)) n.toNatClampNeg 10)) (w 15) (upd (pX (setX (setX (setF (setF S 100 (w 0) 0) 100 (w 0) 0) (w 14) (upd (pX (setF (setF S 100 (w 0) 0) 100 (w 0) 0) (w 14)) n.toNatClampNeg x57)) (w 13) (upd (pX (setX (setF (setF S 100 (w 0) 0) 100 (w 0) 0) (w 14) (upd (pX (setF (setF S 100 (w 0) 0) 100 (w 0) 0) (w 14)) n.toNatClampNeg x57)) (w 13)) n.toNatClampNeg 10)) (w 15)) n.toNatClampNeg a)) (w 3) = 6 from (m5.1.2.1 3 (by decide) (by decide)).2, hn5]; exact vp_in_nI (by omega) (by decide)) dX6_send_194 (fun H locs hP hD hS => ?_)
                        refine lv_aload_n hx hb dX6_send_195 rfl (lv_at hl 4 rfl) ?_
                        refine rs_Model_left (b := w 14) F hK hP (m5.1.1.1 0 (by decide)) ((m5.1.2.1 14 (by decide) (by decide)).1) kw_81 dX6_send_196 ?_
                        refine lv_iload_n hx hb dX6_send_199 rfl (lv_at hl 5 rfl) ?_
                        refine rd_I F hK hP (m5.1.1.1 14 (by decide)) (by rw [show pN (setX (setX (setX (setX (setF (setF S 100 (w 0) 0) 100 (w 0) 0) (w 14) (upd (pX (setF (setF S 100 (w 0) 0) 100 (w 0) 0) (w 14)) n.toNatClampNeg x57)) (w 13) (upd (pX (setX (setF (setF S 100 (w 0) 0) 100 (w 0) 0) (w 14) (upd (pX (setF (setF S 100 (w 0) 0) 100 (w 0) 0) (w 14)) n.toNatClampNeg x57)) (w 13)) n.toNatClampNeg 10)) (w 15) (upd (pX (setX (setX (setF (setF S 100 (w 0) 0) 100 (w 0) 0) (w 14) (upd (pX (setF (setF S 100 (w 0) 0) 100 (w 0) 0) (w 14)) n.toNatClampNeg x57)) (w 13) (upd (pX (setX (setF (setF S 100 (w 0) 0) 100 (w 0) 0) (w 14) (upd (pX (setF (setF S 100 (w 0) 0) 100 (w 0) 0) (w 14)) n.toNatClampNeg x57)) (w 13)) n.toNatClampNeg 10)) (w 15)) n.toNatClampNeg a)) (w 3) (upd (pX (setX (setX (setX (setF (setF S 100 (w 0) 0) 100 (w 0) 0) (w 14) (upd (pX (setF (setF S 100 (w 0) 0) 100 (w 0) 0) (w 14)) n.toNatClampNeg x57)) (w 13) (upd (pX (setX (setF (setF S 100 (w 0) 0) 100 (w 0) 0) (w 14) (upd (pX (setF (setF S 100 (w 0) 0) 100 (w 0) 0) (w 14)) n.toNatClampNeg x57)) (w 13)) n.toNatClampNeg 10)) (w 15) (upd (pX (setX (setX (setF (setF S 100 (w 0) 0) 100 (w 0) 0) (w 14) (upd (pX (setF (setF S 100 (w 0) 0) 100 (w 0) 0) (w 14)) n.toNatClampNeg x57)) (w 13) (upd (pX (setX (setF (setF S 100 (w 0) 0) 100 (w 0) 0) (w 14) (upd (pX (setF (setF S 100 (w 0) 0) 100 (w 0) 0) (w 14)) n.toNatClampNeg x57)) (w 13)) n.toNatClampNeg 10)) (w 15)) n.toNatClampNeg a)) (w 3)) a.toNatClampNeg x59)) (w 14) = 2 from (m5.1.2.1 14 (by decide) (by decide)).2, hn2]; exact vp_in_nI (by omega) (by decide)) dX6_send_200 ?_
                        refine lv_topi (fun x60 ex60 => ?_)
                        exact kEndI F hr rfl hlk hP hD hS (Nat.le_of_ble_eq_true rfl) (Nat.le_of_ble_eq_true rfl) dX6_send_201 ⟨_, rfl, ⟨(m5.trans (Mk.x (i := 3) (Mk.v (i := 15) (Mk.x (i := 13) (Mk.x (i := 14) (Mk.rf m5.1) (by decide) (by decide) (by decide)) (by decide) (by decide) (by decide)) (by decide) ⟨j5, (show j5 < 6 by omega), hn5⟩) (by decide) (by decide) (by decide)).1), (show pF (setF (setF S 100 (w 0) 0) 100 (w 0) 0) 106 (w 0) = pF S 106 (w 0) from ((uF_of (Or.inl (by decide))).trans ((uF_of (Or.inl (by decide))).trans rfl))), Or.inr ⟨m5_, hm5, (uF_of (Or.inl (by decide))).symm.trans hmM5, j5, hj5, hn5⟩⟩⟩
                      · refine lv_iconst (v := 4) hx hb dX6_send_162 (by decide) ?_
                        refine lv_goto (tgt := 167) hx hb dX6_send_163 (by decide) ?_
                        refine lv_iadd hx hb dX6_send_167 ?_
                        refine lv_topi (fun x61 ex61 => ?_)
                        refine rt_I F hK hP hD hS (m5.1.1.1 14 (by decide)) (by rw [show pN (setF (setF S 100 (w 0) 0) 100 (w 0) 0) (w 14) = 2 from (m5.1.2.1 14 (by decide) (by decide)).2, hn2]; exact vp_in_nI (by omega) (by decide)) dX6_send_168 (fun H locs hP hD hS => ?_)
                        refine lv_aload_n hx hb dX6_send_169 rfl (lv_at hl 4 rfl) ?_
                        refine rs_Model_load (b := w 13) F hK hP (m5.1.1.1 0 (by decide)) ((m5.1.2.1 13 (by decide) (by decide)).1) kw_80 dX6_send_170 ?_
                        refine lv_iload_n hx hb dX6_send_173 rfl (lv_at hl 5 rfl) ?_
                        refine lv_iload hx hb dX6_send_174 (lv_at hl 1 rfl) ?_
                        refine rt_I F hK hP hD hS (m5.1.1.1 13 (by decide)) (by rw [show pN (setX (setF (setF S 100 (w 0) 0) 100 (w 0) 0) (w 14) (upd (pX (setF (setF S 100 (w 0) 0) 100 (w 0) 0) (w 14)) n.toNatClampNeg x61)) (w 13) = 2 from (m5.1.2.1 13 (by decide) (by decide)).2, hn2]; exact vp_in_nI (by omega) (by decide)) dX6_send_176 (fun H locs hP hD hS => ?_)
                        refine lv_aload_n hx hb dX6_send_177 rfl (lv_at hl 4 rfl) ?_
                        refine rs_Model_goal (b := w 15) F hK hP (m5.1.1.1 0 (by decide)) ((m5.1.2.1 15 (by decide) (by decide)).1) kw_82 dX6_send_178 ?_
                        refine lv_iload_n hx hb dX6_send_181 rfl (lv_at hl 5 rfl) ?_
                        refine lv_iload_n hx hb dX6_send_182 rfl (lv_at hl 6 rfl) ?_
                        refine rt_I F hK hP hD hS (m5.1.1.1 15 (by decide)) (by rw [show pN (setX (setX (setF (setF S 100 (w 0) 0) 100 (w 0) 0) (w 14) (upd (pX (setF (setF S 100 (w 0) 0) 100 (w 0) 0) (w 14)) n.toNatClampNeg x61)) (w 13) (upd (pX (setX (setF (setF S 100 (w 0) 0) 100 (w 0) 0) (w 14) (upd (pX (setF (setF S 100 (w 0) 0) 100 (w 0) 0) (w 14)) n.toNatClampNeg x61)) (w 13)) n.toNatClampNeg 10)) (w 15) = 2 from (m5.1.2.1 15 (by decide) (by decide)).2, hn2]; exact vp_in_nI (by omega) (by decide)) dX6_send_183 (fun H locs hP hD hS => ?_)
                        refine lv_aload_n hx hb dX6_send_184 rfl (lv_at hl 4 rfl) ?_
                        refine rs_Model_reserve (b := w 3) F hK hP (m5.1.1.1 0 (by decide)) ((m5.1.2.1 3 (by decide) (by decide)).1) kw_69 dX6_send_185 ?_
                        refine lv_iload_n hx hb dX6_send_188 rfl (lv_at hl 6 rfl) ?_
                        refine lv_dup2_11 hx hb dX6_send_189 rfl rfl ?_
                        refine rd_I F hK hP (m5.1.1.1 3 (by decide)) (by rw [show pN (setX (setX (setX (setF (setF S 100 (w 0) 0) 100 (w 0) 0) (w 14) (upd (pX (setF (setF S 100 (w 0) 0) 100 (w 0) 0) (w 14)) n.toNatClampNeg x61)) (w 13) (upd (pX (setX (setF (setF S 100 (w 0) 0) 100 (w 0) 0) (w 14) (upd (pX (setF (setF S 100 (w 0) 0) 100 (w 0) 0) (w 14)) n.toNatClampNeg x61)) (w 13)) n.toNatClampNeg 10)) (w 15) (upd (pX (setX (setX (setF (setF S 100 (w 0) 0) 100 (w 0) 0) (w 14) (upd (pX (setF (setF S 100 (w 0) 0) 100 (w 0) 0) (w 14)) n.toNatClampNeg x61)) (w 13) (upd (pX (setX (setF (setF S 100 (w 0) 0) 100 (w 0) 0) (w 14) (upd (pX (setF (setF S 100 (w 0) 0) 100 (w 0) 0) (w 14)) n.toNatClampNeg x61)) (w 13)) n.toNatClampNeg 10)) (w 15)) n.toNatClampNeg a)) (w 3) = 6 from (m5.1.2.1 3 (by decide) (by decide)).2, hn5]; exact vp_in_nI (by omega) (by decide)) dX6_send_190 ?_
                        refine lv_topi (fun x62 ex62 => ?_)
                        refine lv_iload hx hb dX6_send_191 (lv_at hl 1 rfl) ?_
                        refine lv_isub hx hb dX6_send_193 ?_
                        refine lv_topi (fun x63 ex63 => ?_)
                        refine rt_I F hK hP hD hS (m5.1.1.1 3 (by decide)) (by rw [show pN (setX (setX (setX (setF (setF S 100 (w 0) 0) 100 (w 0) 0) (w 14) (upd (pX (setF (setF S 100 (w 0) 0) 100 (w 0) 0) (w 14)) n.toNatClampNeg x61)) (w 13) (upd (pX (setX (setF (setF S 100 (w 0) 0) 100 (w 0) 0) (w 14) (upd (pX (setF (setF S 100 (w 0) 0) 100 (w 0) 0) (w 14)) n.toNatClampNeg x61)) (w 13)) n.toNatClampNeg 10)) (w 15) (upd (pX (setX (setX (setF (setF S 100 (w 0) 0) 100 (w 0) 0) (w 14) (upd (pX (setF (setF S 100 (w 0) 0) 100 (w 0) 0) (w 14)) n.toNatClampNeg x61)) (w 13) (upd (pX (setX (setF (setF S 100 (w 0) 0) 100 (w 0) 0) (w 14) (upd (pX (setF (setF S 100 (w 0) 0) 100 (w 0) 0) (w 14)) n.toNatClampNeg x61)) (w 13)) n.toNatClampNeg 10)) (w 15)) n.toNatClampNeg a)) (w 3) = 6 from (m5.1.2.1 3 (by decide) (by decide)).2, hn5]; exact vp_in_nI (by omega) (by decide)) dX6_send_194 (fun H locs hP hD hS => ?_)
                        refine lv_aload_n hx hb dX6_send_195 rfl (lv_at hl 4 rfl) ?_
                        refine rs_Model_left (b := w 14) F hK hP (m5.1.1.1 0 (by decide)) ((m5.1.2.1 14 (by decide) (by decide)).1) kw_81 dX6_send_196 ?_
                        refine lv_iload_n hx hb dX6_send_199 rfl (lv_at hl 5 rfl) ?_
                        refine rd_I F hK hP (m5.1.1.1 14 (by decide)) (by rw [show pN (setX (setX (setX (setX (setF (setF S 100 (w 0) 0) 100 (w 0) 0) (w 14) (upd (pX (setF (setF S 100 (w 0) 0) 100 (w 0) 0) (w 14)) n.toNatClampNeg x61)) (w 13) (upd (pX (setX (setF (setF S 100 (w 0) 0) 100 (w 0) 0) (w 14) (upd (pX (setF (setF S 100 (w 0) 0) 100 (w 0) 0) (w 14)) n.toNatClampNeg x61)) (w 13)) n.toNatClampNeg 10)) (w 15) (upd (pX (setX (setX (setF (setF S 100 (w 0) 0) 100 (w 0) 0) (w 14) (upd (pX (setF (setF S 100 (w 0) 0) 100 (w 0) 0) (w 14)) n.toNatClampNeg x61)) (w 13) (upd (pX (setX (setF (setF S 100 (w 0) 0) 100 (w 0) 0) (w 14) (upd (pX (setF (setF S 100 (w 0) 0) 100 (w 0) 0) (w 14)) n.toNatClampNeg x61)) (w 13)) n.toNatClampNeg 10)) (w 15)) n.toNatClampNeg a)) (w 3) (upd (pX (setX (setX (setX (setF (setF S 100 (w 0) 0) 100 (w 0) 0) (w 14) (upd (pX (setF (setF S 100 (w 0) 0) 100 (w 0) 0) (w 14)) n.toNatClampNeg x61)) (w 13) (upd (pX (setX (setF (setF S 100 (w 0) 0) 100 (w 0) 0) (w 14) (upd (pX (setF (setF S 100 (w 0) 0) 100 (w 0) 0) (w 14)) n.toNatClampNeg x61)) (w 13)) n.toNatClampNeg 10)) (w 15) (upd (pX (setX (setX (setF (setF S 100 (w 0) 0) 100 (w 0) 0) (w 14) (upd (pX (setF (setF S 100 (w 0) 0) 100 (w 0) 0) (w 14)) n.toNatClampNeg x61)) (w 13) (upd (pX (setX (setF (setF S 100 (w 0) 0) 100 (w 0) 0) (w 14) (upd (pX (setF (setF S 100 (w 0) 0) 100 (w 0) 0) (w 14)) n.toNatClampNeg x61)) (w 13)) n.toNatClampNeg 10)) (w 15)) n.toNatClampNeg a)) (w 3)) a.toNatClampNeg x63)) (w 14) = 2 from (m5.1.2.1 14 (by decide) (by decide)).2, hn2]; exact vp_in_nI (by omega) (by decide)) dX6_send_200 ?_
                        refine lv_topi (fun x64 ex64 => ?_)
                        exact kEndI F hr rfl hlk hP hD hS (Nat.le_of_ble_eq_true rfl) (Nat.le_of_ble_eq_true rfl) dX6_send_201 ⟨_, rfl, ⟨(m5.trans (Mk.x (i := 3) (Mk.v (i := 15) (Mk.x (i := 13) (Mk.x (i := 14) (Mk.rf m5.1) (by decide) (by decide) (by decide)) (by decide) (by decide) (by decide)) (by decide) ⟨j5, (show j5 < 6 by omega), hn5⟩) (by decide) (by decide) (by decide)).1), (show pF (setF (setF S 100 (w 0) 0) 100 (w 0) 0) 106 (w 0) = pF S 106 (w 0) from ((uF_of (Or.inl (by decide))).trans ((uF_of (Or.inl (by decide))).trans rfl))), Or.inr ⟨m5_, hm5, (uF_of (Or.inl (by decide))).symm.trans hmM5, j5, hj5, hn5⟩⟩⟩
                · refine lv_aload_n hx hb dX6_send_99 rfl (lv_at hl 3 rfl) ?_
                  refine lv_iconst (v := 4) hx hb dX6_send_100 (by decide) ?_
                  refine kcallI (kV (n := 1) (As := [.int 4]) (rest := []) (b := (w 0)) (C := RX6) F hE hK hP hD hS hA (c_X6_fails l hl0 g e0 (setF (setF S 100 (w 0) 0) 100 (w 0) 0) _ (w 0) 4 (m5.1.1.1 0 (by decide))) (rr_Model hK hP (m5.1.1.1 0 (by decide))) kw_183 kw_184 kw_185 kw_5 kw_186 (by decide +kernel) ⟨Nat.le_of_ble_eq_true rfl, Nat.le_of_ble_eq_true rfl⟩ rfl hl.1 rfl (Nat.le_of_ble_eq_true rfl) dX6_send_101 ⟨Nat.le_of_ble_eq_true rfl, Nat.le_of_ble_eq_true rfl⟩) rfl hD hS hA (fun _ _ _ _ _ h => False.elim h) (fun r65 T65 H locs hp hP hD hS => ?_)
                  obtain ⟨hT, hr66⟩ := hp
                  subst hT
                  have m66 : Mr w S (setF (setF (setF S 100 (w 0) 0) 100 (w 0) 0) 100 (w 0) 4) := m5.thr
                  subst hr66
                  exact kEndI F hr rfl hlk hP hD hS (Nat.le_of_ble_eq_true rfl) (Nat.le_of_ble_eq_true rfl) dX6_send_104 ⟨_, rfl, ⟨m66, (show pF (setF (setF (setF S 100 (w 0) 0) 100 (w 0) 0) 100 (w 0) 4) 106 (w 0) = pF S 106 (w 0) from ((uF_of (Or.inl (by decide))).trans ((uF_of (Or.inl (by decide))).trans ((uF_of (Or.inl (by decide))).trans rfl)))), Or.inr ⟨m5_, hm5, (uF_of (Or.inl (by decide))).symm.trans hmM5, j5, hj5, hn5⟩⟩⟩
              · refine lv_iload hx hb dX6_send_81 (lv_at hl 0 rfl) ?_
                refine lv_goto (tgt := 92) hx hb dX6_send_83 (by decide) ?_
                refine lv_istore (lv' := [(5, .int x15), (4, .int x15), (3, .int x7), (0, .ref (w 0)), (1, .int n), (2, .int a)]) hx hb dX6_send_92 hl (by decide) rfl (fun ls hl => ?_)
                refine lv_iload hx hb dX6_send_94 (lv_at hl 0 rfl) ?_
                refine lv_if_ne (tgt := 105) hx hb dX6_send_96 (by decide) (fun c67 => ?_) (fun c67 => ?_)
                · refine lv_iload hx hb dX6_send_105 (lv_at hl 0 rfl) ?_
                  refine lv_bipush (v := 10) hx hb dX6_send_107 (by decide) ?_
                  refine lv_icmp_le (tgt := 116) hx hb dX6_send_109 (by decide) (fun c68 => ?_) (fun c68 => ?_)
                  · refine lv_iconst (v := 1) hx hb dX6_send_116 (by decide) ?_
                    refine lv_iload_n hx hb dX6_send_117 rfl (lv_at hl 4 rfl) ?_
                    refine lv_isub hx hb dX6_send_118 ?_
                    refine lv_topi (fun x69 ex69 => ?_)
                    obtain ⟨jo, hjo, hxo⟩ := kother hj2 hn2 ex69
                    refine lv_istore (lv' := [(6, .int x69), (5, .int x15), (4, .int x15), (3, .int x7), (0, .ref (w 0)), (1, .int n), (2, .int a)]) hx hb dX6_send_119 hl (by decide) rfl (fun ls hl => ?_)
                    refine lv_aload_n hx hb dX6_send_121 rfl (lv_at hl 4 rfl) ?_
                    refine rs_Model_left (b := w 14) F hK hP (m5.1.1.1 0 (by decide)) ((m5.1.2.1 14 (by decide) (by decide)).1) kw_81 dX6_send_122 ?_
                    refine lv_iload_n hx hb dX6_send_125 rfl (lv_at hl 5 rfl) ?_
                    refine lv_iconst (v := 3) hx hb dX6_send_126 (by decide) ?_
                    refine lv_iconst (v := 2) hx hb dX6_send_127 (by decide) ?_
                    refine lv_aload_n hx hb dX6_send_128 rfl (lv_at hl 4 rfl) ?_
                    refine rs_Model_pickers (b := w 11) F hK hP (m5.1.1.1 0 (by decide)) ((m5.1.2.1 11 (by decide) (by decide)).1) kw_78 dX6_send_129 ?_
                    refine lv_iload_n hx hb dX6_send_132 rfl (lv_at hl 3 rfl) ?_
                    refine rd_I F hK hP (m5.1.1.1 11 (by decide)) (by rw [show pN (setF (setF S 100 (w 0) 0) 100 (w 0) 0) (w 11) = 4 from (m5.1.2.1 11 (by decide) (by decide)).2, hxv8]; exact vp_in_nI (by omega) (by decide)) dX6_send_133 ?_
                    refine lv_topi (fun x70 ex70 => ?_)
                    refine lv_imul hx hb dX6_send_134 ?_
                    refine lv_topi (fun x71 ex71 => ?_)
                    refine lv_iadd hx hb dX6_send_135 ?_
                    refine lv_topi (fun x72 ex72 => ?_)
                    refine lv_aload_n hx hb dX6_send_136 rfl (lv_at hl 4 rfl) ?_
                    refine rs_Model_load (b := w 13) F hK hP (m5.1.1.1 0 (by decide)) ((m5.1.2.1 13 (by decide) (by decide)).1) kw_80 dX6_send_137 ?_
                    refine lv_iload hx hb dX6_send_140 (lv_at hl 0 rfl) ?_
                    refine rd_I F hK hP (m5.1.1.1 13 (by decide)) (by rw [show pN (setF (setF S 100 (w 0) 0) 100 (w 0) 0) (w 13) = 2 from (m5.1.2.1 13 (by decide) (by decide)).2, hxo]; exact vp_in_nI (by omega) (by decide)) dX6_send_142 ?_
                    refine lv_topi (fun x73 ex73 => ?_)
                    refine lv_if_le (tgt := 166) hx hb dX6_send_143 (by decide) (fun c74 => ?_) (fun c74 => ?_)
                    · refine lv_iconst (v := 0) hx hb dX6_send_166 (by decide) ?_
                      refine lv_iadd hx hb dX6_send_167 ?_
                      refine lv_topi (fun x75 ex75 => ?_)
                      refine rt_I F hK hP hD hS (m5.1.1.1 14 (by decide)) (by rw [show pN (setF (setF S 100 (w 0) 0) 100 (w 0) 0) (w 14) = 2 from (m5.1.2.1 14 (by decide) (by decide)).2, hn2]; exact vp_in_nI (by omega) (by decide)) dX6_send_168 (fun H locs hP hD hS => ?_)
                      refine lv_aload_n hx hb dX6_send_169 rfl (lv_at hl 4 rfl) ?_
                      refine rs_Model_load (b := w 13) F hK hP (m5.1.1.1 0 (by decide)) ((m5.1.2.1 13 (by decide) (by decide)).1) kw_80 dX6_send_170 ?_
                      refine lv_iload_n hx hb dX6_send_173 rfl (lv_at hl 5 rfl) ?_
                      refine lv_iload hx hb dX6_send_174 (lv_at hl 1 rfl) ?_
                      refine rt_I F hK hP hD hS (m5.1.1.1 13 (by decide)) (by rw [show pN (setX (setF (setF S 100 (w 0) 0) 100 (w 0) 0) (w 14) (upd (pX (setF (setF S 100 (w 0) 0) 100 (w 0) 0) (w 14)) n.toNatClampNeg x75)) (w 13) = 2 from (m5.1.2.1 13 (by decide) (by decide)).2, hn2]; exact vp_in_nI (by omega) (by decide)) dX6_send_176 (fun H locs hP hD hS => ?_)
                      refine lv_aload_n hx hb dX6_send_177 rfl (lv_at hl 4 rfl) ?_
                      refine rs_Model_goal (b := w 15) F hK hP (m5.1.1.1 0 (by decide)) ((m5.1.2.1 15 (by decide) (by decide)).1) kw_82 dX6_send_178 ?_
                      refine lv_iload_n hx hb dX6_send_181 rfl (lv_at hl 5 rfl) ?_
                      refine lv_iload_n hx hb dX6_send_182 rfl (lv_at hl 6 rfl) ?_
                      refine rt_I F hK hP hD hS (m5.1.1.1 15 (by decide)) (by rw [show pN (setX (setX (setF (setF S 100 (w 0) 0) 100 (w 0) 0) (w 14) (upd (pX (setF (setF S 100 (w 0) 0) 100 (w 0) 0) (w 14)) n.toNatClampNeg x75)) (w 13) (upd (pX (setX (setF (setF S 100 (w 0) 0) 100 (w 0) 0) (w 14) (upd (pX (setF (setF S 100 (w 0) 0) 100 (w 0) 0) (w 14)) n.toNatClampNeg x75)) (w 13)) n.toNatClampNeg x15)) (w 15) = 2 from (m5.1.2.1 15 (by decide) (by decide)).2, hn2]; exact vp_in_nI (by omega) (by decide)) dX6_send_183 (fun H locs hP hD hS => ?_)
                      refine lv_aload_n hx hb dX6_send_184 rfl (lv_at hl 4 rfl) ?_
                      refine rs_Model_reserve (b := w 3) F hK hP (m5.1.1.1 0 (by decide)) ((m5.1.2.1 3 (by decide) (by decide)).1) kw_69 dX6_send_185 ?_
                      refine lv_iload_n hx hb dX6_send_188 rfl (lv_at hl 6 rfl) ?_
                      refine lv_dup2_11 hx hb dX6_send_189 rfl rfl ?_
                      refine rd_I F hK hP (m5.1.1.1 3 (by decide)) (by rw [show pN (setX (setX (setX (setF (setF S 100 (w 0) 0) 100 (w 0) 0) (w 14) (upd (pX (setF (setF S 100 (w 0) 0) 100 (w 0) 0) (w 14)) n.toNatClampNeg x75)) (w 13) (upd (pX (setX (setF (setF S 100 (w 0) 0) 100 (w 0) 0) (w 14) (upd (pX (setF (setF S 100 (w 0) 0) 100 (w 0) 0) (w 14)) n.toNatClampNeg x75)) (w 13)) n.toNatClampNeg x15)) (w 15) (upd (pX (setX (setX (setF (setF S 100 (w 0) 0) 100 (w 0) 0) (w 14) (upd (pX (setF (setF S 100 (w 0) 0) 100 (w 0) 0) (w 14)) n.toNatClampNeg x75)) (w 13) (upd (pX (setX (setF (setF S 100 (w 0) 0) 100 (w 0) 0) (w 14) (upd (pX (setF (setF S 100 (w 0) 0) 100 (w 0) 0) (w 14)) n.toNatClampNeg x75)) (w 13)) n.toNatClampNeg x15)) (w 15)) n.toNatClampNeg a)) (w 3) = 6 from (m5.1.2.1 3 (by decide) (by decide)).2, hn5]; exact vp_in_nI (by omega) (by decide)) dX6_send_190 ?_
                      refine lv_topi (fun x76 ex76 => ?_)
                      refine lv_iload hx hb dX6_send_191 (lv_at hl 1 rfl) ?_
                      refine lv_isub hx hb dX6_send_193 ?_
                      refine lv_topi (fun x77 ex77 => ?_)
                      refine rt_I F hK hP hD hS (m5.1.1.1 3 (by decide)) (by rw [show pN (setX (setX (setX (setF (setF S 100 (w 0) 0) 100 (w 0) 0) (w 14) (upd (pX (setF (setF S 100 (w 0) 0) 100 (w 0) 0) (w 14)) n.toNatClampNeg x75)) (w 13) (upd (pX (setX (setF (setF S 100 (w 0) 0) 100 (w 0) 0) (w 14) (upd (pX (setF (setF S 100 (w 0) 0) 100 (w 0) 0) (w 14)) n.toNatClampNeg x75)) (w 13)) n.toNatClampNeg x15)) (w 15) (upd (pX (setX (setX (setF (setF S 100 (w 0) 0) 100 (w 0) 0) (w 14) (upd (pX (setF (setF S 100 (w 0) 0) 100 (w 0) 0) (w 14)) n.toNatClampNeg x75)) (w 13) (upd (pX (setX (setF (setF S 100 (w 0) 0) 100 (w 0) 0) (w 14) (upd (pX (setF (setF S 100 (w 0) 0) 100 (w 0) 0) (w 14)) n.toNatClampNeg x75)) (w 13)) n.toNatClampNeg x15)) (w 15)) n.toNatClampNeg a)) (w 3) = 6 from (m5.1.2.1 3 (by decide) (by decide)).2, hn5]; exact vp_in_nI (by omega) (by decide)) dX6_send_194 (fun H locs hP hD hS => ?_)
                      refine lv_aload_n hx hb dX6_send_195 rfl (lv_at hl 4 rfl) ?_
                      refine rs_Model_left (b := w 14) F hK hP (m5.1.1.1 0 (by decide)) ((m5.1.2.1 14 (by decide) (by decide)).1) kw_81 dX6_send_196 ?_
                      refine lv_iload_n hx hb dX6_send_199 rfl (lv_at hl 5 rfl) ?_
                      refine rd_I F hK hP (m5.1.1.1 14 (by decide)) (by rw [show pN (setX (setX (setX (setX (setF (setF S 100 (w 0) 0) 100 (w 0) 0) (w 14) (upd (pX (setF (setF S 100 (w 0) 0) 100 (w 0) 0) (w 14)) n.toNatClampNeg x75)) (w 13) (upd (pX (setX (setF (setF S 100 (w 0) 0) 100 (w 0) 0) (w 14) (upd (pX (setF (setF S 100 (w 0) 0) 100 (w 0) 0) (w 14)) n.toNatClampNeg x75)) (w 13)) n.toNatClampNeg x15)) (w 15) (upd (pX (setX (setX (setF (setF S 100 (w 0) 0) 100 (w 0) 0) (w 14) (upd (pX (setF (setF S 100 (w 0) 0) 100 (w 0) 0) (w 14)) n.toNatClampNeg x75)) (w 13) (upd (pX (setX (setF (setF S 100 (w 0) 0) 100 (w 0) 0) (w 14) (upd (pX (setF (setF S 100 (w 0) 0) 100 (w 0) 0) (w 14)) n.toNatClampNeg x75)) (w 13)) n.toNatClampNeg x15)) (w 15)) n.toNatClampNeg a)) (w 3) (upd (pX (setX (setX (setX (setF (setF S 100 (w 0) 0) 100 (w 0) 0) (w 14) (upd (pX (setF (setF S 100 (w 0) 0) 100 (w 0) 0) (w 14)) n.toNatClampNeg x75)) (w 13) (upd (pX (setX (setF (setF S 100 (w 0) 0) 100 (w 0) 0) (w 14) (upd (pX (setF (setF S 100 (w 0) 0) 100 (w 0) 0) (w 14)) n.toNatClampNeg x75)) (w 13)) n.toNatClampNeg x15)) (w 15) (upd (pX (setX (setX (setF (setF S 100 (w 0) 0) 100 (w 0) 0) (w 14) (upd (pX (setF (setF S 100 (w 0) 0) 100 (w 0) 0) (w 14)) n.toNatClampNeg x75)) (w 13) (upd (pX (setX (setF (setF S 100 (w 0) 0) 100 (w 0) 0) (w 14) (upd (pX (setF (setF S 100 (w 0) 0) 100 (w 0) 0) (w 14)) n.toNatClampNeg x75)) (w 13)) n.toNatClampNeg x15)) (w 15)) n.toNatClampNeg a)) (w 3)) a.toNatClampNeg x77)) (w 14) = 2 from (m5.1.2.1 14 (by decide) (by decide)).2, hn2]; exact vp_in_nI (by omega) (by decide)) dX6_send_200 ?_
                      refine lv_topi (fun x78 ex78 => ?_)
                      exact kEndI F hr rfl hlk hP hD hS (Nat.le_of_ble_eq_true rfl) (Nat.le_of_ble_eq_true rfl) dX6_send_201 ⟨_, rfl, ⟨(m5.trans (Mk.x (i := 3) (Mk.v (i := 15) (Mk.x (i := 13) (Mk.x (i := 14) (Mk.rf m5.1) (by decide) (by decide) (by decide)) (by decide) (by decide) (by decide)) (by decide) ⟨j5, (show j5 < 6 by omega), hn5⟩) (by decide) (by decide) (by decide)).1), (show pF (setF (setF S 100 (w 0) 0) 100 (w 0) 0) 106 (w 0) = pF S 106 (w 0) from ((uF_of (Or.inl (by decide))).trans ((uF_of (Or.inl (by decide))).trans rfl))), Or.inr ⟨m5_, hm5, (uF_of (Or.inl (by decide))).symm.trans hmM5, j5, hj5, hn5⟩⟩⟩
                    · refine lv_aload_n hx hb dX6_send_146 rfl (lv_at hl 4 rfl) ?_
                      refine rs_Model_aisle (b := w 1) F hK hP (m5.1.1.1 0 (by decide)) ((m5.1.2.1 1 (by decide) (by decide)).1) kw_67 dX6_send_147 ?_
                      refine lv_aload_n hx hb dX6_send_150 rfl (lv_at hl 4 rfl) ?_
                      refine rs_Model_goal (b := w 15) F hK hP (m5.1.1.1 0 (by decide)) ((m5.1.2.1 15 (by decide) (by decide)).1) kw_82 dX6_send_151 ?_
                      refine lv_iload hx hb dX6_send_154 (lv_at hl 0 rfl) ?_
                      refine rd_I F hK hP (m5.1.1.1 15 (by decide)) (by rw [show pN (setF (setF S 100 (w 0) 0) 100 (w 0) 0) (w 15) = 2 from (m5.1.2.1 15 (by decide) (by decide)).2, hxo]; exact vp_in_nI (by omega) (by decide)) dX6_send_156 ?_
                      refine lv_topi (fun x79 ex79 => ?_)
                      obtain ⟨jv80, hjv80, hxv80⟩ : ∃ q, q < 6 ∧ x79 = nI q := by rw [ex79]; exact m5.1.2.2.2.2.2.1 _
                      refine rd_I F hK hP (m5.1.1.1 1 (by decide)) (by rw [show pN (setF (setF S 100 (w 0) 0) 100 (w 0) 0) (w 1) = 6 from (m5.1.2.1 1 (by decide) (by decide)).2, hxv80]; exact vp_in_nI (by omega) (by decide)) dX6_send_157 ?_
                      refine lv_topi (fun x81 ex81 => ?_)
                      refine lv_iload_n hx hb dX6_send_158 rfl (lv_at hl 3 rfl) ?_
                      refine lv_icmp_ne (tgt := 166) hx hb dX6_send_159 (by decide) (fun c82 => ?_) (fun c82 => ?_)
                      · refine lv_iconst (v := 0) hx hb dX6_send_166 (by decide) ?_
                        refine lv_iadd hx hb dX6_send_167 ?_
                        refine lv_topi (fun x83 ex83 => ?_)
                        refine rt_I F hK hP hD hS (m5.1.1.1 14 (by decide)) (by rw [show pN (setF (setF S 100 (w 0) 0) 100 (w 0) 0) (w 14) = 2 from (m5.1.2.1 14 (by decide) (by decide)).2, hn2]; exact vp_in_nI (by omega) (by decide)) dX6_send_168 (fun H locs hP hD hS => ?_)
                        refine lv_aload_n hx hb dX6_send_169 rfl (lv_at hl 4 rfl) ?_
                        refine rs_Model_load (b := w 13) F hK hP (m5.1.1.1 0 (by decide)) ((m5.1.2.1 13 (by decide) (by decide)).1) kw_80 dX6_send_170 ?_
                        refine lv_iload_n hx hb dX6_send_173 rfl (lv_at hl 5 rfl) ?_
                        refine lv_iload hx hb dX6_send_174 (lv_at hl 1 rfl) ?_
                        refine rt_I F hK hP hD hS (m5.1.1.1 13 (by decide)) (by rw [show pN (setX (setF (setF S 100 (w 0) 0) 100 (w 0) 0) (w 14) (upd (pX (setF (setF S 100 (w 0) 0) 100 (w 0) 0) (w 14)) n.toNatClampNeg x83)) (w 13) = 2 from (m5.1.2.1 13 (by decide) (by decide)).2, hn2]; exact vp_in_nI (by omega) (by decide)) dX6_send_176 (fun H locs hP hD hS => ?_)
                        refine lv_aload_n hx hb dX6_send_177 rfl (lv_at hl 4 rfl) ?_
                        refine rs_Model_goal (b := w 15) F hK hP (m5.1.1.1 0 (by decide)) ((m5.1.2.1 15 (by decide) (by decide)).1) kw_82 dX6_send_178 ?_
                        refine lv_iload_n hx hb dX6_send_181 rfl (lv_at hl 5 rfl) ?_
                        refine lv_iload_n hx hb dX6_send_182 rfl (lv_at hl 6 rfl) ?_
                        refine rt_I F hK hP hD hS (m5.1.1.1 15 (by decide)) (by rw [show pN (setX (setX (setF (setF S 100 (w 0) 0) 100 (w 0) 0) (w 14) (upd (pX (setF (setF S 100 (w 0) 0) 100 (w 0) 0) (w 14)) n.toNatClampNeg x83)) (w 13) (upd (pX (setX (setF (setF S 100 (w 0) 0) 100 (w 0) 0) (w 14) (upd (pX (setF (setF S 100 (w 0) 0) 100 (w 0) 0) (w 14)) n.toNatClampNeg x83)) (w 13)) n.toNatClampNeg x15)) (w 15) = 2 from (m5.1.2.1 15 (by decide) (by decide)).2, hn2]; exact vp_in_nI (by omega) (by decide)) dX6_send_183 (fun H locs hP hD hS => ?_)
                        refine lv_aload_n hx hb dX6_send_184 rfl (lv_at hl 4 rfl) ?_
                        refine rs_Model_reserve (b := w 3) F hK hP (m5.1.1.1 0 (by decide)) ((m5.1.2.1 3 (by decide) (by decide)).1) kw_69 dX6_send_185 ?_
                        refine lv_iload_n hx hb dX6_send_188 rfl (lv_at hl 6 rfl) ?_
                        refine lv_dup2_11 hx hb dX6_send_189 rfl rfl ?_
                        refine rd_I F hK hP (m5.1.1.1 3 (by decide)) (by rw [show pN (setX (setX (setX (setF (setF S 100 (w 0) 0) 100 (w 0) 0) (w 14) (upd (pX (setF (setF S 100 (w 0) 0) 100 (w 0) 0) (w 14)) n.toNatClampNeg x83)) (w 13) (upd (pX (setX (setF (setF S 100 (w 0) 0) 100 (w 0) 0) (w 14) (upd (pX (setF (setF S 100 (w 0) 0) 100 (w 0) 0) (w 14)) n.toNatClampNeg x83)) (w 13)) n.toNatClampNeg x15)) (w 15) (upd (pX (setX (setX (setF (setF S 100 (w 0) 0) 100 (w 0) 0) (w 14) (upd (pX (setF (setF S 100 (w 0) 0) 100 (w 0) 0) (w 14)) n.toNatClampNeg x83)) (w 13) (upd (pX (setX (setF (setF S 100 (w 0) 0) 100 (w 0) 0) (w 14) (upd (pX (setF (setF S 100 (w 0) 0) 100 (w 0) 0) (w 14)) n.toNatClampNeg x83)) (w 13)) n.toNatClampNeg x15)) (w 15)) n.toNatClampNeg a)) (w 3) = 6 from (m5.1.2.1 3 (by decide) (by decide)).2, hn5]; exact vp_in_nI (by omega) (by decide)) dX6_send_190 ?_
                        refine lv_topi (fun x84 ex84 => ?_)
                        refine lv_iload hx hb dX6_send_191 (lv_at hl 1 rfl) ?_
                        refine lv_isub hx hb dX6_send_193 ?_
                        refine lv_topi (fun x85 ex85 => ?_)
                        refine rt_I F hK hP hD hS (m5.1.1.1 3 (by decide)) (by rw [show pN (setX (setX (setX (setF (setF S 100 (w 0) 0) 100 (w 0) 0) (w 14) (upd (pX (setF (setF S 100 (w 0) 0) 100 (w 0) 0) (w 14)) n.toNatClampNeg x83)) (w 13) (upd (pX (setX (setF (setF S 100 (w 0) 0) 100 (w 0) 0) (w 14) (upd (pX (setF (setF S 100 (w 0) 0) 100 (w 0) 0) (w 14)) n.toNatClampNeg x83)) (w 13)) n.toNatClampNeg x15)) (w 15) (upd (pX (setX (setX (setF (setF S 100 (w 0) 0) 100 (w 0) 0) (w 14) (upd (pX (setF (setF S 100 (w 0) 0) 100 (w 0) 0) (w 14)) n.toNatClampNeg x83)) (w 13) (upd (pX (setX (setF (setF S 100 (w 0) 0) 100 (w 0) 0) (w 14) (upd (pX (setF (setF S 100 (w 0) 0) 100 (w 0) 0) (w 14)) n.toNatClampNeg x83)) (w 13)) n.toNatClampNeg x15)) (w 15)) n.toNatClampNeg a)) (w 3) = 6 from (m5.1.2.1 3 (by decide) (by decide)).2, hn5]; exact vp_in_nI (by omega) (by decide)) dX6_send_194 (fun H locs hP hD hS => ?_)
                        refine lv_aload_n hx hb dX6_send_195 rfl (lv_at hl 4 rfl) ?_
                        refine rs_Model_left (b := w 14) F hK hP (m5.1.1.1 0 (by decide)) ((m5.1.2.1 14 (by decide) (by decide)).1) kw_81 dX6_send_196 ?_
                        refine lv_iload_n hx hb dX6_send_199 rfl (lv_at hl 5 rfl) ?_
                        refine rd_I F hK hP (m5.1.1.1 14 (by decide)) (by rw [show pN (setX (setX (setX (setX (setF (setF S 100 (w 0) 0) 100 (w 0) 0) (w 14) (upd (pX (setF (setF S 100 (w 0) 0) 100 (w 0) 0) (w 14)) n.toNatClampNeg x83)) (w 13) (upd (pX (setX (setF (setF S 100 (w 0) 0) 100 (w 0) 0) (w 14) (upd (pX (setF (setF S 100 (w 0) 0) 100 (w 0) 0) (w 14)) n.toNatClampNeg x83)) (w 13)) n.toNatClampNeg x15)) (w 15) (upd (pX (setX (setX (setF (setF S 100 (w 0) 0) 100 (w 0) 0) (w 14) (upd (pX (setF (setF S 100 (w 0) 0) 100 (w 0) 0) (w 14)) n.toNatClampNeg x83)) (w 13) (upd (pX (setX (setF (setF S 100 (w 0) 0) 100 (w 0) 0) (w 14) (upd (pX (setF (setF S 100 (w 0) 0) 100 (w 0) 0) (w 14)) n.toNatClampNeg x83)) (w 13)) n.toNatClampNeg x15)) (w 15)) n.toNatClampNeg a)) (w 3) (upd (pX (setX (setX (setX (setF (setF S 100 (w 0) 0) 100 (w 0) 0) (w 14) (upd (pX (setF (setF S 100 (w 0) 0) 100 (w 0) 0) (w 14)) n.toNatClampNeg x83)) (w 13) (upd (pX (setX (setF (setF S 100 (w 0) 0) 100 (w 0) 0) (w 14) (upd (pX (setF (setF S 100 (w 0) 0) 100 (w 0) 0) (w 14)) n.toNatClampNeg x83)) (w 13)) n.toNatClampNeg x15)) (w 15) (upd (pX (setX (setX (setF (setF S 100 (w 0) 0) 100 (w 0) 0) (w 14) (upd (pX (setF (setF S 100 (w 0) 0) 100 (w 0) 0) (w 14)) n.toNatClampNeg x83)) (w 13) (upd (pX (setX (setF (setF S 100 (w 0) 0) 100 (w 0) 0) (w 14) (upd (pX (setF (setF S 100 (w 0) 0) 100 (w 0) 0) (w 14)) n.toNatClampNeg x83)) (w 13)) n.toNatClampNeg x15)) (w 15)) n.toNatClampNeg a)) (w 3)) a.toNatClampNeg x85)) (w 14) = 2 from (m5.1.2.1 14 (by decide) (by decide)).2, hn2]; exact vp_in_nI (by omega) (by decide)) dX6_send_200 ?_
                        refine lv_topi (fun x86 ex86 => ?_)
                        exact kEndI F hr rfl hlk hP hD hS (Nat.le_of_ble_eq_true rfl) (Nat.le_of_ble_eq_true rfl) dX6_send_201 ⟨_, rfl, ⟨(m5.trans (Mk.x (i := 3) (Mk.v (i := 15) (Mk.x (i := 13) (Mk.x (i := 14) (Mk.rf m5.1) (by decide) (by decide) (by decide)) (by decide) (by decide) (by decide)) (by decide) ⟨j5, (show j5 < 6 by omega), hn5⟩) (by decide) (by decide) (by decide)).1), (show pF (setF (setF S 100 (w 0) 0) 100 (w 0) 0) 106 (w 0) = pF S 106 (w 0) from ((uF_of (Or.inl (by decide))).trans ((uF_of (Or.inl (by decide))).trans rfl))), Or.inr ⟨m5_, hm5, (uF_of (Or.inl (by decide))).symm.trans hmM5, j5, hj5, hn5⟩⟩⟩
                      · refine lv_iconst (v := 4) hx hb dX6_send_162 (by decide) ?_
                        refine lv_goto (tgt := 167) hx hb dX6_send_163 (by decide) ?_
                        refine lv_iadd hx hb dX6_send_167 ?_
                        refine lv_topi (fun x87 ex87 => ?_)
                        refine rt_I F hK hP hD hS (m5.1.1.1 14 (by decide)) (by rw [show pN (setF (setF S 100 (w 0) 0) 100 (w 0) 0) (w 14) = 2 from (m5.1.2.1 14 (by decide) (by decide)).2, hn2]; exact vp_in_nI (by omega) (by decide)) dX6_send_168 (fun H locs hP hD hS => ?_)
                        refine lv_aload_n hx hb dX6_send_169 rfl (lv_at hl 4 rfl) ?_
                        refine rs_Model_load (b := w 13) F hK hP (m5.1.1.1 0 (by decide)) ((m5.1.2.1 13 (by decide) (by decide)).1) kw_80 dX6_send_170 ?_
                        refine lv_iload_n hx hb dX6_send_173 rfl (lv_at hl 5 rfl) ?_
                        refine lv_iload hx hb dX6_send_174 (lv_at hl 1 rfl) ?_
                        refine rt_I F hK hP hD hS (m5.1.1.1 13 (by decide)) (by rw [show pN (setX (setF (setF S 100 (w 0) 0) 100 (w 0) 0) (w 14) (upd (pX (setF (setF S 100 (w 0) 0) 100 (w 0) 0) (w 14)) n.toNatClampNeg x87)) (w 13) = 2 from (m5.1.2.1 13 (by decide) (by decide)).2, hn2]; exact vp_in_nI (by omega) (by decide)) dX6_send_176 (fun H locs hP hD hS => ?_)
                        refine lv_aload_n hx hb dX6_send_177 rfl (lv_at hl 4 rfl) ?_
                        refine rs_Model_goal (b := w 15) F hK hP (m5.1.1.1 0 (by decide)) ((m5.1.2.1 15 (by decide) (by decide)).1) kw_82 dX6_send_178 ?_
                        refine lv_iload_n hx hb dX6_send_181 rfl (lv_at hl 5 rfl) ?_
                        refine lv_iload_n hx hb dX6_send_182 rfl (lv_at hl 6 rfl) ?_
                        refine rt_I F hK hP hD hS (m5.1.1.1 15 (by decide)) (by rw [show pN (setX (setX (setF (setF S 100 (w 0) 0) 100 (w 0) 0) (w 14) (upd (pX (setF (setF S 100 (w 0) 0) 100 (w 0) 0) (w 14)) n.toNatClampNeg x87)) (w 13) (upd (pX (setX (setF (setF S 100 (w 0) 0) 100 (w 0) 0) (w 14) (upd (pX (setF (setF S 100 (w 0) 0) 100 (w 0) 0) (w 14)) n.toNatClampNeg x87)) (w 13)) n.toNatClampNeg x15)) (w 15) = 2 from (m5.1.2.1 15 (by decide) (by decide)).2, hn2]; exact vp_in_nI (by omega) (by decide)) dX6_send_183 (fun H locs hP hD hS => ?_)
                        refine lv_aload_n hx hb dX6_send_184 rfl (lv_at hl 4 rfl) ?_
                        refine rs_Model_reserve (b := w 3) F hK hP (m5.1.1.1 0 (by decide)) ((m5.1.2.1 3 (by decide) (by decide)).1) kw_69 dX6_send_185 ?_
                        refine lv_iload_n hx hb dX6_send_188 rfl (lv_at hl 6 rfl) ?_
                        refine lv_dup2_11 hx hb dX6_send_189 rfl rfl ?_
                        refine rd_I F hK hP (m5.1.1.1 3 (by decide)) (by rw [show pN (setX (setX (setX (setF (setF S 100 (w 0) 0) 100 (w 0) 0) (w 14) (upd (pX (setF (setF S 100 (w 0) 0) 100 (w 0) 0) (w 14)) n.toNatClampNeg x87)) (w 13) (upd (pX (setX (setF (setF S 100 (w 0) 0) 100 (w 0) 0) (w 14) (upd (pX (setF (setF S 100 (w 0) 0) 100 (w 0) 0) (w 14)) n.toNatClampNeg x87)) (w 13)) n.toNatClampNeg x15)) (w 15) (upd (pX (setX (setX (setF (setF S 100 (w 0) 0) 100 (w 0) 0) (w 14) (upd (pX (setF (setF S 100 (w 0) 0) 100 (w 0) 0) (w 14)) n.toNatClampNeg x87)) (w 13) (upd (pX (setX (setF (setF S 100 (w 0) 0) 100 (w 0) 0) (w 14) (upd (pX (setF (setF S 100 (w 0) 0) 100 (w 0) 0) (w 14)) n.toNatClampNeg x87)) (w 13)) n.toNatClampNeg x15)) (w 15)) n.toNatClampNeg a)) (w 3) = 6 from (m5.1.2.1 3 (by decide) (by decide)).2, hn5]; exact vp_in_nI (by omega) (by decide)) dX6_send_190 ?_
                        refine lv_topi (fun x88 ex88 => ?_)
                        refine lv_iload hx hb dX6_send_191 (lv_at hl 1 rfl) ?_
                        refine lv_isub hx hb dX6_send_193 ?_
                        refine lv_topi (fun x89 ex89 => ?_)
                        refine rt_I F hK hP hD hS (m5.1.1.1 3 (by decide)) (by rw [show pN (setX (setX (setX (setF (setF S 100 (w 0) 0) 100 (w 0) 0) (w 14) (upd (pX (setF (setF S 100 (w 0) 0) 100 (w 0) 0) (w 14)) n.toNatClampNeg x87)) (w 13) (upd (pX (setX (setF (setF S 100 (w 0) 0) 100 (w 0) 0) (w 14) (upd (pX (setF (setF S 100 (w 0) 0) 100 (w 0) 0) (w 14)) n.toNatClampNeg x87)) (w 13)) n.toNatClampNeg x15)) (w 15) (upd (pX (setX (setX (setF (setF S 100 (w 0) 0) 100 (w 0) 0) (w 14) (upd (pX (setF (setF S 100 (w 0) 0) 100 (w 0) 0) (w 14)) n.toNatClampNeg x87)) (w 13) (upd (pX (setX (setF (setF S 100 (w 0) 0) 100 (w 0) 0) (w 14) (upd (pX (setF (setF S 100 (w 0) 0) 100 (w 0) 0) (w 14)) n.toNatClampNeg x87)) (w 13)) n.toNatClampNeg x15)) (w 15)) n.toNatClampNeg a)) (w 3) = 6 from (m5.1.2.1 3 (by decide) (by decide)).2, hn5]; exact vp_in_nI (by omega) (by decide)) dX6_send_194 (fun H locs hP hD hS => ?_)
                        refine lv_aload_n hx hb dX6_send_195 rfl (lv_at hl 4 rfl) ?_
                        refine rs_Model_left (b := w 14) F hK hP (m5.1.1.1 0 (by decide)) ((m5.1.2.1 14 (by decide) (by decide)).1) kw_81 dX6_send_196 ?_
                        refine lv_iload_n hx hb dX6_send_199 rfl (lv_at hl 5 rfl) ?_
                        refine rd_I F hK hP (m5.1.1.1 14 (by decide)) (by rw [show pN (setX (setX (setX (setX (setF (setF S 100 (w 0) 0) 100 (w 0) 0) (w 14) (upd (pX (setF (setF S 100 (w 0) 0) 100 (w 0) 0) (w 14)) n.toNatClampNeg x87)) (w 13) (upd (pX (setX (setF (setF S 100 (w 0) 0) 100 (w 0) 0) (w 14) (upd (pX (setF (setF S 100 (w 0) 0) 100 (w 0) 0) (w 14)) n.toNatClampNeg x87)) (w 13)) n.toNatClampNeg x15)) (w 15) (upd (pX (setX (setX (setF (setF S 100 (w 0) 0) 100 (w 0) 0) (w 14) (upd (pX (setF (setF S 100 (w 0) 0) 100 (w 0) 0) (w 14)) n.toNatClampNeg x87)) (w 13) (upd (pX (setX (setF (setF S 100 (w 0) 0) 100 (w 0) 0) (w 14) (upd (pX (setF (setF S 100 (w 0) 0) 100 (w 0) 0) (w 14)) n.toNatClampNeg x87)) (w 13)) n.toNatClampNeg x15)) (w 15)) n.toNatClampNeg a)) (w 3) (upd (pX (setX (setX (setX (setF (setF S 100 (w 0) 0) 100 (w 0) 0) (w 14) (upd (pX (setF (setF S 100 (w 0) 0) 100 (w 0) 0) (w 14)) n.toNatClampNeg x87)) (w 13) (upd (pX (setX (setF (setF S 100 (w 0) 0) 100 (w 0) 0) (w 14) (upd (pX (setF (setF S 100 (w 0) 0) 100 (w 0) 0) (w 14)) n.toNatClampNeg x87)) (w 13)) n.toNatClampNeg x15)) (w 15) (upd (pX (setX (setX (setF (setF S 100 (w 0) 0) 100 (w 0) 0) (w 14) (upd (pX (setF (setF S 100 (w 0) 0) 100 (w 0) 0) (w 14)) n.toNatClampNeg x87)) (w 13) (upd (pX (setX (setF (setF S 100 (w 0) 0) 100 (w 0) 0) (w 14) (upd (pX (setF (setF S 100 (w 0) 0) 100 (w 0) 0) (w 14)) n.toNatClampNeg x87)) (w 13)) n.toNatClampNeg x15)) (w 15)) n.toNatClampNeg a)) (w 3)) a.toNatClampNeg x89)) (w 14) = 2 from (m5.1.2.1 14 (by decide) (by decide)).2, hn2]; exact vp_in_nI (by omega) (by decide)) dX6_send_200 ?_
                        refine lv_topi (fun x90 ex90 => ?_)
                        exact kEndI F hr rfl hlk hP hD hS (Nat.le_of_ble_eq_true rfl) (Nat.le_of_ble_eq_true rfl) dX6_send_201 ⟨_, rfl, ⟨(m5.trans (Mk.x (i := 3) (Mk.v (i := 15) (Mk.x (i := 13) (Mk.x (i := 14) (Mk.rf m5.1) (by decide) (by decide) (by decide)) (by decide) (by decide) (by decide)) (by decide) ⟨j5, (show j5 < 6 by omega), hn5⟩) (by decide) (by decide) (by decide)).1), (show pF (setF (setF S 100 (w 0) 0) 100 (w 0) 0) 106 (w 0) = pF S 106 (w 0) from ((uF_of (Or.inl (by decide))).trans ((uF_of (Or.inl (by decide))).trans rfl))), Or.inr ⟨m5_, hm5, (uF_of (Or.inl (by decide))).symm.trans hmM5, j5, hj5, hn5⟩⟩⟩
                  · refine lv_bipush (v := 10) hx hb dX6_send_112 (by decide) ?_
                    refine lv_istore (lv' := [(5, .int 10), (4, .int x15), (3, .int x7), (0, .ref (w 0)), (1, .int n), (2, .int a)]) hx hb dX6_send_114 hl (by decide) rfl (fun ls hl => ?_)
                    refine lv_iconst (v := 1) hx hb dX6_send_116 (by decide) ?_
                    refine lv_iload_n hx hb dX6_send_117 rfl (lv_at hl 4 rfl) ?_
                    refine lv_isub hx hb dX6_send_118 ?_
                    refine lv_topi (fun x91 ex91 => ?_)
                    obtain ⟨jo, hjo, hxo⟩ := kother hj2 hn2 ex91
                    refine lv_istore (lv' := [(6, .int x91), (5, .int 10), (4, .int x15), (3, .int x7), (0, .ref (w 0)), (1, .int n), (2, .int a)]) hx hb dX6_send_119 hl (by decide) rfl (fun ls hl => ?_)
                    refine lv_aload_n hx hb dX6_send_121 rfl (lv_at hl 4 rfl) ?_
                    refine rs_Model_left (b := w 14) F hK hP (m5.1.1.1 0 (by decide)) ((m5.1.2.1 14 (by decide) (by decide)).1) kw_81 dX6_send_122 ?_
                    refine lv_iload_n hx hb dX6_send_125 rfl (lv_at hl 5 rfl) ?_
                    refine lv_iconst (v := 3) hx hb dX6_send_126 (by decide) ?_
                    refine lv_iconst (v := 2) hx hb dX6_send_127 (by decide) ?_
                    refine lv_aload_n hx hb dX6_send_128 rfl (lv_at hl 4 rfl) ?_
                    refine rs_Model_pickers (b := w 11) F hK hP (m5.1.1.1 0 (by decide)) ((m5.1.2.1 11 (by decide) (by decide)).1) kw_78 dX6_send_129 ?_
                    refine lv_iload_n hx hb dX6_send_132 rfl (lv_at hl 3 rfl) ?_
                    refine rd_I F hK hP (m5.1.1.1 11 (by decide)) (by rw [show pN (setF (setF S 100 (w 0) 0) 100 (w 0) 0) (w 11) = 4 from (m5.1.2.1 11 (by decide) (by decide)).2, hxv8]; exact vp_in_nI (by omega) (by decide)) dX6_send_133 ?_
                    refine lv_topi (fun x92 ex92 => ?_)
                    refine lv_imul hx hb dX6_send_134 ?_
                    refine lv_topi (fun x93 ex93 => ?_)
                    refine lv_iadd hx hb dX6_send_135 ?_
                    refine lv_topi (fun x94 ex94 => ?_)
                    refine lv_aload_n hx hb dX6_send_136 rfl (lv_at hl 4 rfl) ?_
                    refine rs_Model_load (b := w 13) F hK hP (m5.1.1.1 0 (by decide)) ((m5.1.2.1 13 (by decide) (by decide)).1) kw_80 dX6_send_137 ?_
                    refine lv_iload hx hb dX6_send_140 (lv_at hl 0 rfl) ?_
                    refine rd_I F hK hP (m5.1.1.1 13 (by decide)) (by rw [show pN (setF (setF S 100 (w 0) 0) 100 (w 0) 0) (w 13) = 2 from (m5.1.2.1 13 (by decide) (by decide)).2, hxo]; exact vp_in_nI (by omega) (by decide)) dX6_send_142 ?_
                    refine lv_topi (fun x95 ex95 => ?_)
                    refine lv_if_le (tgt := 166) hx hb dX6_send_143 (by decide) (fun c96 => ?_) (fun c96 => ?_)
                    · refine lv_iconst (v := 0) hx hb dX6_send_166 (by decide) ?_
                      refine lv_iadd hx hb dX6_send_167 ?_
                      refine lv_topi (fun x97 ex97 => ?_)
                      refine rt_I F hK hP hD hS (m5.1.1.1 14 (by decide)) (by rw [show pN (setF (setF S 100 (w 0) 0) 100 (w 0) 0) (w 14) = 2 from (m5.1.2.1 14 (by decide) (by decide)).2, hn2]; exact vp_in_nI (by omega) (by decide)) dX6_send_168 (fun H locs hP hD hS => ?_)
                      refine lv_aload_n hx hb dX6_send_169 rfl (lv_at hl 4 rfl) ?_
                      refine rs_Model_load (b := w 13) F hK hP (m5.1.1.1 0 (by decide)) ((m5.1.2.1 13 (by decide) (by decide)).1) kw_80 dX6_send_170 ?_
                      refine lv_iload_n hx hb dX6_send_173 rfl (lv_at hl 5 rfl) ?_
                      refine lv_iload hx hb dX6_send_174 (lv_at hl 1 rfl) ?_
                      refine rt_I F hK hP hD hS (m5.1.1.1 13 (by decide)) (by rw [show pN (setX (setF (setF S 100 (w 0) 0) 100 (w 0) 0) (w 14) (upd (pX (setF (setF S 100 (w 0) 0) 100 (w 0) 0) (w 14)) n.toNatClampNeg x97)) (w 13) = 2 from (m5.1.2.1 13 (by decide) (by decide)).2, hn2]; exact vp_in_nI (by omega) (by decide)) dX6_send_176 (fun H locs hP hD hS => ?_)
                      refine lv_aload_n hx hb dX6_send_177 rfl (lv_at hl 4 rfl) ?_
                      refine rs_Model_goal (b := w 15) F hK hP (m5.1.1.1 0 (by decide)) ((m5.1.2.1 15 (by decide) (by decide)).1) kw_82 dX6_send_178 ?_
                      refine lv_iload_n hx hb dX6_send_181 rfl (lv_at hl 5 rfl) ?_
                      refine lv_iload_n hx hb dX6_send_182 rfl (lv_at hl 6 rfl) ?_
                      refine rt_I F hK hP hD hS (m5.1.1.1 15 (by decide)) (by rw [show pN (setX (setX (setF (setF S 100 (w 0) 0) 100 (w 0) 0) (w 14) (upd (pX (setF (setF S 100 (w 0) 0) 100 (w 0) 0) (w 14)) n.toNatClampNeg x97)) (w 13) (upd (pX (setX (setF (setF S 100 (w 0) 0) 100 (w 0) 0) (w 14) (upd (pX (setF (setF S 100 (w 0) 0) 100 (w 0) 0) (w 14)) n.toNatClampNeg x97)) (w 13)) n.toNatClampNeg 10)) (w 15) = 2 from (m5.1.2.1 15 (by decide) (by decide)).2, hn2]; exact vp_in_nI (by omega) (by decide)) dX6_send_183 (fun H locs hP hD hS => ?_)
                      refine lv_aload_n hx hb dX6_send_184 rfl (lv_at hl 4 rfl) ?_
                      refine rs_Model_reserve (b := w 3) F hK hP (m5.1.1.1 0 (by decide)) ((m5.1.2.1 3 (by decide) (by decide)).1) kw_69 dX6_send_185 ?_
                      refine lv_iload_n hx hb dX6_send_188 rfl (lv_at hl 6 rfl) ?_
                      refine lv_dup2_11 hx hb dX6_send_189 rfl rfl ?_
                      refine rd_I F hK hP (m5.1.1.1 3 (by decide)) (by rw [show pN (setX (setX (setX (setF (setF S 100 (w 0) 0) 100 (w 0) 0) (w 14) (upd (pX (setF (setF S 100 (w 0) 0) 100 (w 0) 0) (w 14)) n.toNatClampNeg x97)) (w 13) (upd (pX (setX (setF (setF S 100 (w 0) 0) 100 (w 0) 0) (w 14) (upd (pX (setF (setF S 100 (w 0) 0) 100 (w 0) 0) (w 14)) n.toNatClampNeg x97)) (w 13)) n.toNatClampNeg 10)) (w 15) (upd (pX (setX (setX (setF (setF S 100 (w 0) 0) 100 (w 0) 0) (w 14) (upd (pX (setF (setF S 100 (w 0) 0) 100 (w 0) 0) (w 14)) n.toNatClampNeg x97)) (w 13) (upd (pX (setX (setF (setF S 100 (w 0) 0) 100 (w 0) 0) (w 14) (upd (pX (setF (setF S 100 (w 0) 0) 100 (w 0) 0) (w 14)) n.toNatClampNeg x97)) (w 13)) n.toNatClampNeg 10)) (w 15)) n.toNatClampNeg a)) (w 3) = 6 from (m5.1.2.1 3 (by decide) (by decide)).2, hn5]; exact vp_in_nI (by omega) (by decide)) dX6_send_190 ?_
                      refine lv_topi (fun x98 ex98 => ?_)
                      refine lv_iload hx hb dX6_send_191 (lv_at hl 1 rfl) ?_
                      refine lv_isub hx hb dX6_send_193 ?_
                      refine lv_topi (fun x99 ex99 => ?_)
                      refine rt_I F hK hP hD hS (m5.1.1.1 3 (by decide)) (by rw [show pN (setX (setX (setX (setF (setF S 100 (w 0) 0) 100 (w 0) 0) (w 14) (upd (pX (setF (setF S 100 (w 0) 0) 100 (w 0) 0) (w 14)) n.toNatClampNeg x97)) (w 13) (upd (pX (setX (setF (setF S 100 (w 0) 0) 100 (w 0) 0) (w 14) (upd (pX (setF (setF S 100 (w 0) 0) 100 (w 0) 0) (w 14)) n.toNatClampNeg x97)) (w 13)) n.toNatClampNeg 10)) (w 15) (upd (pX (setX (setX (setF (setF S 100 (w 0) 0) 100 (w 0) 0) (w 14) (upd (pX (setF (setF S 100 (w 0) 0) 100 (w 0) 0) (w 14)) n.toNatClampNeg x97)) (w 13) (upd (pX (setX (setF (setF S 100 (w 0) 0) 100 (w 0) 0) (w 14) (upd (pX (setF (setF S 100 (w 0) 0) 100 (w 0) 0) (w 14)) n.toNatClampNeg x97)) (w 13)) n.toNatClampNeg 10)) (w 15)) n.toNatClampNeg a)) (w 3) = 6 from (m5.1.2.1 3 (by decide) (by decide)).2, hn5]; exact vp_in_nI (by omega) (by decide)) dX6_send_194 (fun H locs hP hD hS => ?_)
                      refine lv_aload_n hx hb dX6_send_195 rfl (lv_at hl 4 rfl) ?_
                      refine rs_Model_left (b := w 14) F hK hP (m5.1.1.1 0 (by decide)) ((m5.1.2.1 14 (by decide) (by decide)).1) kw_81 dX6_send_196 ?_
                      refine lv_iload_n hx hb dX6_send_199 rfl (lv_at hl 5 rfl) ?_
                      refine rd_I F hK hP (m5.1.1.1 14 (by decide)) (by rw [show pN (setX (setX (setX (setX (setF (setF S 100 (w 0) 0) 100 (w 0) 0) (w 14) (upd (pX (setF (setF S 100 (w 0) 0) 100 (w 0) 0) (w 14)) n.toNatClampNeg x97)) (w 13) (upd (pX (setX (setF (setF S 100 (w 0) 0) 100 (w 0) 0) (w 14) (upd (pX (setF (setF S 100 (w 0) 0) 100 (w 0) 0) (w 14)) n.toNatClampNeg x97)) (w 13)) n.toNatClampNeg 10)) (w 15) (upd (pX (setX (setX (setF (setF S 100 (w 0) 0) 100 (w 0) 0) (w 14) (upd (pX (setF (setF S 100 (w 0) 0) 100 (w 0) 0) (w 14)) n.toNatClampNeg x97)) (w 13) (upd (pX (setX (setF (setF S 100 (w 0) 0) 100 (w 0) 0) (w 14) (upd (pX (setF (setF S 100 (w 0) 0) 100 (w 0) 0) (w 14)) n.toNatClampNeg x97)) (w 13)) n.toNatClampNeg 10)) (w 15)) n.toNatClampNeg a)) (w 3) (upd (pX (setX (setX (setX (setF (setF S 100 (w 0) 0) 100 (w 0) 0) (w 14) (upd (pX (setF (setF S 100 (w 0) 0) 100 (w 0) 0) (w 14)) n.toNatClampNeg x97)) (w 13) (upd (pX (setX (setF (setF S 100 (w 0) 0) 100 (w 0) 0) (w 14) (upd (pX (setF (setF S 100 (w 0) 0) 100 (w 0) 0) (w 14)) n.toNatClampNeg x97)) (w 13)) n.toNatClampNeg 10)) (w 15) (upd (pX (setX (setX (setF (setF S 100 (w 0) 0) 100 (w 0) 0) (w 14) (upd (pX (setF (setF S 100 (w 0) 0) 100 (w 0) 0) (w 14)) n.toNatClampNeg x97)) (w 13) (upd (pX (setX (setF (setF S 100 (w 0) 0) 100 (w 0) 0) (w 14) (upd (pX (setF (setF S 100 (w 0) 0) 100 (w 0) 0) (w 14)) n.toNatClampNeg x97)) (w 13)) n.toNatClampNeg 10)) (w 15)) n.toNatClampNeg a)) (w 3)) a.toNatClampNeg x99)) (w 14) = 2 from (m5.1.2.1 14 (by decide) (by decide)).2, hn2]; exact vp_in_nI (by omega) (by decide)) dX6_send_200 ?_
                      refine lv_topi (fun x100 ex100 => ?_)
                      exact kEndI F hr rfl hlk hP hD hS (Nat.le_of_ble_eq_true rfl) (Nat.le_of_ble_eq_true rfl) dX6_send_201 ⟨_, rfl, ⟨(m5.trans (Mk.x (i := 3) (Mk.v (i := 15) (Mk.x (i := 13) (Mk.x (i := 14) (Mk.rf m5.1) (by decide) (by decide) (by decide)) (by decide) (by decide) (by decide)) (by decide) ⟨j5, (show j5 < 6 by omega), hn5⟩) (by decide) (by decide) (by decide)).1), (show pF (setF (setF S 100 (w 0) 0) 100 (w 0) 0) 106 (w 0) = pF S 106 (w 0) from ((uF_of (Or.inl (by decide))).trans ((uF_of (Or.inl (by decide))).trans rfl))), Or.inr ⟨m5_, hm5, (uF_of (Or.inl (by decide))).symm.trans hmM5, j5, hj5, hn5⟩⟩⟩
                    · refine lv_aload_n hx hb dX6_send_146 rfl (lv_at hl 4 rfl) ?_
                      refine rs_Model_aisle (b := w 1) F hK hP (m5.1.1.1 0 (by decide)) ((m5.1.2.1 1 (by decide) (by decide)).1) kw_67 dX6_send_147 ?_
                      refine lv_aload_n hx hb dX6_send_150 rfl (lv_at hl 4 rfl) ?_
                      refine rs_Model_goal (b := w 15) F hK hP (m5.1.1.1 0 (by decide)) ((m5.1.2.1 15 (by decide) (by decide)).1) kw_82 dX6_send_151 ?_
                      refine lv_iload hx hb dX6_send_154 (lv_at hl 0 rfl) ?_
                      refine rd_I F hK hP (m5.1.1.1 15 (by decide)) (by rw [show pN (setF (setF S 100 (w 0) 0) 100 (w 0) 0) (w 15) = 2 from (m5.1.2.1 15 (by decide) (by decide)).2, hxo]; exact vp_in_nI (by omega) (by decide)) dX6_send_156 ?_
                      refine lv_topi (fun x101 ex101 => ?_)
                      obtain ⟨jv102, hjv102, hxv102⟩ : ∃ q, q < 6 ∧ x101 = nI q := by rw [ex101]; exact m5.1.2.2.2.2.2.1 _
                      refine rd_I F hK hP (m5.1.1.1 1 (by decide)) (by rw [show pN (setF (setF S 100 (w 0) 0) 100 (w 0) 0) (w 1) = 6 from (m5.1.2.1 1 (by decide) (by decide)).2, hxv102]; exact vp_in_nI (by omega) (by decide)) dX6_send_157 ?_
                      refine lv_topi (fun x103 ex103 => ?_)
                      refine lv_iload_n hx hb dX6_send_158 rfl (lv_at hl 3 rfl) ?_
                      refine lv_icmp_ne (tgt := 166) hx hb dX6_send_159 (by decide) (fun c104 => ?_) (fun c104 => ?_)
                      · refine lv_iconst (v := 0) hx hb dX6_send_166 (by decide) ?_
                        refine lv_iadd hx hb dX6_send_167 ?_
                        refine lv_topi (fun x105 ex105 => ?_)
                        refine rt_I F hK hP hD hS (m5.1.1.1 14 (by decide)) (by rw [show pN (setF (setF S 100 (w 0) 0) 100 (w 0) 0) (w 14) = 2 from (m5.1.2.1 14 (by decide) (by decide)).2, hn2]; exact vp_in_nI (by omega) (by decide)) dX6_send_168 (fun H locs hP hD hS => ?_)
                        refine lv_aload_n hx hb dX6_send_169 rfl (lv_at hl 4 rfl) ?_
                        refine rs_Model_load (b := w 13) F hK hP (m5.1.1.1 0 (by decide)) ((m5.1.2.1 13 (by decide) (by decide)).1) kw_80 dX6_send_170 ?_
                        refine lv_iload_n hx hb dX6_send_173 rfl (lv_at hl 5 rfl) ?_
                        refine lv_iload hx hb dX6_send_174 (lv_at hl 1 rfl) ?_
                        refine rt_I F hK hP hD hS (m5.1.1.1 13 (by decide)) (by rw [show pN (setX (setF (setF S 100 (w 0) 0) 100 (w 0) 0) (w 14) (upd (pX (setF (setF S 100 (w 0) 0) 100 (w 0) 0) (w 14)) n.toNatClampNeg x105)) (w 13) = 2 from (m5.1.2.1 13 (by decide) (by decide)).2, hn2]; exact vp_in_nI (by omega) (by decide)) dX6_send_176 (fun H locs hP hD hS => ?_)
                        refine lv_aload_n hx hb dX6_send_177 rfl (lv_at hl 4 rfl) ?_
                        refine rs_Model_goal (b := w 15) F hK hP (m5.1.1.1 0 (by decide)) ((m5.1.2.1 15 (by decide) (by decide)).1) kw_82 dX6_send_178 ?_
                        refine lv_iload_n hx hb dX6_send_181 rfl (lv_at hl 5 rfl) ?_
                        refine lv_iload_n hx hb dX6_send_182 rfl (lv_at hl 6 rfl) ?_
                        refine rt_I F hK hP hD hS (m5.1.1.1 15 (by decide)) (by rw [show pN (setX (setX (setF (setF S 100 (w 0) 0) 100 (w 0) 0) (w 14) (upd (pX (setF (setF S 100 (w 0) 0) 100 (w 0) 0) (w 14)) n.toNatClampNeg x105)) (w 13) (upd (pX (setX (setF (setF S 100 (w 0) 0) 100 (w 0) 0) (w 14) (upd (pX (setF (setF S 100 (w 0) 0) 100 (w 0) 0) (w 14)) n.toNatClampNeg x105)) (w 13)) n.toNatClampNeg 10)) (w 15) = 2 from (m5.1.2.1 15 (by decide) (by decide)).2, hn2]; exact vp_in_nI (by omega) (by decide)) dX6_send_183 (fun H locs hP hD hS => ?_)
                        refine lv_aload_n hx hb dX6_send_184 rfl (lv_at hl 4 rfl) ?_
                        refine rs_Model_reserve (b := w 3) F hK hP (m5.1.1.1 0 (by decide)) ((m5.1.2.1 3 (by decide) (by decide)).1) kw_69 dX6_send_185 ?_
                        refine lv_iload_n hx hb dX6_send_188 rfl (lv_at hl 6 rfl) ?_
                        refine lv_dup2_11 hx hb dX6_send_189 rfl rfl ?_
                        refine rd_I F hK hP (m5.1.1.1 3 (by decide)) (by rw [show pN (setX (setX (setX (setF (setF S 100 (w 0) 0) 100 (w 0) 0) (w 14) (upd (pX (setF (setF S 100 (w 0) 0) 100 (w 0) 0) (w 14)) n.toNatClampNeg x105)) (w 13) (upd (pX (setX (setF (setF S 100 (w 0) 0) 100 (w 0) 0) (w 14) (upd (pX (setF (setF S 100 (w 0) 0) 100 (w 0) 0) (w 14)) n.toNatClampNeg x105)) (w 13)) n.toNatClampNeg 10)) (w 15) (upd (pX (setX (setX (setF (setF S 100 (w 0) 0) 100 (w 0) 0) (w 14) (upd (pX (setF (setF S 100 (w 0) 0) 100 (w 0) 0) (w 14)) n.toNatClampNeg x105)) (w 13) (upd (pX (setX (setF (setF S 100 (w 0) 0) 100 (w 0) 0) (w 14) (upd (pX (setF (setF S 100 (w 0) 0) 100 (w 0) 0) (w 14)) n.toNatClampNeg x105)) (w 13)) n.toNatClampNeg 10)) (w 15)) n.toNatClampNeg a)) (w 3) = 6 from (m5.1.2.1 3 (by decide) (by decide)).2, hn5]; exact vp_in_nI (by omega) (by decide)) dX6_send_190 ?_
                        refine lv_topi (fun x106 ex106 => ?_)
                        refine lv_iload hx hb dX6_send_191 (lv_at hl 1 rfl) ?_
                        refine lv_isub hx hb dX6_send_193 ?_
                        refine lv_topi (fun x107 ex107 => ?_)
                        refine rt_I F hK hP hD hS (m5.1.1.1 3 (by decide)) (by rw [show pN (setX (setX (setX (setF (setF S 100 (w 0) 0) 100 (w 0) 0) (w 14) (upd (pX (setF (setF S 100 (w 0) 0) 100 (w 0) 0) (w 14)) n.toNatClampNeg x105)) (w 13) (upd (pX (setX (setF (setF S 100 (w 0) 0) 100 (w 0) 0) (w 14) (upd (pX (setF (setF S 100 (w 0) 0) 100 (w 0) 0) (w 14)) n.toNatClampNeg x105)) (w 13)) n.toNatClampNeg 10)) (w 15) (upd (pX (setX (setX (setF (setF S 100 (w 0) 0) 100 (w 0) 0) (w 14) (upd (pX (setF (setF S 100 (w 0) 0) 100 (w 0) 0) (w 14)) n.toNatClampNeg x105)) (w 13) (upd (pX (setX (setF (setF S 100 (w 0) 0) 100 (w 0) 0) (w 14) (upd (pX (setF (setF S 100 (w 0) 0) 100 (w 0) 0) (w 14)) n.toNatClampNeg x105)) (w 13)) n.toNatClampNeg 10)) (w 15)) n.toNatClampNeg a)) (w 3) = 6 from (m5.1.2.1 3 (by decide) (by decide)).2, hn5]; exact vp_in_nI (by omega) (by decide)) dX6_send_194 (fun H locs hP hD hS => ?_)
                        refine lv_aload_n hx hb dX6_send_195 rfl (lv_at hl 4 rfl) ?_
                        refine rs_Model_left (b := w 14) F hK hP (m5.1.1.1 0 (by decide)) ((m5.1.2.1 14 (by decide) (by decide)).1) kw_81 dX6_send_196 ?_
                        refine lv_iload_n hx hb dX6_send_199 rfl (lv_at hl 5 rfl) ?_
                        refine rd_I F hK hP (m5.1.1.1 14 (by decide)) (by rw [show pN (setX (setX (setX (setX (setF (setF S 100 (w 0) 0) 100 (w 0) 0) (w 14) (upd (pX (setF (setF S 100 (w 0) 0) 100 (w 0) 0) (w 14)) n.toNatClampNeg x105)) (w 13) (upd (pX (setX (setF (setF S 100 (w 0) 0) 100 (w 0) 0) (w 14) (upd (pX (setF (setF S 100 (w 0) 0) 100 (w 0) 0) (w 14)) n.toNatClampNeg x105)) (w 13)) n.toNatClampNeg 10)) (w 15) (upd (pX (setX (setX (setF (setF S 100 (w 0) 0) 100 (w 0) 0) (w 14) (upd (pX (setF (setF S 100 (w 0) 0) 100 (w 0) 0) (w 14)) n.toNatClampNeg x105)) (w 13) (upd (pX (setX (setF (setF S 100 (w 0) 0) 100 (w 0) 0) (w 14) (upd (pX (setF (setF S 100 (w 0) 0) 100 (w 0) 0) (w 14)) n.toNatClampNeg x105)) (w 13)) n.toNatClampNeg 10)) (w 15)) n.toNatClampNeg a)) (w 3) (upd (pX (setX (setX (setX (setF (setF S 100 (w 0) 0) 100 (w 0) 0) (w 14) (upd (pX (setF (setF S 100 (w 0) 0) 100 (w 0) 0) (w 14)) n.toNatClampNeg x105)) (w 13) (upd (pX (setX (setF (setF S 100 (w 0) 0) 100 (w 0) 0) (w 14) (upd (pX (setF (setF S 100 (w 0) 0) 100 (w 0) 0) (w 14)) n.toNatClampNeg x105)) (w 13)) n.toNatClampNeg 10)) (w 15) (upd (pX (setX (setX (setF (setF S 100 (w 0) 0) 100 (w 0) 0) (w 14) (upd (pX (setF (setF S 100 (w 0) 0) 100 (w 0) 0) (w 14)) n.toNatClampNeg x105)) (w 13) (upd (pX (setX (setF (setF S 100 (w 0) 0) 100 (w 0) 0) (w 14) (upd (pX (setF (setF S 100 (w 0) 0) 100 (w 0) 0) (w 14)) n.toNatClampNeg x105)) (w 13)) n.toNatClampNeg 10)) (w 15)) n.toNatClampNeg a)) (w 3)) a.toNatClampNeg x107)) (w 14) = 2 from (m5.1.2.1 14 (by decide) (by decide)).2, hn2]; exact vp_in_nI (by omega) (by decide)) dX6_send_200 ?_
                        refine lv_topi (fun x108 ex108 => ?_)
                        exact kEndI F hr rfl hlk hP hD hS (Nat.le_of_ble_eq_true rfl) (Nat.le_of_ble_eq_true rfl) dX6_send_201 ⟨_, rfl, ⟨(m5.trans (Mk.x (i := 3) (Mk.v (i := 15) (Mk.x (i := 13) (Mk.x (i := 14) (Mk.rf m5.1) (by decide) (by decide) (by decide)) (by decide) (by decide) (by decide)) (by decide) ⟨j5, (show j5 < 6 by omega), hn5⟩) (by decide) (by decide) (by decide)).1), (show pF (setF (setF S 100 (w 0) 0) 100 (w 0) 0) 106 (w 0) = pF S 106 (w 0) from ((uF_of (Or.inl (by decide))).trans ((uF_of (Or.inl (by decide))).trans rfl))), Or.inr ⟨m5_, hm5, (uF_of (Or.inl (by decide))).symm.trans hmM5, j5, hj5, hn5⟩⟩⟩
                      · refine lv_iconst (v := 4) hx hb dX6_send_162 (by decide) ?_
                        refine lv_goto (tgt := 167) hx hb dX6_send_163 (by decide) ?_
                        refine lv_iadd hx hb dX6_send_167 ?_
                        refine lv_topi (fun x109 ex109 => ?_)
                        refine rt_I F hK hP hD hS (m5.1.1.1 14 (by decide)) (by rw [show pN (setF (setF S 100 (w 0) 0) 100 (w 0) 0) (w 14) = 2 from (m5.1.2.1 14 (by decide) (by decide)).2, hn2]; exact vp_in_nI (by omega) (by decide)) dX6_send_168 (fun H locs hP hD hS => ?_)
                        refine lv_aload_n hx hb dX6_send_169 rfl (lv_at hl 4 rfl) ?_
                        refine rs_Model_load (b := w 13) F hK hP (m5.1.1.1 0 (by decide)) ((m5.1.2.1 13 (by decide) (by decide)).1) kw_80 dX6_send_170 ?_
                        refine lv_iload_n hx hb dX6_send_173 rfl (lv_at hl 5 rfl) ?_
                        refine lv_iload hx hb dX6_send_174 (lv_at hl 1 rfl) ?_
                        refine rt_I F hK hP hD hS (m5.1.1.1 13 (by decide)) (by rw [show pN (setX (setF (setF S 100 (w 0) 0) 100 (w 0) 0) (w 14) (upd (pX (setF (setF S 100 (w 0) 0) 100 (w 0) 0) (w 14)) n.toNatClampNeg x109)) (w 13) = 2 from (m5.1.2.1 13 (by decide) (by decide)).2, hn2]; exact vp_in_nI (by omega) (by decide)) dX6_send_176 (fun H locs hP hD hS => ?_)
                        refine lv_aload_n hx hb dX6_send_177 rfl (lv_at hl 4 rfl) ?_
                        refine rs_Model_goal (b := w 15) F hK hP (m5.1.1.1 0 (by decide)) ((m5.1.2.1 15 (by decide) (by decide)).1) kw_82 dX6_send_178 ?_
                        refine lv_iload_n hx hb dX6_send_181 rfl (lv_at hl 5 rfl) ?_
                        refine lv_iload_n hx hb dX6_send_182 rfl (lv_at hl 6 rfl) ?_
                        refine rt_I F hK hP hD hS (m5.1.1.1 15 (by decide)) (by rw [show pN (setX (setX (setF (setF S 100 (w 0) 0) 100 (w 0) 0) (w 14) (upd (pX (setF (setF S 100 (w 0) 0) 100 (w 0) 0) (w 14)) n.toNatClampNeg x109)) (w 13) (upd (pX (setX (setF (setF S 100 (w 0) 0) 100 (w 0) 0) (w 14) (upd (pX (setF (setF S 100 (w 0) 0) 100 (w 0) 0) (w 14)) n.toNatClampNeg x109)) (w 13)) n.toNatClampNeg 10)) (w 15) = 2 from (m5.1.2.1 15 (by decide) (by decide)).2, hn2]; exact vp_in_nI (by omega) (by decide)) dX6_send_183 (fun H locs hP hD hS => ?_)
                        refine lv_aload_n hx hb dX6_send_184 rfl (lv_at hl 4 rfl) ?_
                        refine rs_Model_reserve (b := w 3) F hK hP (m5.1.1.1 0 (by decide)) ((m5.1.2.1 3 (by decide) (by decide)).1) kw_69 dX6_send_185 ?_
                        refine lv_iload_n hx hb dX6_send_188 rfl (lv_at hl 6 rfl) ?_
                        refine lv_dup2_11 hx hb dX6_send_189 rfl rfl ?_
                        refine rd_I F hK hP (m5.1.1.1 3 (by decide)) (by rw [show pN (setX (setX (setX (setF (setF S 100 (w 0) 0) 100 (w 0) 0) (w 14) (upd (pX (setF (setF S 100 (w 0) 0) 100 (w 0) 0) (w 14)) n.toNatClampNeg x109)) (w 13) (upd (pX (setX (setF (setF S 100 (w 0) 0) 100 (w 0) 0) (w 14) (upd (pX (setF (setF S 100 (w 0) 0) 100 (w 0) 0) (w 14)) n.toNatClampNeg x109)) (w 13)) n.toNatClampNeg 10)) (w 15) (upd (pX (setX (setX (setF (setF S 100 (w 0) 0) 100 (w 0) 0) (w 14) (upd (pX (setF (setF S 100 (w 0) 0) 100 (w 0) 0) (w 14)) n.toNatClampNeg x109)) (w 13) (upd (pX (setX (setF (setF S 100 (w 0) 0) 100 (w 0) 0) (w 14) (upd (pX (setF (setF S 100 (w 0) 0) 100 (w 0) 0) (w 14)) n.toNatClampNeg x109)) (w 13)) n.toNatClampNeg 10)) (w 15)) n.toNatClampNeg a)) (w 3) = 6 from (m5.1.2.1 3 (by decide) (by decide)).2, hn5]; exact vp_in_nI (by omega) (by decide)) dX6_send_190 ?_
                        refine lv_topi (fun x110 ex110 => ?_)
                        refine lv_iload hx hb dX6_send_191 (lv_at hl 1 rfl) ?_
                        refine lv_isub hx hb dX6_send_193 ?_
                        refine lv_topi (fun x111 ex111 => ?_)
                        refine rt_I F hK hP hD hS (m5.1.1.1 3 (by decide)) (by rw [show pN (setX (setX (setX (setF (setF S 100 (w 0) 0) 100 (w 0) 0) (w 14) (upd (pX (setF (setF S 100 (w 0) 0) 100 (w 0) 0) (w 14)) n.toNatClampNeg x109)) (w 13) (upd (pX (setX (setF (setF S 100 (w 0) 0) 100 (w 0) 0) (w 14) (upd (pX (setF (setF S 100 (w 0) 0) 100 (w 0) 0) (w 14)) n.toNatClampNeg x109)) (w 13)) n.toNatClampNeg 10)) (w 15) (upd (pX (setX (setX (setF (setF S 100 (w 0) 0) 100 (w 0) 0) (w 14) (upd (pX (setF (setF S 100 (w 0) 0) 100 (w 0) 0) (w 14)) n.toNatClampNeg x109)) (w 13) (upd (pX (setX (setF (setF S 100 (w 0) 0) 100 (w 0) 0) (w 14) (upd (pX (setF (setF S 100 (w 0) 0) 100 (w 0) 0) (w 14)) n.toNatClampNeg x109)) (w 13)) n.toNatClampNeg 10)) (w 15)) n.toNatClampNeg a)) (w 3) = 6 from (m5.1.2.1 3 (by decide) (by decide)).2, hn5]; exact vp_in_nI (by omega) (by decide)) dX6_send_194 (fun H locs hP hD hS => ?_)
                        refine lv_aload_n hx hb dX6_send_195 rfl (lv_at hl 4 rfl) ?_
                        refine rs_Model_left (b := w 14) F hK hP (m5.1.1.1 0 (by decide)) ((m5.1.2.1 14 (by decide) (by decide)).1) kw_81 dX6_send_196 ?_
                        refine lv_iload_n hx hb dX6_send_199 rfl (lv_at hl 5 rfl) ?_
                        refine rd_I F hK hP (m5.1.1.1 14 (by decide)) (by rw [show pN (setX (setX (setX (setX (setF (setF S 100 (w 0) 0) 100 (w 0) 0) (w 14) (upd (pX (setF (setF S 100 (w 0) 0) 100 (w 0) 0) (w 14)) n.toNatClampNeg x109)) (w 13) (upd (pX (setX (setF (setF S 100 (w 0) 0) 100 (w 0) 0) (w 14) (upd (pX (setF (setF S 100 (w 0) 0) 100 (w 0) 0) (w 14)) n.toNatClampNeg x109)) (w 13)) n.toNatClampNeg 10)) (w 15) (upd (pX (setX (setX (setF (setF S 100 (w 0) 0) 100 (w 0) 0) (w 14) (upd (pX (setF (setF S 100 (w 0) 0) 100 (w 0) 0) (w 14)) n.toNatClampNeg x109)) (w 13) (upd (pX (setX (setF (setF S 100 (w 0) 0) 100 (w 0) 0) (w 14) (upd (pX (setF (setF S 100 (w 0) 0) 100 (w 0) 0) (w 14)) n.toNatClampNeg x109)) (w 13)) n.toNatClampNeg 10)) (w 15)) n.toNatClampNeg a)) (w 3) (upd (pX (setX (setX (setX (setF (setF S 100 (w 0) 0) 100 (w 0) 0) (w 14) (upd (pX (setF (setF S 100 (w 0) 0) 100 (w 0) 0) (w 14)) n.toNatClampNeg x109)) (w 13) (upd (pX (setX (setF (setF S 100 (w 0) 0) 100 (w 0) 0) (w 14) (upd (pX (setF (setF S 100 (w 0) 0) 100 (w 0) 0) (w 14)) n.toNatClampNeg x109)) (w 13)) n.toNatClampNeg 10)) (w 15) (upd (pX (setX (setX (setF (setF S 100 (w 0) 0) 100 (w 0) 0) (w 14) (upd (pX (setF (setF S 100 (w 0) 0) 100 (w 0) 0) (w 14)) n.toNatClampNeg x109)) (w 13) (upd (pX (setX (setF (setF S 100 (w 0) 0) 100 (w 0) 0) (w 14) (upd (pX (setF (setF S 100 (w 0) 0) 100 (w 0) 0) (w 14)) n.toNatClampNeg x109)) (w 13)) n.toNatClampNeg 10)) (w 15)) n.toNatClampNeg a)) (w 3)) a.toNatClampNeg x111)) (w 14) = 2 from (m5.1.2.1 14 (by decide) (by decide)).2, hn2]; exact vp_in_nI (by omega) (by decide)) dX6_send_200 ?_
                        refine lv_topi (fun x112 ex112 => ?_)
                        exact kEndI F hr rfl hlk hP hD hS (Nat.le_of_ble_eq_true rfl) (Nat.le_of_ble_eq_true rfl) dX6_send_201 ⟨_, rfl, ⟨(m5.trans (Mk.x (i := 3) (Mk.v (i := 15) (Mk.x (i := 13) (Mk.x (i := 14) (Mk.rf m5.1) (by decide) (by decide) (by decide)) (by decide) (by decide) (by decide)) (by decide) ⟨j5, (show j5 < 6 by omega), hn5⟩) (by decide) (by decide) (by decide)).1), (show pF (setF (setF S 100 (w 0) 0) 100 (w 0) 0) 106 (w 0) = pF S 106 (w 0) from ((uF_of (Or.inl (by decide))).trans ((uF_of (Or.inl (by decide))).trans rfl))), Or.inr ⟨m5_, hm5, (uF_of (Or.inl (by decide))).symm.trans hmM5, j5, hj5, hn5⟩⟩⟩
                · refine lv_aload_n hx hb dX6_send_99 rfl (lv_at hl 3 rfl) ?_
                  refine lv_iconst (v := 4) hx hb dX6_send_100 (by decide) ?_
                  refine kcallI (kV (n := 1) (As := [.int 4]) (rest := []) (b := (w 0)) (C := RX6) F hE hK hP hD hS hA (c_X6_fails l hl0 g e0 (setF (setF S 100 (w 0) 0) 100 (w 0) 0) _ (w 0) 4 (m5.1.1.1 0 (by decide))) (rr_Model hK hP (m5.1.1.1 0 (by decide))) kw_183 kw_184 kw_185 kw_5 kw_186 (by decide +kernel) ⟨Nat.le_of_ble_eq_true rfl, Nat.le_of_ble_eq_true rfl⟩ rfl hl.1 rfl (Nat.le_of_ble_eq_true rfl) dX6_send_101 ⟨Nat.le_of_ble_eq_true rfl, Nat.le_of_ble_eq_true rfl⟩) rfl hD hS hA (fun _ _ _ _ _ h => False.elim h) (fun r113 T113 H locs hp hP hD hS => ?_)
                  obtain ⟨hT, hr114⟩ := hp
                  subst hT
                  have m114 : Mr w S (setF (setF (setF S 100 (w 0) 0) 100 (w 0) 0) 100 (w 0) 4) := m5.thr
                  subst hr114
                  exact kEndI F hr rfl hlk hP hD hS (Nat.le_of_ble_eq_true rfl) (Nat.le_of_ble_eq_true rfl) dX6_send_104 ⟨_, rfl, ⟨m114, (show pF (setF (setF (setF S 100 (w 0) 0) 100 (w 0) 0) 100 (w 0) 4) 106 (w 0) = pF S 106 (w 0) from ((uF_of (Or.inl (by decide))).trans ((uF_of (Or.inl (by decide))).trans ((uF_of (Or.inl (by decide))).trans rfl)))), Or.inr ⟨m5_, hm5, (uF_of (Or.inl (by decide))).symm.trans hmM5, j5, hj5, hn5⟩⟩⟩
            · refine lv_aload_n hx hb dX6_send_49 rfl (lv_at hl 1 rfl) ?_
              refine lv_iconst (v := 3) hx hb dX6_send_50 (by decide) ?_
              refine kcallI (kV (n := 1) (As := [.int 3]) (rest := []) (b := (w 0)) (C := RX6) F hE hK hP hD hS hA (c_X6_fails l hl0 g e0 (setF (setF S 100 (w 0) 0) 100 (w 0) 0) _ (w 0) 3 (m5.1.1.1 0 (by decide))) (rr_Model hK hP (m5.1.1.1 0 (by decide))) kw_183 kw_184 kw_185 kw_5 kw_186 (by decide +kernel) ⟨Nat.le_of_ble_eq_true rfl, Nat.le_of_ble_eq_true rfl⟩ rfl hl.1 rfl (Nat.le_of_ble_eq_true rfl) dX6_send_51 ⟨Nat.le_of_ble_eq_true rfl, Nat.le_of_ble_eq_true rfl⟩) rfl hD hS hA (fun _ _ _ _ _ h => False.elim h) (fun r115 T115 H locs hp hP hD hS => ?_)
              obtain ⟨hT, hr116⟩ := hp
              subst hT
              have m116 : Mr w S (setF (setF (setF S 100 (w 0) 0) 100 (w 0) 0) 100 (w 0) 3) := m5.thr
              subst hr116
              exact kEndI F hr rfl hlk hP hD hS (Nat.le_of_ble_eq_true rfl) (Nat.le_of_ble_eq_true rfl) dX6_send_54 ⟨_, rfl, ⟨m116, (show pF (setF (setF (setF S 100 (w 0) 0) 100 (w 0) 0) 100 (w 0) 3) 106 (w 0) = pF S 106 (w 0) from ((uF_of (Or.inl (by decide))).trans ((uF_of (Or.inl (by decide))).trans ((uF_of (Or.inl (by decide))).trans rfl)))), Or.inr ⟨m5_, hm5, (uF_of (Or.inl (by decide))).symm.trans hmM5, j5, hj5, hn5⟩⟩⟩
          · refine lv_aload_n hx hb dX6_send_34 rfl (lv_at hl 1 rfl) ?_
            refine lv_iconst (v := 2) hx hb dX6_send_35 (by decide) ?_
            refine kcallI (kV (n := 1) (As := [.int 2]) (rest := []) (b := (w 0)) (C := RX6) F hE hK hP hD hS hA (c_X6_fails l hl0 g e0 (setF (setF S 100 (w 0) 0) 100 (w 0) 0) _ (w 0) 2 (m5.1.1.1 0 (by decide))) (rr_Model hK hP (m5.1.1.1 0 (by decide))) kw_183 kw_184 kw_185 kw_5 kw_186 (by decide +kernel) ⟨Nat.le_of_ble_eq_true rfl, Nat.le_of_ble_eq_true rfl⟩ rfl hl.1 rfl (Nat.le_of_ble_eq_true rfl) dX6_send_36 ⟨Nat.le_of_ble_eq_true rfl, Nat.le_of_ble_eq_true rfl⟩) rfl hD hS hA (fun _ _ _ _ _ h => False.elim h) (fun r117 T117 H locs hp hP hD hS => ?_)
            obtain ⟨hT, hr118⟩ := hp
            subst hT
            have m118 : Mr w S (setF (setF (setF S 100 (w 0) 0) 100 (w 0) 0) 100 (w 0) 2) := m5.thr
            subst hr118
            exact kEndI F hr rfl hlk hP hD hS (Nat.le_of_ble_eq_true rfl) (Nat.le_of_ble_eq_true rfl) dX6_send_39 ⟨_, rfl, ⟨m118, (show pF (setF (setF (setF S 100 (w 0) 0) 100 (w 0) 0) 100 (w 0) 2) 106 (w 0) = pF S 106 (w 0) from ((uF_of (Or.inl (by decide))).trans ((uF_of (Or.inl (by decide))).trans ((uF_of (Or.inl (by decide))).trans rfl)))), Or.inr ⟨m5_, hm5, (uF_of (Or.inl (by decide))).symm.trans hmM5, j5, hj5, hn5⟩⟩⟩
        · exact absurd c6 (by decide)
      · subst hT
        subst hr
        have m5 : Mr w S (setF (setF S 100 (w 0) 0) 100 (w 0) 1) := m2.thr
        refine lv_if_ne (tgt := 18) hx hb dX6_send_13 (by decide) (fun c119 => ?_) (fun c119 => ?_)
        · exact absurd c119 (by decide)
        · refine lv_iconst (v := 0) hx hb dX6_send_16 (by decide) ?_
          exact kEndI F hr rfl hlk hP hD hS (Nat.le_of_ble_eq_true rfl) (Nat.le_of_ble_eq_true rfl) dX6_send_17 ⟨_, rfl, ⟨m5, (show pF (setF (setF S 100 (w 0) 0) 100 (w 0) 1) 106 (w 0) = pF S 106 (w 0) from ((uF_of (Or.inl (by decide))).trans ((uF_of (Or.inl (by decide))).trans rfl))), Or.inl uF_at⟩⟩
  · subst hT
    subst hr
    have m2 : Mr w S (setF S 100 (w 0) 1) := (Mr.rf hI).thr
    refine lv_if_eq (tgt := 16) hx hb dX6_send_5 (by decide) (fun c120 => ?_) (fun c120 => ?_)
    · refine lv_iconst (v := 0) hx hb dX6_send_16 (by decide) ?_
      exact kEndI F hr rfl hlk hP hD hS (Nat.le_of_ble_eq_true rfl) (Nat.le_of_ble_eq_true rfl) dX6_send_17 ⟨_, rfl, ⟨m2, (show pF (setF S 100 (w 0) 1) 106 (w 0) = pF S 106 (w 0) from ((uF_of (Or.inl (by decide))).trans rfl)), Or.inl uF_at⟩⟩
    · exact absurd (by decide) c120
