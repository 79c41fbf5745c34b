theorem dX6_notes_0 : decode cX6_notes 0 = .ok (.aload_n 0, 1) := by decide +kernel
theorem dX6_notes_1 : decode cX6_notes 1 = .ok (.getfield 56, 3) := by decide +kernel
theorem dX6_notes_4 : decode cX6_notes 4 = .ok (.aload_n 0, 1) := by decide +kernel
theorem dX6_notes_5 : decode cX6_notes 5 = .ok (.getfield 76, 3) := by decide +kernel
theorem dX6_notes_8 : decode cX6_notes 8 = .ok (.iload_n 1, 1) := by decide +kernel
theorem dX6_notes_9 : decode cX6_notes 9 = .ok (.iastore, 1) := by decide +kernel
theorem dX6_notes_10 : decode cX6_notes 10 = .ok (.aload_n 0, 1) := by decide +kernel
theorem dX6_notes_11 : decode cX6_notes 11 = .ok (.getfield 59, 3) := by decide +kernel
theorem dX6_notes_14 : decode cX6_notes 14 = .ok (.aload_n 0, 1) := by decide +kernel
theorem dX6_notes_15 : decode cX6_notes 15 = .ok (.getfield 76, 3) := by decide +kernel
theorem dX6_notes_18 : decode cX6_notes 18 = .ok (.iload_n 2, 1) := by decide +kernel
theorem dX6_notes_19 : decode cX6_notes 19 = .ok (.iastore, 1) := by decide +kernel
theorem dX6_notes_20 : decode cX6_notes 20 = .ok (.aload_n 0, 1) := by decide +kernel
theorem dX6_notes_21 : decode cX6_notes 21 = .ok (.dup, 1) := by decide +kernel
theorem dX6_notes_22 : decode cX6_notes 22 = .ok (.getfield 76, 3) := by decide +kernel
theorem dX6_notes_25 : decode cX6_notes 25 = .ok (.iconst 1, 1) := by decide +kernel
theorem dX6_notes_26 : decode cX6_notes 26 = .ok (.iadd, 1) := by decide +kernel
theorem dX6_notes_27 : decode cX6_notes 27 = .ok (.putfield 76, 3) := by decide +kernel
theorem dX6_notes_30 : decode cX6_notes 30 = .ok (.return_, 1) := by decide +kernel
set_option maxHeartbeats 4000000 in
set_option maxRecDepth 100000 in
theorem c_X6_notes (l : Launch) (hl0 : l.stackTraces = false) (g : kG) (e0 : Nat) (w : Nat → Nat) (S : wPS) (sz : Nat) (hI : MI w S) (o sg : Int32) (cn : Nat) (hc : pF S 106 (w 0) = nI cn) (hc7 : cn < 7000) : kM l g e0 yX6_notes cX6_notes 3 none 0 0 0 0 [.ref (w 0), .int o, .int sg] S sz (pU (fun T => Mk w S T ∧ pF T 106 (w 0) = nI (cn + 1) ∧ pX T (w 8) = pX S (w 8))) (fun E => False) := by
  refine kM.of (by decide) (Nat.le_of_ble_eq_true rfl) ?_
  intro p e s m below meth c ls B hin
  obtain ⟨F, hr, hlk, hte, hP, hK, hD, hE, hS, hA, hl, hsz⟩ := B
  subst hsz
  have hx := F.1
  have hb := F.2.1
  have hl : lv_has ls 3 [(0, .ref (w 0)), (1, .int o), (2, .int sg)] := hl
  refine lv_aload_n hx hb dX6_notes_0 rfl (lv_at hl 0 rfl) ?_
  refine rs_Model_scanOrder (b := w 16) F hK hP (hI.1.1 0 (by decide)) ((hI.2.1 16 (by decide) (by decide)).1) kw_83 dX6_notes_1 ?_
  refine lv_aload_n hx hb dX6_notes_4 rfl (lv_at hl 0 rfl) ?_
  refine rg_Model_scans F hK hP (hI.1.1 0 (by decide)) kw_347 dX6_notes_5 ?_
  refine lv_topi (fun x1 ex1 => ?_)
  have hx1 : x1 = nI cn := ex1.trans hc
  refine lv_iload_n hx hb dX6_notes_8 rfl (lv_at hl 1 rfl) ?_
  refine rt_I F hK hP hD hS (hI.1.1 16 (by decide)) (by rw [show pN S (w 16) = 7000 from (hI.2.1 16 (by decide) (by decide)).2, hx1]; exact vp_in_nI (by omega) (by decide)) dX6_notes_9 (fun H locs hP hD hS => ?_)
  refine lv_aload_n hx hb dX6_notes_10 rfl (lv_at hl 0 rfl) ?_
  refine rs_Model_scanSign (b := w 17) F hK hP (hI.1.1 0 (by decide)) ((hI.2.1 17 (by decide) (by decide)).1) kw_84 dX6_notes_11 ?_
  refine lv_aload_n hx hb dX6_notes_14 rfl (lv_at hl 0 rfl) ?_
  refine rg_Model_scans F hK hP (hI.1.1 0 (by decide)) kw_347 dX6_notes_15 ?_
  refine lv_topi (fun x2 ex2 => ?_)
  have hx2 : x2 = nI cn := ex2.trans hc
  refine lv_iload_n hx hb dX6_notes_18 rfl (lv_at hl 2 rfl) ?_
  refine rt_I F hK hP hD hS (hI.1.1 17 (by decide)) (by rw [show pN (setX S (w 16) (upd (pX S (w 16)) x1.toNatClampNeg o)) (w 17) = 7000 from (hI.2.1 17 (by decide) (by decide)).2, hx2]; exact vp_in_nI (by omega) (by decide)) dX6_notes_19 (fun H locs hP hD hS => ?_)
  refine lv_aload_n hx hb dX6_notes_20 rfl (lv_at hl 0 rfl) ?_
  refine lv_dup hx hb dX6_notes_21 rfl ?_
  refine rg_Model_scans F hK hP (hI.1.1 0 (by decide)) kw_347 dX6_notes_22 ?_
  refine lv_topi (fun x3 ex3 => ?_)
  refine lv_iconst (v := 1) hx hb dX6_notes_25 (by decide) ?_
  refine lv_iadd hx hb dX6_notes_26 ?_
  refine lv_topi (fun x4 ex4 => ?_)
  refine rp_Model_scans F hK hP hD hS (hI.1.1 0 (by decide)) kw_347 dX6_notes_27 (fun H locs hP hD hS => ?_)
  exact kEndV F hr hlk hP hD hS (Nat.le_of_ble_eq_true rfl) (Nat.le_of_ble_eq_true rfl) dX6_notes_30 ⟨rfl, ⟨(Mk.f (Mk.x (i := 17) (Mk.x (i := 16) (Mk.rf hI) (by decide) (by decide) (by decide)) (by decide) (by decide) (by decide)) (by decide) (by decide)), uF_at.trans (by rw [ex4, show x3 = nI cn from ex3.trans hc]; exact nI_1 cn), (va_up_ne _ _ (hI.ne (by decide) (by decide) (by decide))).trans (va_up_ne _ _ (hI.ne (by decide) (by decide) (by decide)))⟩⟩
theorem dX6_opens_0 : decode cX6_opens 0 = .ok (.aload_n 0, 1) := by decide +kernel
theorem dX6_opens_1 : decode cX6_opens 1 = .ok (.getfield 31, 3) := by decide +kernel
theorem dX6_opens_4 : decode cX6_opens 4 = .ok (.iload_n 1, 1) := by decide +kernel
theorem dX6_opens_5 : decode cX6_opens 5 = .ok (.bipush 111, 2) := by decide +kernel
theorem dX6_opens_7 : decode cX6_opens 7 = .ok (.iastore, 1) := by decide +kernel
theorem dX6_opens_8 : decode cX6_opens 8 = .ok (.aload_n 0, 1) := by decide +kernel
theorem dX6_opens_9 : decode cX6_opens 9 = .ok (.iload_n 1, 1) := by decide +kernel
theorem dX6_opens_10 : decode cX6_opens 10 = .ok (.bipush 117, 2) := by decide +kernel
theorem dX6_opens_12 : decode cX6_opens 12 = .ok (.invokevirtual 83, 3) := by decide +kernel
theorem dX6_opens_15 : decode cX6_opens 15 = .ok (.return_, 1) := by decide +kernel
set_option maxHeartbeats 4000000 in
set_option maxRecDepth 100000 in
theorem c_X6_opens (l : Launch) (hl0 : l.stackTraces = false) (g : kG) (e0 : Nat) (w : Nat → Nat) (S : wPS) (sz : Nat) (hI : MI w S) (o : Int32) (j : Nat) (hj : j < 12) (ho : o = nI j) (cn : Nat) (hc : pF S 106 (w 0) = nI cn) (hc7 : cn < 7000) : kM l g e0 yX6_opens cX6_opens 2 none 1 22 0 0 [.ref (w 0), .int o] S sz (pU (fun T => Mk w S T ∧ pF T 106 (w 0) = nI (cn + 1) ∧ pX T (w 8) = upd (pX S (w 8)) j 111)) (fun E => False) := by
  refine kM.of (by decide) (Nat.le_of_ble_eq_true rfl) ?_
  intro p e s m below meth c ls B hin
  obtain ⟨F, hr, hlk, hte, hP, hK, hD, hE, hS, hA, hl, hsz⟩ := B
  subst hsz
  have hx := F.1
  have hb := F.2.1
  have hl : lv_has ls 2 [(0, .ref (w 0)), (1, .int o)] := hl
  refine lv_aload_n hx hb dX6_opens_0 rfl (lv_at hl 0 rfl) ?_
  refine rs_Model_state (b := w 8) F hK hP (hI.1.1 0 (by decide)) ((hI.2.1 8 (by decide) (by decide)).1) kw_74 dX6_opens_1 ?_
  refine lv_iload_n hx hb dX6_opens_4 rfl (lv_at hl 1 rfl) ?_
  refine lv_bipush (v := 111) hx hb dX6_opens_5 (by decide) ?_
  refine rt_I F hK hP hD hS (hI.1.1 8 (by decide)) (by rw [show pN S (w 8) = 12 from (hI.2.1 8 (by decide) (by decide)).2, ho]; exact vp_in_nI (by omega) (by decide)) dX6_opens_7 (fun H locs hP hD hS => ?_)
  refine lv_aload_n hx hb dX6_opens_8 rfl (lv_at hl 0 rfl) ?_
  refine lv_iload_n hx hb dX6_opens_9 rfl (lv_at hl 1 rfl) ?_
  refine lv_bipush (v := 117) hx hb dX6_opens_10 (by decide) ?_
  refine kcallU (kV (n := 2) (As := [.int o, .int 117]) (rest := []) (b := (w 0)) (C := RX6) F hE hK hP hD hS hA (c_X6_notes l hl0 g e0 w (setX S (w 8) (upd (pX S (w 8)) o.toNatClampNeg 111)) _ ((Mk.x (i := 8) (Mk.rf hI) (by decide) (by decide) (by decide)).1.1) o 117 cn hc hc7) (rr_Model hK hP (hI.1.1 0 (by decide))) kw_343 kw_344 kw_345 kw_5 kw_346 (by decide +kernel) ⟨Nat.le_of_ble_eq_true rfl, Nat.le_of_ble_eq_true rfl⟩ rfl hl.1 rfl (Nat.le_of_ble_eq_true rfl) dX6_opens_12 ⟨Nat.le_of_ble_eq_true rfl, Nat.le_of_ble_eq_true rfl⟩) rfl hD hS hA (fun _ _ _ _ _ h => False.elim h) (fun T1 H locs hp hP hD hS => ?_)
  obtain ⟨k2, c2_, s2⟩ := hp
  have K2 : Mk w S T1 := (Mk.x (i := 8) (Mk.rf hI) (by decide) (by decide) (by decide)).trans k2
  exact kEndV F hr hlk hP hD hS (Nat.le_of_ble_eq_true rfl) (Nat.le_of_ble_eq_true rfl) dX6_opens_15 ⟨rfl, ⟨K2, c2_, s2.trans ((va_up_self _ _ _).trans (by rw [ho, nI_clamp (by omega)]))⟩⟩
