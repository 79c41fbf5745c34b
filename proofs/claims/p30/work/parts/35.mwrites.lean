theorem dX6_adds_0 : decode cX6_adds 0 = .ok (.aload_n 0, 1) := by decide +kernel
theorem dX6_adds_1 : decode cX6_adds 1 = .ok (.getfield 22, 3) := by decide +kernel
theorem dX6_adds_4 : decode cX6_adds 4 = .ok (.aload_n 0, 1) := by decide +kernel
theorem dX6_adds_5 : decode cX6_adds 5 = .ok (.getfield 73, 3) := by decide +kernel
theorem dX6_adds_8 : decode cX6_adds 8 = .ok (.iload_n 1, 1) := by decide +kernel
theorem dX6_adds_9 : decode cX6_adds 9 = .ok (.iastore, 1) := by decide +kernel
theorem dX6_adds_10 : decode cX6_adds 10 = .ok (.aload_n 0, 1) := by decide +kernel
theorem dX6_adds_11 : decode cX6_adds 11 = .ok (.getfield 25, 3) := by decide +kernel
theorem dX6_adds_14 : decode cX6_adds 14 = .ok (.aload_n 0, 1) := by decide +kernel
theorem dX6_adds_15 : decode cX6_adds 15 = .ok (.getfield 73, 3) := by decide +kernel
theorem dX6_adds_18 : decode cX6_adds 18 = .ok (.iload_n 2, 1) := by decide +kernel
theorem dX6_adds_19 : decode cX6_adds 19 = .ok (.iastore, 1) := by decide +kernel
theorem dX6_adds_20 : decode cX6_adds 20 = .ok (.aload_n 0, 1) := by decide +kernel
theorem dX6_adds_21 : decode cX6_adds 21 = .ok (.getfield 28, 3) := by decide +kernel
theorem dX6_adds_24 : decode cX6_adds 24 = .ok (.aload_n 0, 1) := by decide +kernel
theorem dX6_adds_25 : decode cX6_adds 25 = .ok (.getfield 73, 3) := by decide +kernel
theorem dX6_adds_28 : decode cX6_adds 28 = .ok (.iload_n 3, 1) := by decide +kernel
theorem dX6_adds_29 : decode cX6_adds 29 = .ok (.iastore, 1) := by decide +kernel
theorem dX6_adds_30 : decode cX6_adds 30 = .ok (.aload_n 0, 1) := by decide +kernel
theorem dX6_adds_31 : decode cX6_adds 31 = .ok (.getfield 31, 3) := by decide +kernel
theorem dX6_adds_34 : decode cX6_adds 34 = .ok (.aload_n 0, 1) := by decide +kernel
theorem dX6_adds_35 : decode cX6_adds 35 = .ok (.getfield 73, 3) := by decide +kernel
theorem dX6_adds_38 : decode cX6_adds 38 = .ok (.bipush 111, 2) := by decide +kernel
theorem dX6_adds_40 : decode cX6_adds 40 = .ok (.iastore, 1) := by decide +kernel
theorem dX6_adds_41 : decode cX6_adds 41 = .ok (.aload_n 0, 1) := by decide +kernel
theorem dX6_adds_42 : decode cX6_adds 42 = .ok (.getfield 34, 3) := by decide +kernel
theorem dX6_adds_45 : decode cX6_adds 45 = .ok (.aload_n 0, 1) := by decide +kernel
theorem dX6_adds_46 : decode cX6_adds 46 = .ok (.getfield 73, 3) := by decide +kernel
theorem dX6_adds_49 : decode cX6_adds 49 = .ok (.iconst (-1), 1) := by decide +kernel
theorem dX6_adds_50 : decode cX6_adds 50 = .ok (.iastore, 1) := by decide +kernel
theorem dX6_adds_51 : decode cX6_adds 51 = .ok (.aload_n 0, 1) := by decide +kernel
theorem dX6_adds_52 : decode cX6_adds 52 = .ok (.aload_n 0, 1) := by decide +kernel
theorem dX6_adds_53 : decode cX6_adds 53 = .ok (.getfield 73, 3) := by decide +kernel
theorem dX6_adds_56 : decode cX6_adds 56 = .ok (.bipush 110, 2) := by decide +kernel
theorem dX6_adds_58 : decode cX6_adds 58 = .ok (.invokevirtual 83, 3) := by decide +kernel
theorem dX6_adds_61 : decode cX6_adds 61 = .ok (.aload_n 0, 1) := by decide +kernel
theorem dX6_adds_62 : decode cX6_adds 62 = .ok (.dup, 1) := by decide +kernel
theorem dX6_adds_63 : decode cX6_adds 63 = .ok (.getfield 73, 3) := by decide +kernel
theorem dX6_adds_66 : decode cX6_adds 66 = .ok (.iconst 1, 1) := by decide +kernel
theorem dX6_adds_67 : decode cX6_adds 67 = .ok (.iadd, 1) := by decide +kernel
theorem dX6_adds_68 : decode cX6_adds 68 = .ok (.putfield 73, 3) := by decide +kernel
theorem dX6_adds_71 : decode cX6_adds 71 = .ok (.aload_n 0, 1) := by decide +kernel
theorem dX6_adds_72 : decode cX6_adds 72 = .ok (.getfield 73, 3) := by decide +kernel
theorem dX6_adds_75 : decode cX6_adds 75 = .ok (.iconst 1, 1) := by decide +kernel
theorem dX6_adds_76 : decode cX6_adds 76 = .ok (.isub, 1) := by decide +kernel
theorem dX6_adds_77 : decode cX6_adds 77 = .ok (.ireturn, 1) := by decide +kernel
set_option maxHeartbeats 4000000 in
set_option maxRecDepth 100000 in
theorem c_X6_adds (l : Launch) (hl0 : l.stackTraces = false) (g : kG) (e0 : Nat) (w : Nat → Nat) (S : wPS) (sz : Nat) (hI : MI w S) (a many bw : Int32) (ja : Nat) (hja : ja < 6) (ha : a = nI ja) (m9 : Nat) (hm : pF S 102 (w 0) = nI m9) (hm12 : m9 < 12) (cn : Nat) (hc : pF S 106 (w 0) = nI cn) (hc7 : cn < 7000) : kM l g e0 yX6_adds cX6_adds 4 (some .int) 1 22 0 0 [.ref (w 0), .int a, .int many, .int bw] S sz (pI (fun r T => Mr w S T ∧ pF T 100 (w 0) = pF S 100 (w 0) ∧ pF T 102 (w 0) = nI (m9 + 1) ∧ pF T 106 (w 0) = nI (cn + 1) ∧ pX T (w 8) = upd (pX S (w 8)) m9 111 ∧ r = nI m9)) (fun E => False) := by
  refine kM.of (by decide) (Nat.le_of_ble_eq_true rfl) ?_
  intro p e s m below meth c ls B hin
  obtain ⟨F, hr, hlk, hte, hP, hK, hD, hE, hS, hA, hl, hsz⟩ := B
  subst hsz
  have hx := F.1
  have hb := F.2.1
  have hl : lv_has ls 4 [(0, .ref (w 0)), (1, .int a), (2, .int many), (3, .int bw)] := hl
  refine lv_aload_n hx hb dX6_adds_0 rfl (lv_at hl 0 rfl) ?_
  refine rs_Model_item (b := w 5) F hK hP (hI.1.1 0 (by decide)) ((hI.2.1 5 (by decide) (by decide)).1) kw_71 dX6_adds_1 ?_
  refine lv_aload_n hx hb dX6_adds_4 rfl (lv_at hl 0 rfl) ?_
  refine rg_Model_orders F hK hP (hI.1.1 0 (by decide)) kw_263 dX6_adds_5 ?_
  refine lv_topi (fun x1 ex1 => ?_)
  have hx1 : x1 = nI m9 := ex1.trans hm
  refine lv_iload_n hx hb dX6_adds_8 rfl (lv_at hl 1 rfl) ?_
  refine rt_I F hK hP hD hS (hI.1.1 5 (by decide)) (by rw [show pN S (w 5) = 12 from (hI.2.1 5 (by decide) (by decide)).2, hx1]; exact vp_in_nI (by omega) (by decide)) dX6_adds_9 (fun H locs hP hD hS => ?_)
  refine lv_aload_n hx hb dX6_adds_10 rfl (lv_at hl 0 rfl) ?_
  refine rs_Model_amount (b := w 6) F hK hP (hI.1.1 0 (by decide)) ((hI.2.1 6 (by decide) (by decide)).1) kw_72 dX6_adds_11 ?_
  refine lv_aload_n hx hb dX6_adds_14 rfl (lv_at hl 0 rfl) ?_
  refine rg_Model_orders F hK hP (hI.1.1 0 (by decide)) kw_263 dX6_adds_15 ?_
  refine lv_topi (fun x2 ex2 => ?_)
  have hx2 : x2 = nI m9 := ex2.trans hm
  refine lv_iload_n hx hb dX6_adds_18 rfl (lv_at hl 2 rfl) ?_
  refine rt_I F hK hP hD hS (hI.1.1 6 (by decide)) (by rw [show pN (setX S (w 5) (upd (pX S (w 5)) x1.toNatClampNeg a)) (w 6) = 12 from (hI.2.1 6 (by decide) (by decide)).2, hx2]; exact vp_in_nI (by omega) (by decide)) dX6_adds_19 (fun H locs hP hD hS => ?_)
  refine lv_aload_n hx hb dX6_adds_20 rfl (lv_at hl 0 rfl) ?_
  refine rs_Model_carrier (b := w 7) F hK hP (hI.1.1 0 (by decide)) ((hI.2.1 7 (by decide) (by decide)).1) kw_73 dX6_adds_21 ?_
  refine lv_aload_n hx hb dX6_adds_24 rfl (lv_at hl 0 rfl) ?_
  refine rg_Model_orders F hK hP (hI.1.1 0 (by decide)) kw_263 dX6_adds_25 ?_
  refine lv_topi (fun x3 ex3 => ?_)
  have hx3 : x3 = nI m9 := ex3.trans hm
  refine lv_iload_n hx hb dX6_adds_28 rfl (lv_at hl 3 rfl) ?_
  refine rt_I F hK hP hD hS (hI.1.1 7 (by decide)) (by rw [show pN (setX (setX S (w 5) (upd (pX S (w 5)) x1.toNatClampNeg a)) (w 6) (upd (pX (setX S (w 5) (upd (pX S (w 5)) x1.toNatClampNeg a)) (w 6)) x2.toNatClampNeg many)) (w 7) = 12 from (hI.2.1 7 (by decide) (by decide)).2, hx3]; exact vp_in_nI (by omega) (by decide)) dX6_adds_29 (fun H locs hP hD hS => ?_)
  refine lv_aload_n hx hb dX6_adds_30 rfl (lv_at hl 0 rfl) ?_
  refine rs_Model_state (b := w 8) F hK hP (hI.1.1 0 (by decide)) ((hI.2.1 8 (by decide) (by decide)).1) kw_74 dX6_adds_31 ?_
  refine lv_aload_n hx hb dX6_adds_34 rfl (lv_at hl 0 rfl) ?_
  refine rg_Model_orders F hK hP (hI.1.1 0 (by decide)) kw_263 dX6_adds_35 ?_
  refine lv_topi (fun x4 ex4 => ?_)
  have hx4 : x4 = nI m9 := ex4.trans hm
  refine lv_bipush (v := 111) hx hb dX6_adds_38 (by decide) ?_
  refine rt_I F hK hP hD hS (hI.1.1 8 (by decide)) (by rw [show pN (setX (setX (setX S (w 5) (upd (pX S (w 5)) x1.toNatClampNeg a)) (w 6) (upd (pX (setX S (w 5) (upd (pX S (w 5)) x1.toNatClampNeg a)) (w 6)) x2.toNatClampNeg many)) (w 7) (upd (pX (setX (setX S (w 5) (upd (pX S (w 5)) x1.toNatClampNeg a)) (w 6) (upd (pX (setX S (w 5) (upd (pX S (w 5)) x1.toNatClampNeg a)) (w 6)) x2.toNatClampNeg many)) (w 7)) x3.toNatClampNeg bw)) (w 8) = 12 from (hI.2.1 8 (by decide) (by decide)).2, hx4]; exact vp_in_nI (by omega) (by decide)) dX6_adds_40 (fun H locs hP hD hS => ?_)
  refine lv_aload_n hx hb dX6_adds_41 rfl (lv_at hl 0 rfl) ?_
  refine rs_Model_waveOf (b := w 9) F hK hP (hI.1.1 0 (by decide)) ((hI.2.1 9 (by decide) (by decide)).1) kw_75 dX6_adds_42 ?_
  refine lv_aload_n hx hb dX6_adds_45 rfl (lv_at hl 0 rfl) ?_
  refine rg_Model_orders F hK hP (hI.1.1 0 (by decide)) kw_263 dX6_adds_46 ?_
  refine lv_topi (fun x5 ex5 => ?_)
  have hx5 : x5 = nI m9 := ex5.trans hm
  refine lv_iconst (v := (-1)) hx hb dX6_adds_49 (by decide) ?_
  refine rt_I F hK hP hD hS (hI.1.1 9 (by decide)) (by rw [show pN (setX (setX (setX (setX S (w 5) (upd (pX S (w 5)) x1.toNatClampNeg a)) (w 6) (upd (pX (setX S (w 5) (upd (pX S (w 5)) x1.toNatClampNeg a)) (w 6)) x2.toNatClampNeg many)) (w 7) (upd (pX (setX (setX S (w 5) (upd (pX S (w 5)) x1.toNatClampNeg a)) (w 6) (upd (pX (setX S (w 5) (upd (pX S (w 5)) x1.toNatClampNeg a)) (w 6)) x2.toNatClampNeg many)) (w 7)) x3.toNatClampNeg bw)) (w 8) (upd (pX (setX (setX (setX S (w 5) (upd (pX S (w 5)) x1.toNatClampNeg a)) (w 6) (upd (pX (setX S (w 5) (upd (pX S (w 5)) x1.toNatClampNeg a)) (w 6)) x2.toNatClampNeg many)) (w 7) (upd (pX (setX (setX S (w 5) (upd (pX S (w 5)) x1.toNatClampNeg a)) (w 6) (upd (pX (setX S (w 5) (upd (pX S (w 5)) x1.toNatClampNeg a)) (w 6)) x2.toNatClampNeg many)) (w 7)) x3.toNatClampNeg bw)) (w 8)) x4.toNatClampNeg 111)) (w 9) = 12 from (hI.2.1 9 (by decide) (by decide)).2, hx5]; exact vp_in_nI (by omega) (by decide)) dX6_adds_50 (fun H locs hP hD hS => ?_)
  refine lv_aload_n hx hb dX6_adds_51 rfl (lv_at hl 0 rfl) ?_
  refine lv_aload_n hx hb dX6_adds_52 rfl (lv_at hl 0 rfl) ?_
  refine rg_Model_orders F hK hP (hI.1.1 0 (by decide)) kw_263 dX6_adds_53 ?_
  refine lv_topi (fun x6 ex6 => ?_)
  refine lv_bipush (v := 110) hx hb dX6_adds_56 (by decide) ?_
  refine kcallU (kV (n := 2) (As := [.int x6, .int 110]) (rest := []) (b := (w 0)) (C := RX6) F hE hK hP hD hS hA (c_X6_notes l hl0 g e0 w (setX (setX (setX (setX (setX S (w 5) (upd (pX S (w 5)) x1.toNatClampNeg a)) (w 6) (upd (pX (setX S (w 5) (upd (pX S (w 5)) x1.toNatClampNeg a)) (w 6)) x2.toNatClampNeg many)) (w 7) (upd (pX (setX (setX S (w 5) (upd (pX S (w 5)) x1.toNatClampNeg a)) (w 6) (upd (pX (setX S (w 5) (upd (pX S (w 5)) x1.toNatClampNeg a)) (w 6)) x2.toNatClampNeg many)) (w 7)) x3.toNatClampNeg bw)) (w 8) (upd (pX (setX (setX (setX S (w 5) (upd (pX S (w 5)) x1.toNatClampNeg a)) (w 6) (upd (pX (setX S (w 5) (upd (pX S (w 5)) x1.toNatClampNeg a)) (w 6)) x2.toNatClampNeg many)) (w 7) (upd (pX (setX (setX S (w 5) (upd (pX S (w 5)) x1.toNatClampNeg a)) (w 6) (upd (pX (setX S (w 5) (upd (pX S (w 5)) x1.toNatClampNeg a)) (w 6)) x2.toNatClampNeg many)) (w 7)) x3.toNatClampNeg bw)) (w 8)) x4.toNatClampNeg 111)) (w 9) (upd (pX (setX (setX (setX (setX S (w 5) (upd (pX S (w 5)) x1.toNatClampNeg a)) (w 6) (upd (pX (setX S (w 5) (upd (pX S (w 5)) x1.toNatClampNeg a)) (w 6)) x2.toNatClampNeg many)) (w 7) (upd (pX (setX (setX S (w 5) (upd (pX S (w 5)) x1.toNatClampNeg a)) (w 6) (upd (pX (setX S (w 5) (upd (pX S (w 5)) x1.toNatClampNeg a)) (w 6)) x2.toNatClampNeg many)) (w 7)) x3.toNatClampNeg bw)) (w 8) (upd (pX (setX (setX (setX S (w 5) (upd (pX S (w 5)) x1.toNatClampNeg a)) (w 6) (upd (pX (setX S (w 5) (upd (pX S (w 5)) x1.toNatClampNeg a)) (w 6)) x2.toNatClampNeg many)) (w 7) (upd (pX (setX (setX S (w 5) (upd (pX S (w 5)) x1.toNatClampNeg a)) (w 6) (upd (pX (setX S (w 5) (upd (pX S (w 5)) x1.toNatClampNeg a)) (w 6)) x2.toNatClampNeg many)) (w 7)) x3.toNatClampNeg bw)) (w 8)) x4.toNatClampNeg 111)) (w 9)) x5.toNatClampNeg (-1))) _ ((Mk.x (i := 9) (Mk.x (i := 8) (Mk.x (i := 7) (Mk.x (i := 6) (Mk.v (i := 5) (Mk.rf hI) (by decide) ⟨ja, hja, ha⟩) (by decide) (by decide) (by decide)) (by decide) (by decide) (by decide)) (by decide) (by decide) (by decide)) (by decide) (by decide) (by decide)).1.1) x6 110 cn hc hc7) (rr_Model hK hP (hI.1.1 0 (by decide))) kw_343 kw_344 kw_345 kw_5 kw_346 (by decide +kernel) ⟨Nat.le_of_ble_eq_true rfl, Nat.le_of_ble_eq_true rfl⟩ rfl hl.1 rfl (Nat.le_of_ble_eq_true rfl) dX6_adds_58 ⟨Nat.le_of_ble_eq_true rfl, Nat.le_of_ble_eq_true rfl⟩) rfl hD hS hA (fun _ _ _ _ _ h => False.elim h) (fun T7 H locs hp hP hD hS => ?_)
  obtain ⟨k8, c8_, s8⟩ := hp
  have K8 : Mk w S T7 := (Mk.x (i := 9) (Mk.x (i := 8) (Mk.x (i := 7) (Mk.x (i := 6) (Mk.v (i := 5) (Mk.rf hI) (by decide) ⟨ja, hja, ha⟩) (by decide) (by decide) (by decide)) (by decide) (by decide) (by decide)) (by decide) (by decide) (by decide)) (by decide) (by decide) (by decide)).trans k8
  refine lv_aload_n hx hb dX6_adds_61 rfl (lv_at hl 0 rfl) ?_
  refine lv_dup hx hb dX6_adds_62 rfl ?_
  refine rg_Model_orders F hK hP (K8.1.1.1.1 0 (by decide)) kw_263 dX6_adds_63 ?_
  refine lv_topi (fun x9 ex9 => ?_)
  have hx9 : x9 = nI m9 := ex9.trans (K8.2.2.trans hm)
  refine lv_iconst (v := 1) hx hb dX6_adds_66 (by decide) ?_
  refine lv_iadd hx hb dX6_adds_67 ?_
  refine lv_topi (fun x10 ex10 => ?_)
  refine rp_Model_orders F hK hP hD hS (K8.1.1.1.1 0 (by decide)) kw_263 dX6_adds_68 (fun H locs hP hD hS => ?_)
  refine lv_aload_n hx hb dX6_adds_71 rfl (lv_at hl 0 rfl) ?_
  refine rg_Model_orders F hK hP (K8.1.1.1.1 0 (by decide)) kw_263 dX6_adds_72 ?_
  refine lv_topi (fun x11 ex11 => ?_)
  refine lv_iconst (v := 1) hx hb dX6_adds_75 (by decide) ?_
  refine lv_isub hx hb dX6_adds_76 ?_
  refine lv_topi (fun x12 ex12 => ?_)
  have hv9 : x10 = nI (m9 + 1) := by rw [ex10, hx9]; exact nI_1 m9
  have h8 : pX (setX (setX (setX S (w 5) (upd (pX S (w 5)) x1.toNatClampNeg a)) (w 6) (upd (pX (setX S (w 5) (upd (pX S (w 5)) x1.toNatClampNeg a)) (w 6)) x2.toNatClampNeg many)) (w 7) (upd (pX (setX (setX S (w 5) (upd (pX S (w 5)) x1.toNatClampNeg a)) (w 6) (upd (pX (setX S (w 5) (upd (pX S (w 5)) x1.toNatClampNeg a)) (w 6)) x2.toNatClampNeg many)) (w 7)) x3.toNatClampNeg bw)) (w 8) = pX S (w 8) := (va_up_ne _ _ (hI.ne (by decide) (by decide) (by decide))).trans ((va_up_ne _ _ (hI.ne (by decide) (by decide) (by decide))).trans (va_up_ne _ _ (hI.ne (by decide) (by decide) (by decide))))
  have hfin := Mk.o (q := m9 + 1) K8 hv9 (by omega)
  exact kEndI F hr rfl hlk hP hD hS (Nat.le_of_ble_eq_true rfl) (Nat.le_of_ble_eq_true rfl) dX6_adds_77 ⟨_, rfl, ⟨hfin.1, hfin.2, uF_at.trans hv9, (uF_of (Or.inl (by decide))).trans c8_, s8.trans ((va_up_ne _ _ (hI.ne (by decide) (by decide) (by decide))).trans ((va_up_self _ _ _).trans (by rw [h8, hx4, nI_clamp (by omega)]))), by rw [ex12, show x11 = nI (m9 + 1) from ex11.trans (uF_at.trans hv9), ← nI_1]; exact Int32.add_sub_cancel _ _⟩⟩
theorem dX6_shelves_0 : decode cX6_shelves 0 = .ok (.aload_n 0, 1) := by decide +kernel
theorem dX6_shelves_1 : decode cX6_shelves 1 = .ok (.getfield 19, 3) := by decide +kernel
theorem dX6_shelves_4 : decode cX6_shelves 4 = .ok (.iload_n 1, 1) := by decide +kernel
theorem dX6_shelves_5 : decode cX6_shelves 5 = .ok (.iaload, 1) := by decide +kernel
theorem dX6_shelves_6 : decode cX6_shelves 6 = .ok (.aload_n 0, 1) := by decide +kernel
theorem dX6_shelves_7 : decode cX6_shelves 7 = .ok (.getfield 13, 3) := by decide +kernel
theorem dX6_shelves_10 : decode cX6_shelves 10 = .ok (.iload_n 1, 1) := by decide +kernel
theorem dX6_shelves_11 : decode cX6_shelves 11 = .ok (.iaload, 1) := by decide +kernel
theorem dX6_shelves_12 : decode cX6_shelves 12 = .ok (.isub, 1) := by decide +kernel
theorem dX6_shelves_13 : decode cX6_shelves 13 = .ok (.istore_n 3, 1) := by decide +kernel
theorem dX6_shelves_14 : decode cX6_shelves 14 = .ok (.iload_n 2, 1) := by decide +kernel
theorem dX6_shelves_15 : decode cX6_shelves 15 = .ok (.iload_n 3, 1) := by decide +kernel
theorem dX6_shelves_16 : decode cX6_shelves 16 = .ok (.if_icmp .ge 7, 3) := by decide +kernel
theorem dX6_shelves_19 : decode cX6_shelves 19 = .ok (.iload_n 2, 1) := by decide +kernel
theorem dX6_shelves_20 : decode cX6_shelves 20 = .ok (.goto 4, 3) := by decide +kernel
theorem dX6_shelves_23 : decode cX6_shelves 23 = .ok (.iload_n 3, 1) := by decide +kernel
theorem dX6_shelves_24 : decode cX6_shelves 24 = .ok (.istore 4, 2) := by decide +kernel
theorem dX6_shelves_26 : decode cX6_shelves 26 = .ok (.aload_n 0, 1) := by decide +kernel
theorem dX6_shelves_27 : decode cX6_shelves 27 = .ok (.getfield 13, 3) := by decide +kernel
theorem dX6_shelves_30 : decode cX6_shelves 30 = .ok (.iload_n 1, 1) := by decide +kernel
theorem dX6_shelves_31 : decode cX6_shelves 31 = .ok (.dup2, 1) := by decide +kernel
theorem dX6_shelves_32 : decode cX6_shelves 32 = .ok (.iaload, 1) := by decide +kernel
theorem dX6_shelves_33 : decode cX6_shelves 33 = .ok (.iload 4, 2) := by decide +kernel
theorem dX6_shelves_35 : decode cX6_shelves 35 = .ok (.iadd, 1) := by decide +kernel
theorem dX6_shelves_36 : decode cX6_shelves 36 = .ok (.iastore, 1) := by decide +kernel
theorem dX6_shelves_37 : decode cX6_shelves 37 = .ok (.aload_n 0, 1) := by decide +kernel
theorem dX6_shelves_38 : decode cX6_shelves 38 = .ok (.getfield 16, 3) := by decide +kernel
theorem dX6_shelves_41 : decode cX6_shelves 41 = .ok (.iload_n 1, 1) := by decide +kernel
theorem dX6_shelves_42 : decode cX6_shelves 42 = .ok (.dup2, 1) := by decide +kernel
theorem dX6_shelves_43 : decode cX6_shelves 43 = .ok (.iaload, 1) := by decide +kernel
theorem dX6_shelves_44 : decode cX6_shelves 44 = .ok (.iload_n 2, 1) := by decide +kernel
theorem dX6_shelves_45 : decode cX6_shelves 45 = .ok (.iload 4, 2) := by decide +kernel
theorem dX6_shelves_47 : decode cX6_shelves 47 = .ok (.isub, 1) := by decide +kernel
theorem dX6_shelves_48 : decode cX6_shelves 48 = .ok (.iadd, 1) := by decide +kernel
theorem dX6_shelves_49 : decode cX6_shelves 49 = .ok (.iastore, 1) := by decide +kernel
theorem dX6_shelves_50 : decode cX6_shelves 50 = .ok (.iload 4, 2) := by decide +kernel
theorem dX6_shelves_52 : decode cX6_shelves 52 = .ok (.ireturn, 1) := by decide +kernel
set_option maxHeartbeats 4000000 in
set_option maxRecDepth 100000 in
theorem c_X6_shelves (l : Launch) (hl0 : l.stackTraces = false) (g : kG) (e0 : Nat) (w : Nat → Nat) (S : wPS) (sz : Nat) (hI : MI w S) (a un : Int32) (ja : Nat) (hja : ja < 6) (ha : a = nI ja) : kM l g e0 yX6_shelves cX6_shelves 5 (some .int) 0 0 0 0 [.ref (w 0), .int a, .int un] S sz (pI (fun r T => Mk w S T ∧ pF T 106 (w 0) = pF S 106 (w 0))) (fun E => False) := by
  refine kM.of (by decide) (Nat.le_of_ble_eq_true rfl) ?_
  intro p e s m below meth c ls B hin
  obtain ⟨F, hr, hlk, hte, hP, hK, hD, hE, hS, hA, hl, hsz⟩ := B
  subst hsz
  have hx := F.1
  have hb := F.2.1
  have hl : lv_has ls 5 [(0, .ref (w 0)), (1, .int a), (2, .int un)] := hl
  refine lv_aload_n hx hb dX6_shelves_0 rfl (lv_at hl 0 rfl) ?_
  refine rs_Model_room (b := w 4) F hK hP (hI.1.1 0 (by decide)) ((hI.2.1 4 (by decide) (by decide)).1) kw_70 dX6_shelves_1 ?_
  refine lv_iload_n hx hb dX6_shelves_4 rfl (lv_at hl 1 rfl) ?_
  refine rd_I F hK hP (hI.1.1 4 (by decide)) (by rw [show pN S (w 4) = 6 from (hI.2.1 4 (by decide) (by decide)).2, ha]; exact vp_in_nI (by omega) (by decide)) dX6_shelves_5 ?_
  refine lv_topi (fun x1 ex1 => ?_)
  refine lv_aload_n hx hb dX6_shelves_6 rfl (lv_at hl 0 rfl) ?_
  refine rs_Model_stock (b := w 2) F hK hP (hI.1.1 0 (by decide)) ((hI.2.1 2 (by decide) (by decide)).1) kw_68 dX6_shelves_7 ?_
  refine lv_iload_n hx hb dX6_shelves_10 rfl (lv_at hl 1 rfl) ?_
  refine rd_I F hK hP (hI.1.1 2 (by decide)) (by rw [show pN S (w 2) = 6 from (hI.2.1 2 (by decide) (by decide)).2, ha]; exact vp_in_nI (by omega) (by decide)) dX6_shelves_11 ?_
  refine lv_topi (fun x2 ex2 => ?_)
  refine lv_isub hx hb dX6_shelves_12 ?_
  refine lv_topi (fun x3 ex3 => ?_)
  refine lv_istore_n (lv' := [(3, .int x3), (0, .ref (w 0)), (1, .int a), (2, .int un)]) hx hb dX6_shelves_13 rfl hl (by decide) rfl (fun ls hl => ?_)
  refine lv_iload_n hx hb dX6_shelves_14 rfl (lv_at hl 3 rfl) ?_
  refine lv_iload_n hx hb dX6_shelves_15 rfl (lv_at hl 0 rfl) ?_
  refine lv_icmp_ge (tgt := 23) hx hb dX6_shelves_16 (by decide) (fun c4 => ?_) (fun c4 => ?_)
  · refine lv_iload_n hx hb dX6_shelves_23 rfl (lv_at hl 0 rfl) ?_
    refine lv_istore (lv' := [(4, .int x3), (3, .int x3), (0, .ref (w 0)), (1, .int a), (2, .int un)]) hx hb dX6_shelves_24 hl (by decide) rfl (fun ls hl => ?_)
    refine lv_aload_n hx hb dX6_shelves_26 rfl (lv_at hl 2 rfl) ?_
    refine rs_Model_stock (b := w 2) F hK hP (hI.1.1 0 (by decide)) ((hI.2.1 2 (by decide) (by decide)).1) kw_68 dX6_shelves_27 ?_
    refine lv_iload_n hx hb dX6_shelves_30 rfl (lv_at hl 3 rfl) ?_
    refine lv_dup2_11 hx hb dX6_shelves_31 rfl rfl ?_
    refine rd_I F hK hP (hI.1.1 2 (by decide)) (by rw [show pN S (w 2) = 6 from (hI.2.1 2 (by decide) (by decide)).2, ha]; exact vp_in_nI (by omega) (by decide)) dX6_shelves_32 ?_
    refine lv_topi (fun x5 ex5 => ?_)
    refine lv_iload hx hb dX6_shelves_33 (lv_at hl 0 rfl) ?_
    refine lv_iadd hx hb dX6_shelves_35 ?_
    refine lv_topi (fun x6 ex6 => ?_)
    refine rt_I F hK hP hD hS (hI.1.1 2 (by decide)) (by rw [show pN S (w 2) = 6 from (hI.2.1 2 (by decide) (by decide)).2, ha]; exact vp_in_nI (by omega) (by decide)) dX6_shelves_36 (fun H locs hP hD hS => ?_)
    refine lv_aload_n hx hb dX6_shelves_37 rfl (lv_at hl 2 rfl) ?_
    refine rs_Model_reserve (b := w 3) F hK hP (hI.1.1 0 (by decide)) ((hI.2.1 3 (by decide) (by decide)).1) kw_69 dX6_shelves_38 ?_
    refine lv_iload_n hx hb dX6_shelves_41 rfl (lv_at hl 3 rfl) ?_
    refine lv_dup2_11 hx hb dX6_shelves_42 rfl rfl ?_
    refine rd_I F hK hP (hI.1.1 3 (by decide)) (by rw [show pN (setX S (w 2) (upd (pX S (w 2)) a.toNatClampNeg x6)) (w 3) = 6 from (hI.2.1 3 (by decide) (by decide)).2, ha]; exact vp_in_nI (by omega) (by decide)) dX6_shelves_43 ?_
    refine lv_topi (fun x7 ex7 => ?_)
    refine lv_iload_n hx hb dX6_shelves_44 rfl (lv_at hl 4 rfl) ?_
    refine lv_iload hx hb dX6_shelves_45 (lv_at hl 0 rfl) ?_
    refine lv_isub hx hb dX6_shelves_47 ?_
    refine lv_topi (fun x8 ex8 => ?_)
    refine lv_iadd hx hb dX6_shelves_48 ?_
    refine lv_topi (fun x9 ex9 => ?_)
    refine rt_I F hK hP hD hS (hI.1.1 3 (by decide)) (by rw [show pN (setX S (w 2) (upd (pX S (w 2)) a.toNatClampNeg x6)) (w 3) = 6 from (hI.2.1 3 (by decide) (by decide)).2, ha]; exact vp_in_nI (by omega) (by decide)) dX6_shelves_49 (fun H locs hP hD hS => ?_)
    refine lv_iload hx hb dX6_shelves_50 (lv_at hl 0 rfl) ?_
    exact kEndI F hr rfl hlk hP hD hS (Nat.le_of_ble_eq_true rfl) (Nat.le_of_ble_eq_true rfl) dX6_shelves_52 ⟨_, rfl, ⟨(Mk.x (i := 3) (Mk.x (i := 2) (Mk.rf hI) (by decide) (by decide) (by decide)) (by decide) (by decide) (by decide)), rfl⟩⟩
  · refine lv_iload_n hx hb dX6_shelves_19 rfl (lv_at hl 3 rfl) ?_
    refine lv_goto (tgt := 24) hx hb dX6_shelves_20 (by decide) ?_
    refine lv_istore (lv' := [(4, .int un), (3, .int x3), (0, .ref (w 0)), (1, .int a), (2, .int un)]) hx hb dX6_shelves_24 hl (by decide) rfl (fun ls hl => ?_)
    refine lv_aload_n hx hb dX6_shelves_26 rfl (lv_at hl 2 rfl) ?_
    refine rs_Model_stock (b := w 2) F hK hP (hI.1.1 0 (by decide)) ((hI.2.1 2 (by decide) (by decide)).1) kw_68 dX6_shelves_27 ?_
    refine lv_iload_n hx hb dX6_shelves_30 rfl (lv_at hl 3 rfl) ?_
    refine lv_dup2_11 hx hb dX6_shelves_31 rfl rfl ?_
    refine rd_I F hK hP (hI.1.1 2 (by decide)) (by rw [show pN S (w 2) = 6 from (hI.2.1 2 (by decide) (by decide)).2, ha]; exact vp_in_nI (by omega) (by decide)) dX6_shelves_32 ?_
    refine lv_topi (fun x10 ex10 => ?_)
    refine lv_iload hx hb dX6_shelves_33 (lv_at hl 0 rfl) ?_
    refine lv_iadd hx hb dX6_shelves_35 ?_
    refine lv_topi (fun x11 ex11 => ?_)
    refine rt_I F hK hP hD hS (hI.1.1 2 (by decide)) (by rw [show pN S (w 2) = 6 from (hI.2.1 2 (by decide) (by decide)).2, ha]; exact vp_in_nI (by omega) (by decide)) dX6_shelves_36 (fun H locs hP hD hS => ?_)
    refine lv_aload_n hx hb dX6_shelves_37 rfl (lv_at hl 2 rfl) ?_
    refine rs_Model_reserve (b := w 3) F hK hP (hI.1.1 0 (by decide)) ((hI.2.1 3 (by decide) (by decide)).1) kw_69 dX6_shelves_38 ?_
    refine lv_iload_n hx hb dX6_shelves_41 rfl (lv_at hl 3 rfl) ?_
    refine lv_dup2_11 hx hb dX6_shelves_42 rfl rfl ?_
    refine rd_I F hK hP (hI.1.1 3 (by decide)) (by rw [show pN (setX S (w 2) (upd (pX S (w 2)) a.toNatClampNeg x11)) (w 3) = 6 from (hI.2.1 3 (by decide) (by decide)).2, ha]; exact vp_in_nI (by omega) (by decide)) dX6_shelves_43 ?_
    refine lv_topi (fun x12 ex12 => ?_)
    refine lv_iload_n hx hb dX6_shelves_44 rfl (lv_at hl 4 rfl) ?_
    refine lv_iload hx hb dX6_shelves_45 (lv_at hl 0 rfl) ?_
    refine lv_isub hx hb dX6_shelves_47 ?_
    refine lv_topi (fun x13 ex13 => ?_)
    refine lv_iadd hx hb dX6_shelves_48 ?_
    refine lv_topi (fun x14 ex14 => ?_)
    refine rt_I F hK hP hD hS (hI.1.1 3 (by decide)) (by rw [show pN (setX S (w 2) (upd (pX S (w 2)) a.toNatClampNeg x11)) (w 3) = 6 from (hI.2.1 3 (by decide) (by decide)).2, ha]; exact vp_in_nI (by omega) (by decide)) dX6_shelves_49 (fun H locs hP hD hS => ?_)
    refine lv_iload hx hb dX6_shelves_50 (lv_at hl 0 rfl) ?_
    exact kEndI F hr rfl hlk hP hD hS (Nat.le_of_ble_eq_true rfl) (Nat.le_of_ble_eq_true rfl) dX6_shelves_52 ⟨_, rfl, ⟨(Mk.x (i := 3) (Mk.x (i := 2) (Mk.rf hI) (by decide) (by decide) (by decide)) (by decide) (by decide) (by decide)), rfl⟩⟩
theorem dX6_setPickers_0 : decode cX6_setPickers 0 = .ok (.aload_n 0, 1) := by decide +kernel
theorem dX6_setPickers_1 : decode cX6_setPickers 1 = .ok (.iload_n 1, 1) := by decide +kernel
theorem dX6_setPickers_2 : decode cX6_setPickers 2 = .ok (.invokevirtual 100, 3) := by decide +kernel
theorem dX6_setPickers_5 : decode cX6_setPickers 5 = .ok (.ifCond .ne 5, 3) := by decide +kernel
theorem dX6_setPickers_8 : decode cX6_setPickers 8 = .ok (.iconst 0, 1) := by decide +kernel
theorem dX6_setPickers_9 : decode cX6_setPickers 9 = .ok (.ireturn, 1) := by decide +kernel
theorem dX6_setPickers_10 : decode cX6_setPickers 10 = .ok (.iload_n 2, 1) := by decide +kernel
theorem dX6_setPickers_11 : decode cX6_setPickers 11 = .ok (.iconst 0, 1) := by decide +kernel
theorem dX6_setPickers_12 : decode cX6_setPickers 12 = .ok (.bipush 9, 2) := by decide +kernel
theorem dX6_setPickers_14 : decode cX6_setPickers 14 = .ok (.invokestatic 69, 3) := by decide +kernel
theorem dX6_setPickers_17 : decode cX6_setPickers 17 = .ok (.ifCond .ne 9, 3) := by decide +kernel
theorem dX6_setPickers_20 : decode cX6_setPickers 20 = .ok (.aload_n 0, 1) := by decide +kernel
theorem dX6_setPickers_21 : decode cX6_setPickers 21 = .ok (.iconst 2, 1) := by decide +kernel
theorem dX6_setPickers_22 : decode cX6_setPickers 22 = .ok (.invokevirtual 87, 3) := by decide +kernel
theorem dX6_setPickers_25 : decode cX6_setPickers 25 = .ok (.ireturn, 1) := by decide +kernel
theorem dX6_setPickers_26 : decode cX6_setPickers 26 = .ok (.aload_n 0, 1) := by decide +kernel
theorem dX6_setPickers_27 : decode cX6_setPickers 27 = .ok (.getfield 41, 3) := by decide +kernel
theorem dX6_setPickers_30 : decode cX6_setPickers 30 = .ok (.iload_n 1, 1) := by decide +kernel
theorem dX6_setPickers_31 : decode cX6_setPickers 31 = .ok (.iaload, 1) := by decide +kernel
theorem dX6_setPickers_32 : decode cX6_setPickers 32 = .ok (.istore_n 3, 1) := by decide +kernel
theorem dX6_setPickers_33 : decode cX6_setPickers 33 = .ok (.aload_n 0, 1) := by decide +kernel
theorem dX6_setPickers_34 : decode cX6_setPickers 34 = .ok (.getfield 41, 3) := by decide +kernel
theorem dX6_setPickers_37 : decode cX6_setPickers 37 = .ok (.iload_n 1, 1) := by decide +kernel
theorem dX6_setPickers_38 : decode cX6_setPickers 38 = .ok (.iload_n 2, 1) := by decide +kernel
theorem dX6_setPickers_39 : decode cX6_setPickers 39 = .ok (.iastore, 1) := by decide +kernel
theorem dX6_setPickers_40 : decode cX6_setPickers 40 = .ok (.iload_n 3, 1) := by decide +kernel
theorem dX6_setPickers_41 : decode cX6_setPickers 41 = .ok (.ireturn, 1) := by decide +kernel
set_option maxHeartbeats 4000000 in
set_option maxRecDepth 100000 in
theorem c_X6_setPickers (l : Launch) (hl0 : l.stackTraces = false) (g : kG) (e0 : Nat) (w : Nat → Nat) (S : wPS) (sz : Nat) (hI : MI w S) (n v : Int32) : kM l g e0 yX6_setPickers cX6_setPickers 4 (some .int) 2 43 0 0 [.ref (w 0), .int n, .int v] S sz (pI (fun r T => pF T 106 (w 0) = pF S 106 (w 0) ∧ ((pF T 100 (w 0) = 1 ∧ (n < 0 ∨ 3 < n) ∧ Mr w S T) ∨ ∃ j, j < 4 ∧ n = nI j ∧ ((pF T 100 (w 0) = 2 ∧ (v < 0 ∨ 9 < v) ∧ Mr w S T) ∨ (pF T 100 (w 0) = 0 ∧ (¬ v < 0 ∧ ¬ 9 < v) ∧ r = pX S (w 11) j ∧ Mr w (setX S (w 11) (upd (pX S (w 11)) j v)) T))))) (fun E => False) := by
  refine kM.of (by decide) (Nat.le_of_ble_eq_true rfl) ?_
  intro p e s m below meth c ls B hin
  obtain ⟨F, hr, hlk, hte, hP, hK, hD, hE, hS, hA, hl, hsz⟩ := B
  subst hsz
  have hx := F.1
  have hb := F.2.1
  have hl : lv_has ls 4 [(0, .ref (w 0)), (1, .int n), (2, .int v)] := hl
  refine lv_aload_n hx hb dX6_setPickers_0 rfl (lv_at hl 0 rfl) ?_
  refine lv_iload_n hx hb dX6_setPickers_1 rfl (lv_at hl 1 rfl) ?_
  refine kcallI (kV (n := 1) (As := [.int n]) (rest := []) (b := (w 0)) (C := RX6) F hE hK hP hD hS hA (c_X6_isAisle l hl0 g e0 w S _ hI n) (rr_Model hK hP (hI.1.1 0 (by decide))) kw_335 kw_336 kw_337 kw_5 kw_338 (by decide +kernel) ⟨Nat.le_of_ble_eq_true rfl, Nat.le_of_ble_eq_true rfl⟩ rfl hl.1 rfl (Nat.le_of_ble_eq_true rfl) dX6_setPickers_2 ⟨Nat.le_of_ble_eq_true rfl, Nat.le_of_ble_eq_true rfl⟩) rfl hD hS hA (fun _ _ _ _ _ h => False.elim h) (fun r1 T1 H locs hp hP hD hS => ?_)
  have hp := hp
  rcases hp with ⟨hr, hT, j2, hj2, hn2⟩ | ⟨hr, hT, ho2⟩
  · subst hT
    subst hr
    have m2 : Mr w S (setF S 100 (w 0) 0) := (Mr.rf hI).thr
    refine lv_if_ne (tgt := 10) hx hb dX6_setPickers_5 (by decide) (fun c3 => ?_) (fun c3 => ?_)
    · have hcl : n.toNatClampNeg = j2 := by rw [hn2, nI_clamp (by omega)]
      refine lv_iload_n hx hb dX6_setPickers_10 rfl (lv_at hl 2 rfl) ?_
      refine lv_iconst (v := 0) hx hb dX6_setPickers_11 (by decide) ?_
      refine lv_bipush (v := 9) hx hb dX6_setPickers_12 (by decide) ?_
      refine kcallI (kSt (n := 3) (As := [.int v, .int 0, .int 9]) (rest := []) F hE hK hP hD hS hA (c_X6_in l hl0 g e0 (setF S 100 (w 0) 0) _ v 0 9) kw_180 kw_181 kw_5 kw_182 (by decide +kernel) ⟨Nat.le_of_ble_eq_true rfl, Nat.le_of_ble_eq_true rfl⟩ rfl hl.1 rfl (Nat.le_of_ble_eq_true rfl) dX6_setPickers_14 ⟨Nat.le_of_ble_eq_true rfl, Nat.le_of_ble_eq_true rfl⟩) rfl hD hS hA (fun _ _ _ _ _ h => False.elim h) (fun r4 T4 H locs hp hP hD hS => ?_)
      obtain ⟨hT, hp5⟩ := hp
      have hT := hT.symm
      subst hT
      refine lv_if_ne (tgt := 26) hx hb dX6_setPickers_17 (by decide) (fun c6 => ?_) (fun c6 => ?_)
      · have hok := (show _ ∧ _ from by rcases hp5 with ⟨-, h1, h2⟩ | ⟨h, -⟩; exact ⟨h1, h2⟩; exact absurd c6 (by rw [h]; decide))
        refine lv_aload_n hx hb dX6_setPickers_26 rfl (lv_at hl 0 rfl) ?_
        refine rs_Model_pickers (b := w 11) F hK hP (m2.1.1.1 0 (by decide)) ((m2.1.2.1 11 (by decide) (by decide)).1) kw_78 dX6_setPickers_27 ?_
        refine lv_iload_n hx hb dX6_setPickers_30 rfl (lv_at hl 1 rfl) ?_
        refine rd_I F hK hP (m2.1.1.1 11 (by decide)) (by rw [show pN (setF S 100 (w 0) 0) (w 11) = 4 from (m2.1.2.1 11 (by decide) (by decide)).2, hn2]; exact vp_in_nI (by omega) (by decide)) dX6_setPickers_31 ?_
        refine lv_topi (fun x7 ex7 => ?_)
        refine lv_istore_n (lv' := [(3, .int x7), (0, .ref (w 0)), (1, .int n), (2, .int v)]) hx hb dX6_setPickers_32 rfl hl (by decide) rfl (fun ls hl => ?_)
        refine lv_aload_n hx hb dX6_setPickers_33 rfl (lv_at hl 1 rfl) ?_
        refine rs_Model_pickers (b := w 11) F hK hP (m2.1.1.1 0 (by decide)) ((m2.1.2.1 11 (by decide) (by decide)).1) kw_78 dX6_setPickers_34 ?_
        refine lv_iload_n hx hb dX6_setPickers_37 rfl (lv_at hl 2 rfl) ?_
        refine lv_iload_n hx hb dX6_setPickers_38 rfl (lv_at hl 3 rfl) ?_
        refine rt_I F hK hP hD hS (m2.1.1.1 11 (by decide)) (by rw [show pN (setF S 100 (w 0) 0) (w 11) = 4 from (m2.1.2.1 11 (by decide) (by decide)).2, hn2]; exact vp_in_nI (by omega) (by decide)) dX6_setPickers_39 (fun H locs hP hD hS => ?_)
        refine lv_iload_n hx hb dX6_setPickers_40 rfl (lv_at hl 0 rfl) ?_
        exact kEndI F hr rfl hlk hP hD hS (Nat.le_of_ble_eq_true rfl) (Nat.le_of_ble_eq_true rfl) dX6_setPickers_41 ⟨_, rfl, ⟨(show pF (setF S 100 (w 0) 0) 106 (w 0) = pF S 106 (w 0) from ((uF_of (Or.inl (by decide))).trans rfl)), Or.inr ⟨j2, hj2, hn2, Or.inr ⟨(show pF (setF S 100 (w 0) 0) 100 (w 0) = 0 from uF_at), hok, ex7.trans (congrArg (pX S (w 11)) hcl), by rw [← hcl]; exact Mr.swap hI (by decide)⟩⟩⟩⟩
      · refine lv_aload_n hx hb dX6_setPickers_20 rfl (lv_at hl 0 rfl) ?_
        refine lv_iconst (v := 2) hx hb dX6_setPickers_21 (by decide) ?_
        refine kcallI (kV (n := 1) (As := [.int 2]) (rest := []) (b := (w 0)) (C := RX6) F hE hK hP hD hS hA (c_X6_fails l hl0 g e0 (setF S 100 (w 0) 0) _ (w 0) 2 (m2.1.1.1 0 (by decide))) (rr_Model hK hP (m2.1.1.1 0 (by decide))) kw_183 kw_184 kw_185 kw_5 kw_186 (by decide +kernel) ⟨Nat.le_of_ble_eq_true rfl, Nat.le_of_ble_eq_true rfl⟩ rfl hl.1 rfl (Nat.le_of_ble_eq_true rfl) dX6_setPickers_22 ⟨Nat.le_of_ble_eq_true rfl, Nat.le_of_ble_eq_true rfl⟩) rfl hD hS hA (fun _ _ _ _ _ h => False.elim h) (fun r8 T8 H locs hp hP hD hS => ?_)
        obtain ⟨hT, hr9⟩ := hp
        subst hT
        have m9 : Mr w S (setF (setF S 100 (w 0) 0) 100 (w 0) 2) := m2.thr
        subst hr9
        exact kEndI F hr rfl hlk hP hD hS (Nat.le_of_ble_eq_true rfl) (Nat.le_of_ble_eq_true rfl) dX6_setPickers_25 ⟨_, rfl, ⟨((uF_of (Or.inl (by decide))).trans ((uF_of (Or.inl (by decide))).trans rfl)), Or.inr ⟨j2, hj2, hn2, Or.inl ⟨uF_at, (by rcases hp5 with ⟨h, -, -⟩ | ⟨-, h⟩; exact absurd c6 (by rw [h]; decide); exact h), m9⟩⟩⟩⟩
    · exact absurd c3 (by decide)
  · subst hT
    subst hr
    have m2 : Mr w S (setF S 100 (w 0) 1) := (Mr.rf hI).thr
    refine lv_if_ne (tgt := 10) hx hb dX6_setPickers_5 (by decide) (fun c10 => ?_) (fun c10 => ?_)
    · exact absurd c10 (by decide)
    · refine lv_iconst (v := 0) hx hb dX6_setPickers_8 (by decide) ?_
      exact kEndI F hr rfl hlk hP hD hS (Nat.le_of_ble_eq_true rfl) (Nat.le_of_ble_eq_true rfl) dX6_setPickers_9 ⟨_, rfl, ⟨((uF_of (Or.inl (by decide))).trans rfl), Or.inl ⟨uF_at, ho2, m2⟩⟩⟩
theorem dX6_setCutOff_0 : decode cX6_setCutOff 0 = .ok (.aload_n 0, 1) := by decide +kernel
theorem dX6_setCutOff_1 : decode cX6_setCutOff 1 = .ok (.iload_n 1, 1) := by decide +kernel
theorem dX6_setCutOff_2 : decode cX6_setCutOff 2 = .ok (.invokevirtual 124, 3) := by decide +kernel
theorem dX6_setCutOff_5 : decode cX6_setCutOff 5 = .ok (.ifCond .ne 5, 3) := by decide +kernel
theorem dX6_setCutOff_8 : decode cX6_setCutOff 8 = .ok (.iconst 0, 1) := by decide +kernel
theorem dX6_setCutOff_9 : decode cX6_setCutOff 9 = .ok (.ireturn, 1) := by decide +kernel
theorem dX6_setCutOff_10 : decode cX6_setCutOff 10 = .ok (.iload_n 2, 1) := by decide +kernel
theorem dX6_setCutOff_11 : decode cX6_setCutOff 11 = .ok (.iconst 0, 1) := by decide +kernel
theorem dX6_setCutOff_12 : decode cX6_setCutOff 12 = .ok (.sipush 1439, 3) := by decide +kernel
theorem dX6_setCutOff_15 : decode cX6_setCutOff 15 = .ok (.invokestatic 69, 3) := by decide +kernel
theorem dX6_setCutOff_18 : decode cX6_setCutOff 18 = .ok (.ifCond .ne 9, 3) := by decide +kernel
theorem dX6_setCutOff_21 : decode cX6_setCutOff 21 = .ok (.aload_n 0, 1) := by decide +kernel
theorem dX6_setCutOff_22 : decode cX6_setCutOff 22 = .ok (.iconst 2, 1) := by decide +kernel
theorem dX6_setCutOff_23 : decode cX6_setCutOff 23 = .ok (.invokevirtual 87, 3) := by decide +kernel
theorem dX6_setCutOff_26 : decode cX6_setCutOff 26 = .ok (.ireturn, 1) := by decide +kernel
theorem dX6_setCutOff_27 : decode cX6_setCutOff 27 = .ok (.aload_n 0, 1) := by decide +kernel
theorem dX6_setCutOff_28 : decode cX6_setCutOff 28 = .ok (.getfield 44, 3) := by decide +kernel
theorem dX6_setCutOff_31 : decode cX6_setCutOff 31 = .ok (.iload_n 1, 1) := by decide +kernel
theorem dX6_setCutOff_32 : decode cX6_setCutOff 32 = .ok (.iaload, 1) := by decide +kernel
theorem dX6_setCutOff_33 : decode cX6_setCutOff 33 = .ok (.istore_n 3, 1) := by decide +kernel
theorem dX6_setCutOff_34 : decode cX6_setCutOff 34 = .ok (.aload_n 0, 1) := by decide +kernel
theorem dX6_setCutOff_35 : decode cX6_setCutOff 35 = .ok (.getfield 44, 3) := by decide +kernel
theorem dX6_setCutOff_38 : decode cX6_setCutOff 38 = .ok (.iload_n 1, 1) := by decide +kernel
theorem dX6_setCutOff_39 : decode cX6_setCutOff 39 = .ok (.iload_n 2, 1) := by decide +kernel
theorem dX6_setCutOff_40 : decode cX6_setCutOff 40 = .ok (.iastore, 1) := by decide +kernel
theorem dX6_setCutOff_41 : decode cX6_setCutOff 41 = .ok (.iload_n 3, 1) := by decide +kernel
theorem dX6_setCutOff_42 : decode cX6_setCutOff 42 = .ok (.ireturn, 1) := by decide +kernel
set_option maxHeartbeats 4000000 in
set_option maxRecDepth 100000 in
theorem c_X6_setCutOff (l : Launch) (hl0 : l.stackTraces = false) (g : kG) (e0 : Nat) (w : Nat → Nat) (S : wPS) (sz : Nat) (hI : MI w S) (n v : Int32) : kM l g e0 yX6_setCutOff cX6_setCutOff 4 (some .int) 2 43 0 0 [.ref (w 0), .int n, .int v] S sz (pI (fun r T => pF T 106 (w 0) = pF S 106 (w 0) ∧ ((pF T 100 (w 0) = 1 ∧ (n < 0 ∨ 2 < n) ∧ Mr w S T) ∨ ∃ j, j < 3 ∧ n = nI j ∧ ((pF T 100 (w 0) = 2 ∧ (v < 0 ∨ 1439 < v) ∧ Mr w S T) ∨ (pF T 100 (w 0) = 0 ∧ (¬ v < 0 ∧ ¬ 1439 < v) ∧ r = pX S (w 12) j ∧ Mr w (setX S (w 12) (upd (pX S (w 12)) j v)) T))))) (fun E => False) := by
  refine kM.of (by decide) (Nat.le_of_ble_eq_true rfl) ?_
  intro p e s m below meth c ls B hin
  obtain ⟨F, hr, hlk, hte, hP, hK, hD, hE, hS, hA, hl, hsz⟩ := B
  subst hsz
  have hx := F.1
  have hb := F.2.1
  have hl : lv_has ls 4 [(0, .ref (w 0)), (1, .int n), (2, .int v)] := hl
  refine lv_aload_n hx hb dX6_setCutOff_0 rfl (lv_at hl 0 rfl) ?_
  refine lv_iload_n hx hb dX6_setCutOff_1 rfl (lv_at hl 1 rfl) ?_
  refine kcallI (kV (n := 1) (As := [.int n]) (rest := []) (b := (w 0)) (C := RX6) F hE hK hP hD hS hA (c_X6_isCarrier l hl0 g e0 w S _ hI n) (rr_Model hK hP (hI.1.1 0 (by decide))) kw_532 kw_533 kw_534 kw_5 kw_535 (by decide +kernel) ⟨Nat.le_of_ble_eq_true rfl, Nat.le_of_ble_eq_true rfl⟩ rfl hl.1 rfl (Nat.le_of_ble_eq_true rfl) dX6_setCutOff_2 ⟨Nat.le_of_ble_eq_true rfl, Nat.le_of_ble_eq_true rfl⟩) rfl hD hS hA (fun _ _ _ _ _ h => False.elim h) (fun r1 T1 H locs hp hP hD hS => ?_)
  have hp := hp
  rcases hp with ⟨hr, hT, j2, hj2, hn2⟩ | ⟨hr, hT, ho2⟩
  · subst hT
    subst hr
    have m2 : Mr w S (setF S 100 (w 0) 0) := (Mr.rf hI).thr
    refine lv_if_ne (tgt := 10) hx hb dX6_setCutOff_5 (by decide) (fun c3 => ?_) (fun c3 => ?_)
    · have hcl : n.toNatClampNeg = j2 := by rw [hn2, nI_clamp (by omega)]
      refine lv_iload_n hx hb dX6_setCutOff_10 rfl (lv_at hl 2 rfl) ?_
      refine lv_iconst (v := 0) hx hb dX6_setCutOff_11 (by decide) ?_
      refine lv_sipush (v := 1439) hx hb dX6_setCutOff_12 (by decide) ?_
      refine kcallI (kSt (n := 3) (As := [.int v, .int 0, .int 1439]) (rest := []) F hE hK hP hD hS hA (c_X6_in l hl0 g e0 (setF S 100 (w 0) 0) _ v 0 1439) kw_180 kw_181 kw_5 kw_182 (by decide +kernel) ⟨Nat.le_of_ble_eq_true rfl, Nat.le_of_ble_eq_true rfl⟩ rfl hl.1 rfl (Nat.le_of_ble_eq_true rfl) dX6_setCutOff_15 ⟨Nat.le_of_ble_eq_true rfl, Nat.le_of_ble_eq_true rfl⟩) rfl hD hS hA (fun _ _ _ _ _ h => False.elim h) (fun r4 T4 H locs hp hP hD hS => ?_)
      obtain ⟨hT, hp5⟩ := hp
      have hT := hT.symm
      subst hT
      refine lv_if_ne (tgt := 27) hx hb dX6_setCutOff_18 (by decide) (fun c6 => ?_) (fun c6 => ?_)
      · have hok := (show _ ∧ _ from by rcases hp5 with ⟨-, h1, h2⟩ | ⟨h, -⟩; exact ⟨h1, h2⟩; exact absurd c6 (by rw [h]; decide))
        refine lv_aload_n hx hb dX6_setCutOff_27 rfl (lv_at hl 0 rfl) ?_
        refine rs_Model_cutOff (b := w 12) F hK hP (m2.1.1.1 0 (by decide)) ((m2.1.2.1 12 (by decide) (by decide)).1) kw_79 dX6_setCutOff_28 ?_
        refine lv_iload_n hx hb dX6_setCutOff_31 rfl (lv_at hl 1 rfl) ?_
        refine rd_I F hK hP (m2.1.1.1 12 (by decide)) (by rw [show pN (setF S 100 (w 0) 0) (w 12) = 3 from (m2.1.2.1 12 (by decide) (by decide)).2, hn2]; exact vp_in_nI (by omega) (by decide)) dX6_setCutOff_32 ?_
        refine lv_topi (fun x7 ex7 => ?_)
        refine lv_istore_n (lv' := [(3, .int x7), (0, .ref (w 0)), (1, .int n), (2, .int v)]) hx hb dX6_setCutOff_33 rfl hl (by decide) rfl (fun ls hl => ?_)
        refine lv_aload_n hx hb dX6_setCutOff_34 rfl (lv_at hl 1 rfl) ?_
        refine rs_Model_cutOff (b := w 12) F hK hP (m2.1.1.1 0 (by decide)) ((m2.1.2.1 12 (by decide) (by decide)).1) kw_79 dX6_setCutOff_35 ?_
        refine lv_iload_n hx hb dX6_setCutOff_38 rfl (lv_at hl 2 rfl) ?_
        refine lv_iload_n hx hb dX6_setCutOff_39 rfl (lv_at hl 3 rfl) ?_
        refine rt_I F hK hP hD hS (m2.1.1.1 12 (by decide)) (by rw [show pN (setF S 100 (w 0) 0) (w 12) = 3 from (m2.1.2.1 12 (by decide) (by decide)).2, hn2]; exact vp_in_nI (by omega) (by decide)) dX6_setCutOff_40 (fun H locs hP hD hS => ?_)
        refine lv_iload_n hx hb dX6_setCutOff_41 rfl (lv_at hl 0 rfl) ?_
        exact kEndI F hr rfl hlk hP hD hS (Nat.le_of_ble_eq_true rfl) (Nat.le_of_ble_eq_true rfl) dX6_setCutOff_42 ⟨_, rfl, ⟨(show pF (setF S 100 (w 0) 0) 106 (w 0) = pF S 106 (w 0) from ((uF_of (Or.inl (by decide))).trans rfl)), Or.inr ⟨j2, hj2, hn2, Or.inr ⟨(show pF (setF S 100 (w 0) 0) 100 (w 0) = 0 from uF_at), hok, ex7.trans (congrArg (pX S (w 12)) hcl), by rw [← hcl]; exact Mr.swap hI (by decide)⟩⟩⟩⟩
      · refine lv_aload_n hx hb dX6_setCutOff_21 rfl (lv_at hl 0 rfl) ?_
        refine lv_iconst (v := 2) hx hb dX6_setCutOff_22 (by decide) ?_
        refine kcallI (kV (n := 1) (As := [.int 2]) (rest := []) (b := (w 0)) (C := RX6) F hE hK hP hD hS hA (c_X6_fails l hl0 g e0 (setF S 100 (w 0) 0) _ (w 0) 2 (m2.1.1.1 0 (by decide))) (rr_Model hK hP (m2.1.1.1 0 (by decide))) kw_183 kw_184 kw_185 kw_5 kw_186 (by decide +kernel) ⟨Nat.le_of_ble_eq_true rfl, Nat.le_of_ble_eq_true rfl⟩ rfl hl.1 rfl (Nat.le_of_ble_eq_true rfl) dX6_setCutOff_23 ⟨Nat.le_of_ble_eq_true rfl, Nat.le_of_ble_eq_true rfl⟩) rfl hD hS hA (fun _ _ _ _ _ h => False.elim h) (fun r8 T8 H locs hp hP hD hS => ?_)
        obtain ⟨hT, hr9⟩ := hp
        subst hT
        have m9 : Mr w S (setF (setF S 100 (w 0) 0) 100 (w 0) 2) := m2.thr
        subst hr9
        exact kEndI F hr rfl hlk hP hD hS (Nat.le_of_ble_eq_true rfl) (Nat.le_of_ble_eq_true rfl) dX6_setCutOff_26 ⟨_, rfl, ⟨((uF_of (Or.inl (by decide))).trans ((uF_of (Or.inl (by decide))).trans rfl)), Or.inr ⟨j2, hj2, hn2, Or.inl ⟨uF_at, (by rcases hp5 with ⟨h, -, -⟩ | ⟨-, h⟩; exact absurd c6 (by rw [h]; decide); exact h), m9⟩⟩⟩⟩
    · exact absurd c3 (by decide)
  · subst hT
    subst hr
    have m2 : Mr w S (setF S 100 (w 0) 1) := (Mr.rf hI).thr
    refine lv_if_ne (tgt := 10) hx hb dX6_setCutOff_5 (by decide) (fun c10 => ?_) (fun c10 => ?_)
    · exact absurd c10 (by decide)
    · refine lv_iconst (v := 0) hx hb dX6_setCutOff_8 (by decide) ?_
      exact kEndI F hr rfl hlk hP hD hS (Nat.le_of_ble_eq_true rfl) (Nat.le_of_ble_eq_true rfl) dX6_setCutOff_9 ⟨_, rfl, ⟨((uF_of (Or.inl (by decide))).trans rfl), Or.inl ⟨uF_at, ho2, m2⟩⟩⟩
