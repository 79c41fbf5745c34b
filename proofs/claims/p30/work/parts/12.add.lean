theorem dJx4a65c_add_72be8_0 : decode cJx4a65c_add_72be8 0 = .ok (.iload_n 3, 1) := by decide +kernel
theorem dJx4a65c_add_72be8_1 : decode cJx4a65c_add_72be8 1 = .ok (.aload_n 2, 1) := by decide +kernel
theorem dJx4a65c_add_72be8_2 : decode cJx4a65c_add_72be8 2 = .ok (.arraylength, 1) := by decide +kernel
theorem dJx4a65c_add_72be8_3 : decode cJx4a65c_add_72be8 3 = .ok (.if_icmp .ne 8, 3) := by decide +kernel
theorem dJx4a65c_add_72be8_6 : decode cJx4a65c_add_72be8 6 = .ok (.aload_n 0, 1) := by decide +kernel
theorem dJx4a65c_add_72be8_7 : decode cJx4a65c_add_72be8 7 = .ok (.invokevirtual 129, 3) := by decide +kernel
theorem dJx4a65c_add_72be8_10 : decode cJx4a65c_add_72be8 10 = .ok (.astore_n 2, 1) := by decide +kernel
theorem dJx4a65c_add_72be8_11 : decode cJx4a65c_add_72be8 11 = .ok (.aload_n 2, 1) := by decide +kernel
theorem dJx4a65c_add_72be8_12 : decode cJx4a65c_add_72be8 12 = .ok (.iload_n 3, 1) := by decide +kernel
theorem dJx4a65c_add_72be8_13 : decode cJx4a65c_add_72be8 13 = .ok (.aload_n 1, 1) := by decide +kernel
theorem dJx4a65c_add_72be8_14 : decode cJx4a65c_add_72be8 14 = .ok (.aastore, 1) := by decide +kernel
theorem dJx4a65c_add_72be8_15 : decode cJx4a65c_add_72be8 15 = .ok (.aload_n 0, 1) := by decide +kernel
theorem dJx4a65c_add_72be8_16 : decode cJx4a65c_add_72be8 16 = .ok (.iload_n 3, 1) := by decide +kernel
theorem dJx4a65c_add_72be8_17 : decode cJx4a65c_add_72be8 17 = .ok (.iconst 1, 1) := by decide +kernel
theorem dJx4a65c_add_72be8_18 : decode cJx4a65c_add_72be8 18 = .ok (.iadd, 1) := by decide +kernel
theorem dJx4a65c_add_72be8_19 : decode cJx4a65c_add_72be8 19 = .ok (.putfield 48, 3) := by decide +kernel
theorem dJx4a65c_add_72be8_22 : decode cJx4a65c_add_72be8 22 = .ok (.return_, 1) := by decide +kernel
set_option maxHeartbeats 4000000 in
set_option maxRecDepth 100000 in
theorem c_Jx4a65c_add_72be8_a1 (l : Launch) (hl0 : l.stackTraces = false) (g : kG) (e0 : Nat) (S : wPS) (sz : Nat) (q x : Nat) (oq : Ob S 7 q) (ox : Ob S 1 x) (hd : pG S 71 q = some e0) (hs : pF S 72 q = 0) : kM l g e0 yJx4a65c_add_72be8 cJx4a65c_add_72be8 4 none 3 57 1 10 [.ref q, .ref x, .ref e0, .int 0] S sz (pU (fun T => ∃ (d : Nat) (v : Int32) (i : Nat), d ∉ pL S ∧ v = nI 1 ∧ i = 0 ∧ T = setF (setY (setG (newA S d 13 10) 71 q (some d)) d (va_up (pY (setG (newA S d 13 10) 71 q (some d)) d) i (some x))) 72 q v)) (fun E => False) := by
  refine kM.of (by decide) (Nat.le_of_ble_eq_true rfl) ?_
  intro p e s m below meth c ls B hin
  obtain ⟨F, hr, hlk, hte, hP, hK, hD, hE, hS, hA, hl, hsz⟩ := B
  subst hsz
  have hx := F.1
  have hb := F.2.1
  have hl : lv_has ls 4 [(0, .ref q), (1, .ref x), (2, .ref e0), (3, .int 0)] := hl
  refine lv_iload_n hx hb dJx4a65c_add_72be8_0 rfl (lv_at hl 3 rfl) ?_
  refine lv_aload_n hx hb dJx4a65c_add_72be8_1 rfl (lv_at hl 2 rfl) ?_
  refine va_tlen (v := 0) hx hb hE.2.1 hS rfl dJx4a65c_add_72be8_2 ?_
  refine lv_icmp_ne (tgt := 11) hx hb dJx4a65c_add_72be8_3 (by decide) (fun c1 => ?_) (fun c1 => ?_)
  · exact absurd c1 (by decide)
  · refine lv_aload_n hx hb dJx4a65c_add_72be8_6 rfl (lv_at hl 0 rfl) ?_
    refine kcallR (kV (n := 0) (As := []) (rest := []) (b := q) (C := RJx4a65c) F hE hK hP hD hS hA (c_Jx4a65c_grow_d5877_a l hl0 g e0 S _ q oq hd hs) (rr_ArrayList hK hP oq) kw_132 kw_133 kw_134 kw_26 kw_135 (by decide +kernel) ⟨Nat.le_of_ble_eq_true rfl, Nat.le_of_ble_eq_true rfl⟩ rfl hl.1 rfl (Nat.le_of_ble_eq_true rfl) dJx4a65c_add_72be8_7 ⟨Nat.le_of_ble_eq_true rfl, Nat.le_of_ble_eq_true rfl⟩) rfl hD hS hA (fun _ _ _ _ _ h => False.elim h) (fun b2 T2 H locs hp hP hD hS => ?_)
    obtain ⟨hq9, hT⟩ := hp
    subst hT
    refine lv_astore_n (lv' := [(2, .ref b2), (0, .ref q), (1, .ref x), (3, .int 0)]) hx hb dJx4a65c_add_72be8_10 rfl hl (by decide) rfl (fun ls hl => ?_)
    refine lv_aload_n hx hb dJx4a65c_add_72be8_11 rfl (lv_at hl 0 rfl) ?_
    refine lv_iload_n hx hb dJx4a65c_add_72be8_12 rfl (lv_at hl 3 rfl) ?_
    refine lv_aload_n hx hb dJx4a65c_add_72be8_13 rfl (lv_at hl 2 rfl) ?_
    refine rt_Object_Article F hK hP hD hS (obA_new (S := S) (q := b2) (kd := 13) (n := 10)) (obA_old (kd := 13) (n := 10) hq9 ox) hE.2.2.2.2.2.2.2.2.2.2.1 (by show vp_in 0 (va_up (pN S) b2 10 b2); rw [va_up_self]; exact vp_in_nI (n := 0) (by decide) (by decide)) dJx4a65c_add_72be8_14 (fun H locs hP hD hS => ?_)
    refine lv_aload_n hx hb dJx4a65c_add_72be8_15 rfl (lv_at hl 1 rfl) ?_
    refine lv_iload_n hx hb dJx4a65c_add_72be8_16 rfl (lv_at hl 3 rfl) ?_
    refine lv_iconst (v := 1) hx hb dJx4a65c_add_72be8_17 (by decide) ?_
    refine lv_iadd hx hb dJx4a65c_add_72be8_18 ?_
    refine lv_topi (fun x3 ex3 => ?_)
    refine rp_ArrayList_size F hK hP hD hS (obA_old (kd := 13) (n := 10) hq9 oq) kw_113 dJx4a65c_add_72be8_19 (fun H locs hP hD hS => ?_)
    exact kEndV F hr hlk hP hD hS (Nat.le_of_ble_eq_true rfl) (Nat.le_of_ble_eq_true rfl) dJx4a65c_add_72be8_22 ⟨rfl, ⟨_, _, _, hq9, (by rw [ex3]; rfl), rfl, rfl⟩⟩
set_option maxHeartbeats 4000000 in
set_option maxRecDepth 100000 in
theorem c_Jx4a65c_add_72be8_c1 (l : Launch) (hl0 : l.stackTraces = false) (g : kG) (e0 : Nat) (S : wPS) (sz : Nat) (q x : Nat) (oq : Ob S 7 q) (ox : Ob S 1 x) (d n : Nat) (hd : pG S 71 q = some d) (od : Ob S 13 d) (hn : n < pN S d) (hN : pN S d = 10 ∨ pN S d = 15) : kM l g e0 yJx4a65c_add_72be8 cJx4a65c_add_72be8 4 none 0 0 0 0 [.ref q, .ref x, .ref d, .int (nI n)] S sz (pU (fun T => ∃ (v : Int32) (i : Nat), v = nI (n + 1) ∧ i = n ∧ T = setF (setY S d (va_up (pY S d) i (some x))) 72 q v)) (fun E => False) := by
  refine kM.of (by decide) (Nat.le_of_ble_eq_true rfl) ?_
  intro p e s m below meth c ls B hin
  obtain ⟨F, hr, hlk, hte, hP, hK, hD, hE, hS, hA, hl, hsz⟩ := B
  subst hsz
  have hx := F.1
  have hb := F.2.1
  have hl : lv_has ls 4 [(0, .ref q), (1, .ref x), (2, .ref d), (3, .int (nI n))] := hl
  refine lv_iload_n hx hb dJx4a65c_add_72be8_0 rfl (lv_at hl 3 rfl) ?_
  refine lv_aload_n hx hb dJx4a65c_add_72be8_1 rfl (lv_at hl 2 rfl) ?_
  refine rl_Object (v := (nI (pN S d))) F hK hP od rfl dJx4a65c_add_72be8_2 ?_
  refine lv_icmp_ne (tgt := 11) hx hb dJx4a65c_add_72be8_3 (by decide) (fun c1 => ?_) (fun c1 => ?_)
  · refine lv_aload_n hx hb dJx4a65c_add_72be8_11 rfl (lv_at hl 2 rfl) ?_
    refine lv_iload_n hx hb dJx4a65c_add_72be8_12 rfl (lv_at hl 3 rfl) ?_
    refine lv_aload_n hx hb dJx4a65c_add_72be8_13 rfl (lv_at hl 1 rfl) ?_
    refine rt_Object_Article F hK hP hD hS od ox hE.2.2.2.2.2.2.2.2.2.2.1 (vp_in_nI hn (by omega)) dJx4a65c_add_72be8_14 (fun H locs hP hD hS => ?_)
    refine lv_aload_n hx hb dJx4a65c_add_72be8_15 rfl (lv_at hl 0 rfl) ?_
    refine lv_iload_n hx hb dJx4a65c_add_72be8_16 rfl (lv_at hl 3 rfl) ?_
    refine lv_iconst (v := 1) hx hb dJx4a65c_add_72be8_17 (by decide) ?_
    refine lv_iadd hx hb dJx4a65c_add_72be8_18 ?_
    refine lv_topi (fun x2 ex2 => ?_)
    refine rp_ArrayList_size F hK hP hD hS oq kw_113 dJx4a65c_add_72be8_19 (fun H locs hP hD hS => ?_)
    exact kEndV F hr hlk hP hD hS (Nat.le_of_ble_eq_true rfl) (Nat.le_of_ble_eq_true rfl) dJx4a65c_add_72be8_22 ⟨rfl, ⟨_, _, (by rw [ex2]; exact nI_1 n), nI_clamp (by omega), rfl⟩⟩
  · exact absurd ((nI_eq (by omega) (by omega)).mp c1) (by omega)
set_option maxHeartbeats 4000000 in
set_option maxRecDepth 100000 in
theorem c_Jx4a65c_add_72be8_a2 (l : Launch) (hl0 : l.stackTraces = false) (g : kG) (e0 : Nat) (S : wPS) (sz : Nat) (q x : Nat) (oq : Ob S 7 q) (ox : Ob S 2 x) (hd : pG S 71 q = some e0) (hs : pF S 72 q = 0) : kM l g e0 yJx4a65c_add_72be8 cJx4a65c_add_72be8 4 none 3 57 1 10 [.ref q, .ref x, .ref e0, .int 0] S sz (pU (fun T => ∃ (d : Nat) (v : Int32) (i : Nat), d ∉ pL S ∧ v = nI 1 ∧ i = 0 ∧ T = setF (setY (setG (newA S d 13 10) 71 q (some d)) d (va_up (pY (setG (newA S d 13 10) 71 q (some d)) d) i (some x))) 72 q v)) (fun E => False) := by
  refine kM.of (by decide) (Nat.le_of_ble_eq_true rfl) ?_
  intro p e s m below meth c ls B hin
  obtain ⟨F, hr, hlk, hte, hP, hK, hD, hE, hS, hA, hl, hsz⟩ := B
  subst hsz
  have hx := F.1
  have hb := F.2.1
  have hl : lv_has ls 4 [(0, .ref q), (1, .ref x), (2, .ref e0), (3, .int 0)] := hl
  refine lv_iload_n hx hb dJx4a65c_add_72be8_0 rfl (lv_at hl 3 rfl) ?_
  refine lv_aload_n hx hb dJx4a65c_add_72be8_1 rfl (lv_at hl 2 rfl) ?_
  refine va_tlen (v := 0) hx hb hE.2.1 hS rfl dJx4a65c_add_72be8_2 ?_
  refine lv_icmp_ne (tgt := 11) hx hb dJx4a65c_add_72be8_3 (by decide) (fun c1 => ?_) (fun c1 => ?_)
  · exact absurd c1 (by decide)
  · refine lv_aload_n hx hb dJx4a65c_add_72be8_6 rfl (lv_at hl 0 rfl) ?_
    refine kcallR (kV (n := 0) (As := []) (rest := []) (b := q) (C := RJx4a65c) F hE hK hP hD hS hA (c_Jx4a65c_grow_d5877_a l hl0 g e0 S _ q oq hd hs) (rr_ArrayList hK hP oq) kw_132 kw_133 kw_134 kw_26 kw_135 (by decide +kernel) ⟨Nat.le_of_ble_eq_true rfl, Nat.le_of_ble_eq_true rfl⟩ rfl hl.1 rfl (Nat.le_of_ble_eq_true rfl) dJx4a65c_add_72be8_7 ⟨Nat.le_of_ble_eq_true rfl, Nat.le_of_ble_eq_true rfl⟩) rfl hD hS hA (fun _ _ _ _ _ h => False.elim h) (fun b2 T2 H locs hp hP hD hS => ?_)
    obtain ⟨hq9, hT⟩ := hp
    subst hT
    refine lv_astore_n (lv' := [(2, .ref b2), (0, .ref q), (1, .ref x), (3, .int 0)]) hx hb dJx4a65c_add_72be8_10 rfl hl (by decide) rfl (fun ls hl => ?_)
    refine lv_aload_n hx hb dJx4a65c_add_72be8_11 rfl (lv_at hl 0 rfl) ?_
    refine lv_iload_n hx hb dJx4a65c_add_72be8_12 rfl (lv_at hl 3 rfl) ?_
    refine lv_aload_n hx hb dJx4a65c_add_72be8_13 rfl (lv_at hl 2 rfl) ?_
    refine rt_Object_Line F hK hP hD hS (obA_new (S := S) (q := b2) (kd := 13) (n := 10)) (obA_old (kd := 13) (n := 10) hq9 ox) hE.2.2.2.2.2.2.2.2.2.2.2.1 (by show vp_in 0 (va_up (pN S) b2 10 b2); rw [va_up_self]; exact vp_in_nI (n := 0) (by decide) (by decide)) dJx4a65c_add_72be8_14 (fun H locs hP hD hS => ?_)
    refine lv_aload_n hx hb dJx4a65c_add_72be8_15 rfl (lv_at hl 1 rfl) ?_
    refine lv_iload_n hx hb dJx4a65c_add_72be8_16 rfl (lv_at hl 3 rfl) ?_
    refine lv_iconst (v := 1) hx hb dJx4a65c_add_72be8_17 (by decide) ?_
    refine lv_iadd hx hb dJx4a65c_add_72be8_18 ?_
    refine lv_topi (fun x3 ex3 => ?_)
    refine rp_ArrayList_size F hK hP hD hS (obA_old (kd := 13) (n := 10) hq9 oq) kw_113 dJx4a65c_add_72be8_19 (fun H locs hP hD hS => ?_)
    exact kEndV F hr hlk hP hD hS (Nat.le_of_ble_eq_true rfl) (Nat.le_of_ble_eq_true rfl) dJx4a65c_add_72be8_22 ⟨rfl, ⟨_, _, _, hq9, (by rw [ex3]; rfl), rfl, rfl⟩⟩
set_option maxHeartbeats 4000000 in
set_option maxRecDepth 100000 in
theorem c_Jx4a65c_add_72be8_b2 (l : Launch) (hl0 : l.stackTraces = false) (g : kG) (e0 : Nat) (S : wPS) (sz : Nat) (q x : Nat) (oq : Ob S 7 q) (ox : Ob S 2 x) (d : Nat) (hd : pG S 71 q = some d) (od : Ob S 13 d) (hN : pN S d = 10) (hel : ∀ i y, i < 10 → pY S d i = some y → Ob S 2 y) (hs : pF S 72 q = 10) : kM l g e0 yJx4a65c_add_72be8 cJx4a65c_add_72be8 4 none 5 111 1 15 [.ref q, .ref x, .ref d, .int 10] S sz (pU (fun T => ∃ (d1 : Nat) (v : Int32) (i : Nat), d1 ∉ pL S ∧ v = nI 11 ∧ i = 10 ∧ T = setF (setY (setG (setY (newA S d1 13 15) d1 (va_cpy (pY S d) (fun _ => none) 0 0 10)) 71 q (some d1)) d1 (va_up (pY (setG (setY (newA S d1 13 15) d1 (va_cpy (pY S d) (fun _ => none) 0 0 10)) 71 q (some d1)) d1) i (some x))) 72 q v)) (fun E => False) := by
  refine kM.of (by decide) (Nat.le_of_ble_eq_true rfl) ?_
  intro p e s m below meth c ls B hin
  obtain ⟨F, hr, hlk, hte, hP, hK, hD, hE, hS, hA, hl, hsz⟩ := B
  subst hsz
  have hx := F.1
  have hb := F.2.1
  have hl : lv_has ls 4 [(0, .ref q), (1, .ref x), (2, .ref d), (3, .int 10)] := hl
  refine lv_iload_n hx hb dJx4a65c_add_72be8_0 rfl (lv_at hl 3 rfl) ?_
  refine lv_aload_n hx hb dJx4a65c_add_72be8_1 rfl (lv_at hl 2 rfl) ?_
  refine rl_Object (v := 10) F hK hP od (congrArg Int32.ofNat hN) dJx4a65c_add_72be8_2 ?_
  refine lv_icmp_ne (tgt := 11) hx hb dJx4a65c_add_72be8_3 (by decide) (fun c1 => ?_) (fun c1 => ?_)
  · exact absurd c1 (by decide)
  · refine lv_aload_n hx hb dJx4a65c_add_72be8_6 rfl (lv_at hl 0 rfl) ?_
    refine kcallR (kV (n := 0) (As := []) (rest := []) (b := q) (C := RJx4a65c) F hE hK hP hD hS hA (c_Jx4a65c_grow_d5877_b l hl0 g e0 S _ q d oq hd od hN hel hs) (rr_ArrayList hK hP oq) kw_132 kw_133 kw_134 kw_26 kw_135 (by decide +kernel) ⟨Nat.le_of_ble_eq_true rfl, Nat.le_of_ble_eq_true rfl⟩ rfl hl.1 rfl (Nat.le_of_ble_eq_true rfl) dJx4a65c_add_72be8_7 ⟨Nat.le_of_ble_eq_true rfl, Nat.le_of_ble_eq_true rfl⟩) rfl hD hS hA (fun _ _ _ _ _ h => False.elim h) (fun b2 T2 H locs hp hP hD hS => ?_)
    obtain ⟨hq9, hT⟩ := hp
    subst hT
    refine lv_astore_n (lv' := [(2, .ref b2), (0, .ref q), (1, .ref x), (3, .int 10)]) hx hb dJx4a65c_add_72be8_10 rfl hl (by decide) rfl (fun ls hl => ?_)
    refine lv_aload_n hx hb dJx4a65c_add_72be8_11 rfl (lv_at hl 0 rfl) ?_
    refine lv_iload_n hx hb dJx4a65c_add_72be8_12 rfl (lv_at hl 3 rfl) ?_
    refine lv_aload_n hx hb dJx4a65c_add_72be8_13 rfl (lv_at hl 2 rfl) ?_
    refine rt_Object_Line F hK hP hD hS (obA_new (S := S) (q := b2) (kd := 13) (n := 15)) (obA_old (kd := 13) (n := 15) hq9 ox) hE.2.2.2.2.2.2.2.2.2.2.2.1 (by show vp_in 10 (va_up (pN S) b2 15 b2); rw [va_up_self]; exact vp_in_nI (n := 10) (by decide) (by decide)) dJx4a65c_add_72be8_14 (fun H locs hP hD hS => ?_)
    refine lv_aload_n hx hb dJx4a65c_add_72be8_15 rfl (lv_at hl 1 rfl) ?_
    refine lv_iload_n hx hb dJx4a65c_add_72be8_16 rfl (lv_at hl 3 rfl) ?_
    refine lv_iconst (v := 1) hx hb dJx4a65c_add_72be8_17 (by decide) ?_
    refine lv_iadd hx hb dJx4a65c_add_72be8_18 ?_
    refine lv_topi (fun x3 ex3 => ?_)
    refine rp_ArrayList_size F hK hP hD hS (obA_old (kd := 13) (n := 15) hq9 oq) kw_113 dJx4a65c_add_72be8_19 (fun H locs hP hD hS => ?_)
    exact kEndV F hr hlk hP hD hS (Nat.le_of_ble_eq_true rfl) (Nat.le_of_ble_eq_true rfl) dJx4a65c_add_72be8_22 ⟨rfl, ⟨_, _, _, hq9, (by rw [ex3]; rfl), rfl, rfl⟩⟩
set_option maxHeartbeats 4000000 in
set_option maxRecDepth 100000 in
theorem c_Jx4a65c_add_72be8_c2 (l : Launch) (hl0 : l.stackTraces = false) (g : kG) (e0 : Nat) (S : wPS) (sz : Nat) (q x : Nat) (oq : Ob S 7 q) (ox : Ob S 2 x) (d n : Nat) (hd : pG S 71 q = some d) (od : Ob S 13 d) (hn : n < pN S d) (hN : pN S d = 10 ∨ pN S d = 15) : kM l g e0 yJx4a65c_add_72be8 cJx4a65c_add_72be8 4 none 0 0 0 0 [.ref q, .ref x, .ref d, .int (nI n)] S sz (pU (fun T => ∃ (v : Int32) (i : Nat), v = nI (n + 1) ∧ i = n ∧ T = setF (setY S d (va_up (pY S d) i (some x))) 72 q v)) (fun E => False) := by
  refine kM.of (by decide) (Nat.le_of_ble_eq_true rfl) ?_
  intro p e s m below meth c ls B hin
  obtain ⟨F, hr, hlk, hte, hP, hK, hD, hE, hS, hA, hl, hsz⟩ := B
  subst hsz
  have hx := F.1
  have hb := F.2.1
  have hl : lv_has ls 4 [(0, .ref q), (1, .ref x), (2, .ref d), (3, .int (nI n))] := hl
  refine lv_iload_n hx hb dJx4a65c_add_72be8_0 rfl (lv_at hl 3 rfl) ?_
  refine lv_aload_n hx hb dJx4a65c_add_72be8_1 rfl (lv_at hl 2 rfl) ?_
  refine rl_Object (v := (nI (pN S d))) F hK hP od rfl dJx4a65c_add_72be8_2 ?_
  refine lv_icmp_ne (tgt := 11) hx hb dJx4a65c_add_72be8_3 (by decide) (fun c1 => ?_) (fun c1 => ?_)
  · refine lv_aload_n hx hb dJx4a65c_add_72be8_11 rfl (lv_at hl 2 rfl) ?_
    refine lv_iload_n hx hb dJx4a65c_add_72be8_12 rfl (lv_at hl 3 rfl) ?_
    refine lv_aload_n hx hb dJx4a65c_add_72be8_13 rfl (lv_at hl 1 rfl) ?_
    refine rt_Object_Line F hK hP hD hS od ox hE.2.2.2.2.2.2.2.2.2.2.2.1 (vp_in_nI hn (by omega)) dJx4a65c_add_72be8_14 (fun H locs hP hD hS => ?_)
    refine lv_aload_n hx hb dJx4a65c_add_72be8_15 rfl (lv_at hl 0 rfl) ?_
    refine lv_iload_n hx hb dJx4a65c_add_72be8_16 rfl (lv_at hl 3 rfl) ?_
    refine lv_iconst (v := 1) hx hb dJx4a65c_add_72be8_17 (by decide) ?_
    refine lv_iadd hx hb dJx4a65c_add_72be8_18 ?_
    refine lv_topi (fun x2 ex2 => ?_)
    refine rp_ArrayList_size F hK hP hD hS oq kw_113 dJx4a65c_add_72be8_19 (fun H locs hP hD hS => ?_)
    exact kEndV F hr hlk hP hD hS (Nat.le_of_ble_eq_true rfl) (Nat.le_of_ble_eq_true rfl) dJx4a65c_add_72be8_22 ⟨rfl, ⟨_, _, (by rw [ex2]; exact nI_1 n), nI_clamp (by omega), rfl⟩⟩
  · exact absurd ((nI_eq (by omega) (by omega)).mp c1) (by omega)
theorem dJx4a65c_add_9ea2d_0 : decode cJx4a65c_add_9ea2d 0 = .ok (.aload_n 0, 1) := by decide +kernel
theorem dJx4a65c_add_9ea2d_1 : decode cJx4a65c_add_9ea2d 1 = .ok (.dup, 1) := by decide +kernel
theorem dJx4a65c_add_9ea2d_2 : decode cJx4a65c_add_9ea2d 2 = .ok (.getfield 63, 3) := by decide +kernel
theorem dJx4a65c_add_9ea2d_5 : decode cJx4a65c_add_9ea2d 5 = .ok (.iconst 1, 1) := by decide +kernel
theorem dJx4a65c_add_9ea2d_6 : decode cJx4a65c_add_9ea2d 6 = .ok (.iadd, 1) := by decide +kernel
theorem dJx4a65c_add_9ea2d_7 : decode cJx4a65c_add_9ea2d 7 = .ok (.putfield 63, 3) := by decide +kernel
theorem dJx4a65c_add_9ea2d_10 : decode cJx4a65c_add_9ea2d 10 = .ok (.aload_n 0, 1) := by decide +kernel
theorem dJx4a65c_add_9ea2d_11 : decode cJx4a65c_add_9ea2d 11 = .ok (.aload_n 1, 1) := by decide +kernel
theorem dJx4a65c_add_9ea2d_12 : decode cJx4a65c_add_9ea2d 12 = .ok (.aload_n 0, 1) := by decide +kernel
theorem dJx4a65c_add_9ea2d_13 : decode cJx4a65c_add_9ea2d 13 = .ok (.getfield 9, 3) := by decide +kernel
theorem dJx4a65c_add_9ea2d_16 : decode cJx4a65c_add_9ea2d 16 = .ok (.aload_n 0, 1) := by decide +kernel
theorem dJx4a65c_add_9ea2d_17 : decode cJx4a65c_add_9ea2d 17 = .ok (.getfield 48, 3) := by decide +kernel
theorem dJx4a65c_add_9ea2d_20 : decode cJx4a65c_add_9ea2d 20 = .ok (.invokevirtual 131, 3) := by decide +kernel
theorem dJx4a65c_add_9ea2d_23 : decode cJx4a65c_add_9ea2d 23 = .ok (.iconst 1, 1) := by decide +kernel
theorem dJx4a65c_add_9ea2d_24 : decode cJx4a65c_add_9ea2d 24 = .ok (.ireturn, 1) := by decide +kernel
set_option maxHeartbeats 4000000 in
set_option maxRecDepth 100000 in
theorem c_Jx4a65c_add_9ea2d1 (l : Launch) (hl0 : l.stackTraces = false) (g : kG) (e0 : Nat) (S : wPS) (sz : Nat) (q x n : Nat) (oq : Ob S 7 q) (ox : Ob S 1 x) (hL : LI S e0 q 1 n) (hn : n ≤ 5) (he : e0 ∉ pL S) : kM l g e0 yJx4a65c_add_9ea2d cJx4a65c_add_9ea2d 2 (some .boolean) 4 80 1 10 [.ref q, .ref x] S sz (pI (fun r T => AddR S T e0 q 1 n)) (fun E => False) := by
  refine kM.of (by decide) (Nat.le_of_ble_eq_true rfl) ?_
  intro p e s m below meth c ls B hin
  obtain ⟨F, hr, hlk, hte, hP, hK, hD, hE, hS, hA, hl, hsz⟩ := B
  subst hsz
  have hx := F.1
  have hb := F.2.1
  have hl : lv_has ls 2 [(0, .ref q), (1, .ref x)] := hl
  obtain ⟨hs0, hdat⟩ := hL
  have hdat : (n = 0 ∧ pG S 71 q = some e0) ∨ (∃ d, pG S 71 q = some d ∧ Ob S 13 d ∧ (pN S d = 10 ∨ pN S d = 15) ∧ n < pN S d ∧ ∀ i, i < n → ∃ b, pY S d i = some b ∧ Ob S 1 b) ∨ (∃ d, pG S 71 q = some d ∧ Ob S 13 d ∧ (pN S d = 10 ∨ pN S d = 15) ∧ n = pN S d ∧ ∀ i, i < n → ∃ b, pY S d i = some b ∧ Ob S 1 b) := by
    rcases hdat with h | ⟨d, h1, h2, h3, h4, h5⟩
    · exact Or.inl h
    · rcases Nat.lt_or_ge n (pN S d) with q | q
      · exact Or.inr (Or.inl ⟨d, h1, h2, h3, q, h5⟩)
      · exact Or.inr (Or.inr ⟨d, h1, h2, h3, by omega, h5⟩)
  rcases hdat with ⟨hz, hd⟩ | ⟨d, hd, od, hN, hn3, hx9⟩ | ⟨d, hd, od, hN1, hn4, hx9⟩
  · subst hz
    have hs : pF S 72 q = 0 := hs0
    refine lv_aload_n hx hb dJx4a65c_add_9ea2d_0 rfl (lv_at hl 0 rfl) ?_
    refine lv_dup hx hb dJx4a65c_add_9ea2d_1 rfl ?_
    refine rg_ArrayList_modCountA F hK hP oq kw_126 dJx4a65c_add_9ea2d_2 ?_
    refine lv_topi (fun x1 ex1 => ?_)
    refine lv_iconst (v := 1) hx hb dJx4a65c_add_9ea2d_5 (by decide) ?_
    refine lv_iadd hx hb dJx4a65c_add_9ea2d_6 ?_
    refine lv_topi (fun x2 ex2 => ?_)
    refine rp_ArrayList_modCountA F hK hP hD hS oq kw_126 dJx4a65c_add_9ea2d_7 (fun H locs hP hD hS => ?_)
    refine lv_aload_n hx hb dJx4a65c_add_9ea2d_10 rfl (lv_at hl 0 rfl) ?_
    refine lv_aload_n hx hb dJx4a65c_add_9ea2d_11 rfl (lv_at hl 1 rfl) ?_
    refine lv_aload_n hx hb dJx4a65c_add_9ea2d_12 rfl (lv_at hl 0 rfl) ?_
    refine rs_ArrayList_elementData (b := e0) F hK hP oq hd kw_45 dJx4a65c_add_9ea2d_13 ?_
    refine lv_aload_n hx hb dJx4a65c_add_9ea2d_16 rfl (lv_at hl 0 rfl) ?_
    refine rg_ArrayList_size F hK hP oq kw_113 dJx4a65c_add_9ea2d_17 ?_
    refine lv_topi (fun x3 ex3 => ?_)
    obtain rfl : x3 = 0 := by rw [ex3]; exact hs0
    refine kcallU (kV (n := 3) (As := [.ref x, .ref e0, .int 0]) (rest := []) (b := q) (C := RJx4a65c) F hE hK hP hD hS hA (c_Jx4a65c_add_72be8_a1 l hl0 g e0 (setF S 70 q x2) _ q x oq ox hd hs) (rr_ArrayList hK hP oq) kw_128 kw_129 kw_130 kw_26 kw_131 (by decide +kernel) ⟨Nat.le_of_ble_eq_true rfl, Nat.le_of_ble_eq_true rfl⟩ rfl hl.1 rfl (Nat.le_of_ble_eq_true rfl) dJx4a65c_add_9ea2d_20 ⟨Nat.le_of_ble_eq_true rfl, Nat.le_of_ble_eq_true rfl⟩) rfl hD hS hA (fun _ _ _ _ _ h => False.elim h) (fun T4 H locs hp hP hD hS => ?_)
    obtain ⟨d, v, i, hq9, hv9, hi9, hT⟩ := hp
    subst hT
    refine lv_iconst (v := 1) hx hb dJx4a65c_add_9ea2d_23 (by decide) ?_
    exact kEndI F hr rfl hlk hP hD hS (Nat.le_of_ble_eq_true rfl) (Nat.le_of_ble_eq_true rfl) dJx4a65c_add_9ea2d_24 ⟨_, rfl, addR_A he oq ox hd hq9 (fun e => hE.2.1.out (by rw [← e]; exact kD_in hD (List.mem_append_right _ List.mem_cons_self))) hi9 hv9⟩
  · have hn2 : n < pN S d := hn3
    refine lv_aload_n hx hb dJx4a65c_add_9ea2d_0 rfl (lv_at hl 0 rfl) ?_
    refine lv_dup hx hb dJx4a65c_add_9ea2d_1 rfl ?_
    refine rg_ArrayList_modCountA F hK hP oq kw_126 dJx4a65c_add_9ea2d_2 ?_
    refine lv_topi (fun x5 ex5 => ?_)
    refine lv_iconst (v := 1) hx hb dJx4a65c_add_9ea2d_5 (by decide) ?_
    refine lv_iadd hx hb dJx4a65c_add_9ea2d_6 ?_
    refine lv_topi (fun x6 ex6 => ?_)
    refine rp_ArrayList_modCountA F hK hP hD hS oq kw_126 dJx4a65c_add_9ea2d_7 (fun H locs hP hD hS => ?_)
    refine lv_aload_n hx hb dJx4a65c_add_9ea2d_10 rfl (lv_at hl 0 rfl) ?_
    refine lv_aload_n hx hb dJx4a65c_add_9ea2d_11 rfl (lv_at hl 1 rfl) ?_
    refine lv_aload_n hx hb dJx4a65c_add_9ea2d_12 rfl (lv_at hl 0 rfl) ?_
    refine rs_ArrayList_elementData (b := d) F hK hP oq hd kw_45 dJx4a65c_add_9ea2d_13 ?_
    refine lv_aload_n hx hb dJx4a65c_add_9ea2d_16 rfl (lv_at hl 0 rfl) ?_
    refine rg_ArrayList_size F hK hP oq kw_113 dJx4a65c_add_9ea2d_17 ?_
    refine lv_topi (fun x7 ex7 => ?_)
    obtain rfl : x7 = (nI n) := by rw [ex7]; exact hs0
    refine kcallU (kV (n := 3) (As := [.ref x, .ref d, .int (nI n)]) (rest := []) (b := q) (C := RJx4a65c) F hE hK hP hD hS hA (c_Jx4a65c_add_72be8_c1 l hl0 g e0 (setF S 70 q x6) _ q x oq ox d n hd od hn2 hN) (rr_ArrayList hK hP oq) kw_128 kw_129 kw_130 kw_26 kw_131 (by decide +kernel) ⟨Nat.le_of_ble_eq_true rfl, Nat.le_of_ble_eq_true rfl⟩ rfl hl.1 rfl (Nat.le_of_ble_eq_true rfl) dJx4a65c_add_9ea2d_20 ⟨Nat.le_of_ble_eq_true rfl, Nat.le_of_ble_eq_true rfl⟩) rfl hD hS hA (fun _ _ _ _ _ h => False.elim h) (fun T8 H locs hp hP hD hS => ?_)
    obtain ⟨v, i, hv9, hi9, hT⟩ := hp
    subst hT
    refine lv_iconst (v := 1) hx hb dJx4a65c_add_9ea2d_23 (by decide) ?_
    exact kEndI F hr rfl hlk hP hD hS (Nat.le_of_ble_eq_true rfl) (Nat.le_of_ble_eq_true rfl) dJx4a65c_add_9ea2d_24 ⟨_, rfl, addR_C he oq ox hd od hN hn2 hx9 hi9 hv9⟩
  · exact absurd hn4 (by omega)
set_option maxHeartbeats 4000000 in
set_option maxRecDepth 100000 in
theorem c_Jx4a65c_add_9ea2d2 (l : Launch) (hl0 : l.stackTraces = false) (g : kG) (e0 : Nat) (S : wPS) (sz : Nat) (q x n : Nat) (oq : Ob S 7 q) (ox : Ob S 2 x) (hL : LI S e0 q 2 n) (hn : n ≤ 11) (he : e0 ∉ pL S) : kM l g e0 yJx4a65c_add_9ea2d cJx4a65c_add_9ea2d 2 (some .boolean) 6 134 1 15 [.ref q, .ref x] S sz (pI (fun r T => AddR S T e0 q 2 n)) (fun E => False) := by
  refine kM.of (by decide) (Nat.le_of_ble_eq_true rfl) ?_
  intro p e s m below meth c ls B hin
  obtain ⟨F, hr, hlk, hte, hP, hK, hD, hE, hS, hA, hl, hsz⟩ := B
  subst hsz
  have hx := F.1
  have hb := F.2.1
  have hl : lv_has ls 2 [(0, .ref q), (1, .ref x)] := hl
  obtain ⟨hs0, hdat⟩ := hL
  have hdat : (n = 0 ∧ pG S 71 q = some e0) ∨ (∃ d, pG S 71 q = some d ∧ Ob S 13 d ∧ (pN S d = 10 ∨ pN S d = 15) ∧ n < pN S d ∧ ∀ i, i < n → ∃ b, pY S d i = some b ∧ Ob S 2 b) ∨ (∃ d, pG S 71 q = some d ∧ Ob S 13 d ∧ (pN S d = 10 ∨ pN S d = 15) ∧ n = pN S d ∧ ∀ i, i < n → ∃ b, pY S d i = some b ∧ Ob S 2 b) := by
    rcases hdat with h | ⟨d, h1, h2, h3, h4, h5⟩
    · exact Or.inl h
    · rcases Nat.lt_or_ge n (pN S d) with q | q
      · exact Or.inr (Or.inl ⟨d, h1, h2, h3, q, h5⟩)
      · exact Or.inr (Or.inr ⟨d, h1, h2, h3, by omega, h5⟩)
  rcases hdat with ⟨hz, hd⟩ | ⟨d, hd, od, hN, hn3, hx9⟩ | ⟨d, hd, od, hN1, hn4, hx9⟩
  · subst hz
    have hs : pF S 72 q = 0 := hs0
    refine lv_aload_n hx hb dJx4a65c_add_9ea2d_0 rfl (lv_at hl 0 rfl) ?_
    refine lv_dup hx hb dJx4a65c_add_9ea2d_1 rfl ?_
    refine rg_ArrayList_modCountA F hK hP oq kw_126 dJx4a65c_add_9ea2d_2 ?_
    refine lv_topi (fun x1 ex1 => ?_)
    refine lv_iconst (v := 1) hx hb dJx4a65c_add_9ea2d_5 (by decide) ?_
    refine lv_iadd hx hb dJx4a65c_add_9ea2d_6 ?_
    refine lv_topi (fun x2 ex2 => ?_)
    refine rp_ArrayList_modCountA F hK hP hD hS oq kw_126 dJx4a65c_add_9ea2d_7 (fun H locs hP hD hS => ?_)
    refine lv_aload_n hx hb dJx4a65c_add_9ea2d_10 rfl (lv_at hl 0 rfl) ?_
    refine lv_aload_n hx hb dJx4a65c_add_9ea2d_11 rfl (lv_at hl 1 rfl) ?_
    refine lv_aload_n hx hb dJx4a65c_add_9ea2d_12 rfl (lv_at hl 0 rfl) ?_
    refine rs_ArrayList_elementData (b := e0) F hK hP oq hd kw_45 dJx4a65c_add_9ea2d_13 ?_
    refine lv_aload_n hx hb dJx4a65c_add_9ea2d_16 rfl (lv_at hl 0 rfl) ?_
    refine rg_ArrayList_size F hK hP oq kw_113 dJx4a65c_add_9ea2d_17 ?_
    refine lv_topi (fun x3 ex3 => ?_)
    obtain rfl : x3 = 0 := by rw [ex3]; exact hs0
    refine kcallU (kV (n := 3) (As := [.ref x, .ref e0, .int 0]) (rest := []) (b := q) (C := RJx4a65c) F hE hK hP hD hS hA (c_Jx4a65c_add_72be8_a2 l hl0 g e0 (setF S 70 q x2) _ q x oq ox hd hs) (rr_ArrayList hK hP oq) kw_128 kw_129 kw_130 kw_26 kw_131 (by decide +kernel) ⟨Nat.le_of_ble_eq_true rfl, Nat.le_of_ble_eq_true rfl⟩ rfl hl.1 rfl (Nat.le_of_ble_eq_true rfl) dJx4a65c_add_9ea2d_20 ⟨Nat.le_of_ble_eq_true rfl, Nat.le_of_ble_eq_true rfl⟩) rfl hD hS hA (fun _ _ _ _ _ h => False.elim h) (fun T4 H locs hp hP hD hS => ?_)
    obtain ⟨d, v, i, hq9, hv9, hi9, hT⟩ := hp
    subst hT
    refine lv_iconst (v := 1) hx hb dJx4a65c_add_9ea2d_23 (by decide) ?_
    exact kEndI F hr rfl hlk hP hD hS (Nat.le_of_ble_eq_true rfl) (Nat.le_of_ble_eq_true rfl) dJx4a65c_add_9ea2d_24 ⟨_, rfl, addR_A he oq ox hd hq9 (fun e => hE.2.1.out (by rw [← e]; exact kD_in hD (List.mem_append_right _ List.mem_cons_self))) hi9 hv9⟩
  · have hn2 : n < pN S d := hn3
    refine lv_aload_n hx hb dJx4a65c_add_9ea2d_0 rfl (lv_at hl 0 rfl) ?_
    refine lv_dup hx hb dJx4a65c_add_9ea2d_1 rfl ?_
    refine rg_ArrayList_modCountA F hK hP oq kw_126 dJx4a65c_add_9ea2d_2 ?_
    refine lv_topi (fun x5 ex5 => ?_)
    refine lv_iconst (v := 1) hx hb dJx4a65c_add_9ea2d_5 (by decide) ?_
    refine lv_iadd hx hb dJx4a65c_add_9ea2d_6 ?_
    refine lv_topi (fun x6 ex6 => ?_)
    refine rp_ArrayList_modCountA F hK hP hD hS oq kw_126 dJx4a65c_add_9ea2d_7 (fun H locs hP hD hS => ?_)
    refine lv_aload_n hx hb dJx4a65c_add_9ea2d_10 rfl (lv_at hl 0 rfl) ?_
    refine lv_aload_n hx hb dJx4a65c_add_9ea2d_11 rfl (lv_at hl 1 rfl) ?_
    refine lv_aload_n hx hb dJx4a65c_add_9ea2d_12 rfl (lv_at hl 0 rfl) ?_
    refine rs_ArrayList_elementData (b := d) F hK hP oq hd kw_45 dJx4a65c_add_9ea2d_13 ?_
    refine lv_aload_n hx hb dJx4a65c_add_9ea2d_16 rfl (lv_at hl 0 rfl) ?_
    refine rg_ArrayList_size F hK hP oq kw_113 dJx4a65c_add_9ea2d_17 ?_
    refine lv_topi (fun x7 ex7 => ?_)
    obtain rfl : x7 = (nI n) := by rw [ex7]; exact hs0
    refine kcallU (kV (n := 3) (As := [.ref x, .ref d, .int (nI n)]) (rest := []) (b := q) (C := RJx4a65c) F hE hK hP hD hS hA (c_Jx4a65c_add_72be8_c2 l hl0 g e0 (setF S 70 q x6) _ q x oq ox d n hd od hn2 hN) (rr_ArrayList hK hP oq) kw_128 kw_129 kw_130 kw_26 kw_131 (by decide +kernel) ⟨Nat.le_of_ble_eq_true rfl, Nat.le_of_ble_eq_true rfl⟩ rfl hl.1 rfl (Nat.le_of_ble_eq_true rfl) dJx4a65c_add_9ea2d_20 ⟨Nat.le_of_ble_eq_true rfl, Nat.le_of_ble_eq_true rfl⟩) rfl hD hS hA (fun _ _ _ _ _ h => False.elim h) (fun T8 H locs hp hP hD hS => ?_)
    obtain ⟨v, i, hv9, hi9, hT⟩ := hp
    subst hT
    refine lv_iconst (v := 1) hx hb dJx4a65c_add_9ea2d_23 (by decide) ?_
    exact kEndI F hr rfl hlk hP hD hS (Nat.le_of_ble_eq_true rfl) (Nat.le_of_ble_eq_true rfl) dJx4a65c_add_9ea2d_24 ⟨_, rfl, addR_C he oq ox hd od hN hn2 hx9 hi9 hv9⟩
  · have hn10 : n = 10 := by omega
    subst hn10
    have hN : pN S d = 10 := hn4.symm
    have hs : pF S 72 q = 10 := hs0
    have hel : ∀ i y, i < 10 → pY S d i = some y → Ob S 2 y := fun i y hi hy => by
      obtain ⟨y2, h1, h2⟩ := hx9 i hi
      rw [h1] at hy
      rw [← Option.some.inj hy]; exact h2
    refine lv_aload_n hx hb dJx4a65c_add_9ea2d_0 rfl (lv_at hl 0 rfl) ?_
    refine lv_dup hx hb dJx4a65c_add_9ea2d_1 rfl ?_
    refine rg_ArrayList_modCountA F hK hP oq kw_126 dJx4a65c_add_9ea2d_2 ?_
    refine lv_topi (fun x9 ex9 => ?_)
    refine lv_iconst (v := 1) hx hb dJx4a65c_add_9ea2d_5 (by decide) ?_
    refine lv_iadd hx hb dJx4a65c_add_9ea2d_6 ?_
    refine lv_topi (fun x10 ex10 => ?_)
    refine rp_ArrayList_modCountA F hK hP hD hS oq kw_126 dJx4a65c_add_9ea2d_7 (fun H locs hP hD hS => ?_)
    refine lv_aload_n hx hb dJx4a65c_add_9ea2d_10 rfl (lv_at hl 0 rfl) ?_
    refine lv_aload_n hx hb dJx4a65c_add_9ea2d_11 rfl (lv_at hl 1 rfl) ?_
    refine lv_aload_n hx hb dJx4a65c_add_9ea2d_12 rfl (lv_at hl 0 rfl) ?_
    refine rs_ArrayList_elementData (b := d) F hK hP oq hd kw_45 dJx4a65c_add_9ea2d_13 ?_
    refine lv_aload_n hx hb dJx4a65c_add_9ea2d_16 rfl (lv_at hl 0 rfl) ?_
    refine rg_ArrayList_size F hK hP oq kw_113 dJx4a65c_add_9ea2d_17 ?_
    refine lv_topi (fun x11 ex11 => ?_)
    obtain rfl : x11 = 10 := by rw [ex11]; exact hs0
    refine kcallU (kV (n := 3) (As := [.ref x, .ref d, .int 10]) (rest := []) (b := q) (C := RJx4a65c) F hE hK hP hD hS hA (c_Jx4a65c_add_72be8_b2 l hl0 g e0 (setF S 70 q x10) _ q x oq ox d hd od hN hel hs) (rr_ArrayList hK hP oq) kw_128 kw_129 kw_130 kw_26 kw_131 (by decide +kernel) ⟨Nat.le_of_ble_eq_true rfl, Nat.le_of_ble_eq_true rfl⟩ rfl hl.1 rfl (Nat.le_of_ble_eq_true rfl) dJx4a65c_add_9ea2d_20 ⟨Nat.le_of_ble_eq_true rfl, Nat.le_of_ble_eq_true rfl⟩) rfl hD hS hA (fun _ _ _ _ _ h => False.elim h) (fun T12 H locs hp hP hD hS => ?_)
    obtain ⟨d1, v, i, hq9, hv9, hi9, hT⟩ := hp
    subst hT
    refine lv_iconst (v := 1) hx hb dJx4a65c_add_9ea2d_23 (by decide) ?_
    exact kEndI F hr rfl hlk hP hD hS (Nat.le_of_ble_eq_true rfl) (Nat.le_of_ble_eq_true rfl) dJx4a65c_add_9ea2d_24 ⟨_, rfl, addR_B he oq ox hd od hx9 (fun i hi => pk_cpy_in (Nat.zero_le i) (by omega) |>.trans (by rw [Nat.zero_add, Nat.sub_zero]; rfl)) hq9 (fun e => hE.2.1.out (by rw [← e]; exact kD_in hD (List.mem_append_right _ List.mem_cons_self))) hi9 hv9⟩
