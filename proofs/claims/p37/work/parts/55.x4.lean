theorem nI_min {a b : Nat} (ha : a < 2 ^ 31) (hb : b < 2 ^ 31) : (if nI b < nI a then nI b else nI a) = nI (min a b) := by
  rcases Nat.lt_or_ge b a with h | h
  · rw [if_pos (nI_lt h ha), Nat.min_eq_right (Nat.le_of_lt h)]
  · rw [if_neg (Int32.not_lt.mpr (nI_le h hb)), Nat.min_eq_left h]
theorem q_put_e {q : qS} {a u : Nat} : q_put a u q = q_up (q_up q 12 a (q 12 a + min u (q 11 a - q 12 a))) 13 a (q_up q 12 a (q 12 a + min u (q 11 a - q 12 a)) 13 a + (u - min u (q 11 a - q 12 a))) := by
  unfold q_put
  rw [q_k (k := 12) (k' := 13) (by decide)]
/-- the sign that the log's search finds -/
def q_ls (q : qS) (n : Nat) : Nat → Nat
  | 0 => 110
  | k + 1 => if q 43 k = n then q 44 k else q_ls q n k
theorem q_ls_t {q : qS} {n k : Nat} (h : q 43 k = n) : q_ls q n (k + 1) = q 44 k := if_pos h
theorem q_ls_f {q : qS} {n k : Nat} (h : ¬ q 43 k = n) : q_ls q n (k + 1) = q_ls q n k := if_neg h
theorem q_ls_last {q : qS} {n k : Nat} (h : q_last q n k ≠ 0) : q_ls q n k = q_last q n k := by
  induction k with
  | zero => exact absurd rfl h
  | succ k ih =>
    unfold q_last at h
    unfold q_ls q_last
    split
    · rfl
    · next h2 => rw [if_neg h2] at h; exact ih h
theorem q_ls_V {q : qS} {n : Nat} (hV : q_V q) (hn : n < q 73 0) : q_st (q_ls q n (q 42 0)) = q 24 n ∧ q_ls q n (q 42 0) < 65536 := by
  have h1 := hV.2.2.2.1.2 n hn
  have h2 := q_last_of hV.2.2.2.1 hn
  have h3 := (hV.2.2.1 n hn).1
  rw [q_ls_last h1.1]
  refine ⟨h1.2, ?_⟩
  rcases Nat.decEq (q 24 n) 111 with h | h
  · have := h2.2 h; omega
  · have := h2.1 h; omega
theorem kend2 {i m m' : Nat} {x r : Int32} (hin : i ≤ m) (hm : m < 2 ^ 31) (hi : x = nI i) (hr : r = nI m') (hmm : m' = m) (c : r ≤ x) : i = m := by
  subst hmm
  rw [hi, hr] at c
  have := (nI_leI (by omega) (by omega)).mp c
  omega
theorem q_sum_t {q : qS} {a m : Nat} (h1 : q 21 m = a) (h2 : q 24 m = 112) : q_sum q a (m + 1) = q_sum q a m + q 23 m := by
  show q_sum q a m + (if q 21 m = a ∧ q 24 m = 112 then q 23 m else 0) = _
  rw [if_pos ⟨h1, h2⟩]
theorem q_sum_f {q : qS} {a m : Nat} (h : ¬ (q 21 m = a ∧ q 24 m = 112)) : q_sum q a (m + 1) = q_sum q a m := by
  show q_sum q a m + (if q 21 m = a ∧ q 24 m = 112 then q 23 m else 0) = _
  rw [if_neg h]; rfl
/-- how many orders are shipped among the first m -/
def q_sc (q : qS) : Nat → Nat
  | 0 => 0
  | m + 1 => if q 24 m = 115 then q_sc q m + 1 else q_sc q m
theorem q_sc_t {q : qS} {m : Nat} (h : q 24 m = 115) : q_sc q (m + 1) = q_sc q m + 1 := if_pos h
theorem q_sc_f {q : qS} {m : Nat} (h : ¬ q 24 m = 115) : q_sc q (m + 1) = q_sc q m := if_neg h
theorem k24v {q : qS} {n : Nat} (hV : q_V q) (hn : n < q 73 0) : q 24 n < 2 ^ 31 := by
  have := (hV.2.2.1 n hn).1
  omega
theorem kw0 {v : Nat} (hv : v < 2 ^ 31) (h : nI v - 1 = -1) : v = 0 := by
  have h2 : nI v - 1 + 1 = -1 + 1 := by rw [h]
  rw [Int32.sub_add_cancel] at h2
  exact nI_inj hv (by decide) (h2.trans (by decide))
theorem knoA {n : Int32} {m : Nat} (hm : m < 2 ^ 31) (h : n < 0) : ∀ i, i < m → n ≠ nI i := fun i hi e => nI_pos (n := i) (by omega) (by rw [← e]; exact h)
theorem knoB {n x : Int32} {m b : Nat} (hm : m ≤ b) (hb : b < 2 ^ 31) (hx : x = nI b) (h : x ≤ n) : ∀ i, i < m → n ≠ nI i := fun i hi e => by
  rw [hx, e] at h
  have := (nI_leI hb (by omega)).mp h
  omega
theorem q_sc_le {q : qS} {m : Nat} : q_sc q m ≤ m := by
  induction m with
  | zero => exact Nat.le_refl _
  | succ m ih => unfold q_sc; split <;> omega
set_option maxHeartbeats 4000000 in
set_option maxRecDepth 100000 in
theorem c_X1_putAway_x (l : Launch) (hl0 : l.stackTraces = false) (g : kG) (e0 : Nat) (z : Nat → Nat) (S : wPS) (sz : Nat) (hI : Inv z e0 S) (av lv : Nat → Nat) (q : qS) (hR : Rq z av lv S q) (a n : Nat) (ha : a < q 72 0) (u : Int32) (hu : u = nI n) (hn : n < 2 ^ 31) (h3 : q 12 a ≤ q 11 a ∧ q 11 a < 2 ^ 31) : kM l g e0 yX1_putAway cX1_putAway 3 (some .int) 1 20 0 0 [.ref (av a), .int u] S sz (pI (fun r T => Kp z S T ∧ Rq z av lv T (q_put a n q) ∧ r = nI (min n (q 11 a - q 12 a)))) (fun E => False) := by
  refine kM.of (by decide) (Nat.le_of_ble_eq_true rfl) ?_
  intro p e s m below meth c ls B hin
  obtain ⟨F, hr, hlk, hte, hP, hK, hD, hE, hS, hA, hl, hsz⟩ := B
  subst hsz
  have hx := F.1
  have hb := F.2.1
  have hl : lv_has ls 3 [(0, .ref (av a)), (1, .int u)] := hl
  refine lv_iload_n hx hb dX1_putAway_0 rfl (lv_at hl 1 rfl) ?_
  refine lv_aload_n hx hb dX1_putAway_1 rfl (lv_at hl 0 rfl) ?_
  refine kcallI (kV (n := 0) (As := []) (rest := [.int u]) (b := (av a)) (C := RX1) F hE hK hP hD hS hA (c_X1_roomLeft l hl0 g e0 S _ (av a) (hR.1 a ha).1) (rr_Article hK hP (hR.1 a ha).1) kw_395 kw_387 kw_388 kw_82 kw_389 (by decide +kernel) ⟨Nat.le_of_ble_eq_true rfl, Nat.le_of_ble_eq_true rfl⟩ rfl hl.1 rfl (Nat.le_of_ble_eq_true rfl) dX1_putAway_2 ⟨Nat.le_of_ble_eq_true rfl, Nat.le_of_ble_eq_true rfl⟩) rfl hD hS hA (fun _ _ _ _ _ h => False.elim h) (fun r1 T1 H locs hp hP hD hS => ?_)
  obtain ⟨hT, hp2⟩ := hp
  have hT := hT.symm
  subst hT
  refine va_mmin hx hb (by rw [F.2.2.1]; exact hl.1.symm) F.2.2.2.1 (F.2.2.2.2 _ kw_394) (F.2.2.2.2 _ kw_149) (F.2.2.2.2 _ kw_123) (F.2.2.2.2 _ kw_150) (Nat.le_of_ble_eq_true rfl) (Nat.le_of_ble_eq_true rfl) (Nat.le_of_ble_eq_true rfl) (Nat.le_of_ble_eq_true rfl) dX1_putAway_5 ?_
  refine lv_topi (fun x3 ex3 => ?_)
  refine lv_istore_n (lv' := [(2, .int x3), (0, .ref (av a)), (1, .int u)]) hx hb dX1_putAway_8 rfl hl (by decide) rfl (fun ls hl => ?_)
  refine lv_aload_n hx hb dX1_putAway_9 rfl (lv_at hl 1 rfl) ?_
  refine lv_dup hx hb dX1_putAway_10 rfl ?_
  refine rg_Article_stock F hK hP (hR.1 a ha).1 kw_100 dX1_putAway_11 ?_
  refine lv_topi (fun x4 ex4 => ?_)
  refine lv_iload_n hx hb dX1_putAway_14 rfl (lv_at hl 0 rfl) ?_
  refine lv_iadd hx hb dX1_putAway_15 ?_
  refine lv_topi (fun x5 ex5 => ?_)
  refine rp_Article_stock F hK hP hD hS (hR.1 a ha).1 kw_100 dX1_putAway_16 (fun H locs hP hD hS => ?_)
  have hR6 := Rq.artx (x := x5) (f := 12) (v := ((q 12 a) + (min n (q 11 a - q 12 a)))) hR ha (by decide) (by rw [ex5, (show (x4 : Int32) = nI (q 12 a) from (ex4.trans ((hR.1 a ha).2.2.2.2 12 (by decide)))), (show (x3 : Int32) = nI (min n (q 11 a - q 12 a)) from (by rw [ex3, (show (u : Int32) = nI n from hu), (show (r1 : Int32) = nI (q 11 a - q 12 a) from (by rw [hp2, ((hR.1 a ha).2.2.2.2 11 (by decide)), ((hR.1 a ha).2.2.2.2 12 (by decide))]; exact nI_subI h3.1))]; exact nI_min hn (by omega)))]; exact nI_add _ _)
  refine lv_aload_n hx hb dX1_putAway_19 rfl (lv_at hl 1 rfl) ?_
  refine lv_dup hx hb dX1_putAway_20 rfl ?_
  refine rg_Article_reserve F hK hP (hR.1 a ha).1 kw_101 dX1_putAway_21 ?_
  refine lv_topi (fun x7 ex7 => ?_)
  refine lv_iload_n hx hb dX1_putAway_24 rfl (lv_at hl 2 rfl) ?_
  refine lv_iload_n hx hb dX1_putAway_25 rfl (lv_at hl 0 rfl) ?_
  refine lv_isub hx hb dX1_putAway_26 ?_
  refine lv_topi (fun x8 ex8 => ?_)
  refine lv_iadd hx hb dX1_putAway_27 ?_
  refine lv_topi (fun x9 ex9 => ?_)
  refine rp_Article_reserve F hK hP hD hS (hR.1 a ha).1 kw_101 dX1_putAway_28 (fun H locs hP hD hS => ?_)
  have hR10 := Rq.artx (x := x9) (f := 13) (v := (((q_up q 12 a ((q 12 a) + (min n (q 11 a - q 12 a)))) 13 a) + (n - (min n (q 11 a - q 12 a))))) hR6 ha (by decide) (by rw [ex9, (show (x7 : Int32) = nI ((q_up q 12 a ((q 12 a) + (min n (q 11 a - q 12 a)))) 13 a) from (ex7.trans ((hR6.1 a ha).2.2.2.2 13 (by decide)))), (show (x8 : Int32) = nI (n - (min n (q 11 a - q 12 a))) from (by rw [ex8, (show (u : Int32) = nI n from hu), (show (x3 : Int32) = nI (min n (q 11 a - q 12 a)) from (by rw [ex3, (show (u : Int32) = nI n from hu), (show (r1 : Int32) = nI (q 11 a - q 12 a) from (by rw [hp2, ((hR.1 a ha).2.2.2.2 11 (by decide)), ((hR.1 a ha).2.2.2.2 12 (by decide))]; exact nI_subI h3.1))]; exact nI_min hn (by omega)))]; exact nI_subI (Nat.min_le_left _ _)))]; exact nI_add _ _)
  refine lv_iload_n hx hb dX1_putAway_31 rfl (lv_at hl 0 rfl) ?_
  exact kEndI F hr rfl hlk hP hD hS (Nat.le_of_ble_eq_true rfl) (Nat.le_of_ble_eq_true rfl) dX1_putAway_32 ⟨_, rfl, ⟨(kp_setF (kp_setF hI.kp (by decide) (by decide)) (by decide) (by decide)), by rw [q_put_e]; exact hR10, (by rw [ex3, (show (u : Int32) = nI n from hu), (show (r1 : Int32) = nI (q 11 a - q 12 a) from (by rw [hp2, ((hR.1 a ha).2.2.2.2 11 (by decide)), ((hR.1 a ha).2.2.2.2 12 (by decide))]; exact nI_subI h3.1))]; exact nI_min hn (by omega))⟩⟩
set_option maxHeartbeats 4000000 in
set_option maxRecDepth 100000 in
theorem c_X4_lastSignOf_x (l : Launch) (hl0 : l.stackTraces = false) (g : kG) (e0 : Nat) (z : Nat → Nat) (S : wPS) (sz : Nat) (hI : Inv z e0 S) (av lv : Nat → Nat) (q : qS) (hR : Rq z av lv S q) (n : Nat) (nu : Int32) (hnu : nu = nI n) (hn31 : n < 2 ^ 31) (hroom : q 42 0 < 516) (h43 : ∀ k, k < q 42 0 → q 43 k < 2 ^ 31) : kM l g e0 yX4_lastSignOf cX4_lastSignOf 5 (some .char) 1 14 0 0 [.ref (z 12), .int nu] S sz (pI (fun r T => T = S ∧ kCh r ∧ r = nI (q_ls q n (q 42 0)))) (fun E => False) := by
  refine kM.of (by decide) (Nat.le_of_ble_eq_true rfl) ?_
  intro p e s m below meth c ls B hin
  obtain ⟨F, hr, hlk, hte, hP, hK, hD, hE, hS, hA, hl, hsz⟩ := B
  subst hsz
  have hx := F.1
  have hb := F.2.1
  have hl : lv_has ls 5 [(0, .ref (z 12)), (1, .int nu)] := hl
  refine lv_bipush (v := 110) hx hb dX4_lastSignOf_0 (by decide) ?_
  refine lv_istore_n (lv' := [(2, .int 110), (0, .ref (z 12)), (1, .int nu)]) hx hb dX4_lastSignOf_2 rfl hl (by decide) rfl (fun ls hl => ?_)
  refine lv_aload_n hx hb dX4_lastSignOf_3 rfl (lv_at hl 1 rfl) ?_
  refine rg_ScanLog_count F hK hP (hI.1.1 12 (by decide)) kw_333 dX4_lastSignOf_4 ?_
  refine lv_topi (fun x1 ex1 => ?_)
  refine lv_aload_n hx hb dX4_lastSignOf_7 rfl (lv_at hl 1 rfl) ?_
  refine rs_ScanLog_numbers (b := z 13) F hK hP (hI.1.1 12 (by decide)) hI.2.1.2.2.2.2.2.2.1 kw_56 dX4_lastSignOf_8 ?_
  refine rl_I (v := 516) F hK hP (hI.1.1 13 (by decide)) (congrArg Int32.ofNat (show pN S (z 13) = 516 from hI.2.2.1.2.2.2.2.2.1)) dX4_lastSignOf_11 ?_
  refine lv_aload_n hx hb dX4_lastSignOf_12 rfl (lv_at hl 1 rfl) ?_
  refine rs_ScanLog_signs (b := z 14) F hK hP (hI.1.1 12 (by decide)) hI.2.1.2.2.2.2.2.2.2 kw_58 dX4_lastSignOf_13 ?_
  refine rl_C (v := 516) F hK hP (hI.1.1 14 (by decide)) (congrArg Int32.ofNat (show pN S (z 14) = 516 from hI.2.2.1.2.2.2.2.2.2)) dX4_lastSignOf_16 ?_
  refine va_mmin hx hb (by rw [F.2.2.1]; exact hl.1.symm) F.2.2.2.1 (F.2.2.2.2 _ kw_503) (F.2.2.2.2 _ kw_149) (F.2.2.2.2 _ kw_123) (F.2.2.2.2 _ kw_150) (Nat.le_of_ble_eq_true rfl) (Nat.le_of_ble_eq_true rfl) (Nat.le_of_ble_eq_true rfl) (Nat.le_of_ble_eq_true rfl) dX4_lastSignOf_17 ?_
  refine lv_topi (fun x2 ex2 => ?_)
  have hm1 : x2 = nI 516 := by rw [ex2]; rfl
  refine va_mmin hx hb (by rw [F.2.2.1]; exact hl.1.symm) F.2.2.2.1 (F.2.2.2.2 _ kw_503) (F.2.2.2.2 _ kw_149) (F.2.2.2.2 _ kw_123) (F.2.2.2.2 _ kw_150) (Nat.le_of_ble_eq_true rfl) (Nat.le_of_ble_eq_true rfl) (Nat.le_of_ble_eq_true rfl) (Nat.le_of_ble_eq_true rfl) dX4_lastSignOf_20 ?_
  refine lv_topi (fun x3 ex3 => ?_)
  have hx3 : x3 = nI (q 42 0) := (show x3 = nI (min (q 42 0) 516) from (by rw [ex3, (show (x1 : Int32) = nI (q 42 0) from (ex1.trans (hR.2.2.2.2.2.2.2.1.1))), (show (x2 : Int32) = nI 516 from hm1)]; exact nI_min (by omega) (by decide))).trans (congrArg nI (Nat.min_eq_left (by omega)))
  refine lv_istore_n (lv' := [(3, .int x3), (2, .int 110), (0, .ref (z 12)), (1, .int nu)]) hx hb dX4_lastSignOf_23 rfl hl (by decide) rfl (fun ls hl => ?_)
  refine lv_iconst (v := 0) hx hb dX4_lastSignOf_24 (by decide) ?_
  refine lv_istore (lv' := [(4, .int 0), (3, .int x3), (2, .int 110), (0, .ref (z 12)), (1, .int nu)]) hx hb dX4_lastSignOf_25 hl (by decide) rfl (fun ls hl => ?_)
  have loop : ∀ (fu : Nat) (i : Nat) (sg xi : Int32) (H : Heap) (locs : List Loc) (ls : Array Slot), va_P (kD g) vwCl (kW g S) H → va_D (kA (pL S) s.heap.size) (kW g S) → va_S (kA (pL S) s.heap.size) s.heap H locs → lv_has ls 5 [(4, .int xi), (3, .int x3), (2, .int sg), (0, .ref (z 12)), (1, .int nu)] → q 42 0 - i < fu → (xi = nI i) → (i ≤ q 42 0) → (kCh sg) → (sg = nI (q_ls q n i)) → W p l e ({ frames := 1, cells := 0, slots := 0, locals := 14 }) s m ([.ref (z 12), .int nu] : List Value).toArray below meth c H locs 0 0 (vx_MQ below (kQ g S s.heap.size (pI (fun r T => T = S ∧ kCh r ∧ r = nI (q_ls q n (q 42 0))))) (kX g S s.heap.size (fun E => False)) ([.ref (z 12), .int nu] : List Value).toArray s 0 0 (kA (pL S) s.heap.size)) (F0 m 27 ls []) := by
    intro fu
    induction fu with
    | zero => intro i sg xi H locs ls hP hD hS hl hn hi hi0 hg hsg; exact absurd hn (Nat.not_lt_zero _)
    | succ fu ih =>
      intro i sg xi H locs ls hP hD hS hl hn hi hi0 hg hsg
      refine lv_iload hx hb dX4_lastSignOf_27 (lv_at hl 0 rfl) ?_
      refine lv_iload_n hx hb dX4_lastSignOf_29 rfl (lv_at hl 1 rfl) ?_
      refine lv_icmp_ge (tgt := 58) hx hb dX4_lastSignOf_30 (by decide) (fun c4 => ?_) (fun c4 => ?_)
      · refine lv_iload_n hx hb dX4_lastSignOf_58 rfl (lv_at hl 2 rfl) ?_
        exact kEndI F hr hg.1 hlk hP hD hS (Nat.le_of_ble_eq_true rfl) (Nat.le_of_ble_eq_true rfl) dX4_lastSignOf_59 ⟨_, rfl, ⟨rfl, hg, by rw [← kend2 hi0 (by omega) hi hx3 rfl c4]; exact hsg⟩⟩
      · have hlt : i < q 42 0 := by
          rcases Nat.lt_or_ge i (q 42 0) with h | h
          · exact h
          · exact absurd (by rw [hi, hx3]; exact nI_le h (by omega)) c4
        refine lv_aload_n hx hb dX4_lastSignOf_33 rfl (lv_at hl 3 rfl) ?_
        refine rs_ScanLog_numbers (b := z 13) F hK hP (hI.1.1 12 (by decide)) hI.2.1.2.2.2.2.2.2.1 kw_56 dX4_lastSignOf_34 ?_
        refine lv_iload hx hb dX4_lastSignOf_37 (lv_at hl 0 rfl) ?_
        refine rd_I F hK hP (hI.1.1 13 (by decide)) (by rw [hi]; show vp_in (nI i) (pN S (z 13)); rw [show pN S (z 13) = 516 from hI.2.2.1.2.2.2.2.2.1]; exact vp_in_nI (by omega) (by decide)) dX4_lastSignOf_39 ?_
        refine lv_topi (fun x5 ex5 => ?_)
        have hnum : x5 = nI (q 43 i) := by rw [ex5, hi, nI_clamp (by omega)]; exact (hR.2.2.2.2.2.2.2.1.2 i hlt).1
        refine lv_iload_n hx hb dX4_lastSignOf_40 rfl (lv_at hl 4 rfl) ?_
        refine lv_icmp_ne (tgt := 52) hx hb dX4_lastSignOf_41 (by decide) (fun c6 => ?_) (fun c6 => ?_)
        · obtain ⟨x7, ex7⟩ : ∃ y : Int32, y = xi + 1 := ⟨_, rfl⟩
          refine lv_iinc (v := x7) (lv' := [(4, .int x7), (3, .int x3), (2, .int sg), (0, .ref (z 12)), (1, .int nu)]) hx hb dX4_lastSignOf_52 hl (k := 0) rfl (by rw [ex7]; rfl) (by decide) rfl (fun ls hl => ?_)
          refine lv_goto (tgt := 27) hx hb dX4_lastSignOf_55 (by decide) ?_
          exact ih (i + 1) sg x7 H locs ls hP hD hS (lv_sub hl [0, 1, 2, 3, 4] rfl) (by omega) (by rw [ex7, hi]; exact nI_1 i) hlt hg (hsg.trans (congrArg nI (q_ls_f (fun h => c6 (hnum.trans (by rw [h, hnu])))).symm))
        · refine lv_aload_n hx hb dX4_lastSignOf_44 rfl (lv_at hl 3 rfl) ?_
          refine rs_ScanLog_signs (b := z 14) F hK hP (hI.1.1 12 (by decide)) hI.2.1.2.2.2.2.2.2.2 kw_58 dX4_lastSignOf_45 ?_
          refine lv_iload hx hb dX4_lastSignOf_48 (lv_at hl 0 rfl) ?_
          refine rd_C F hK hP (hI.1.1 14 (by decide)) (by rw [hi]; show vp_in (nI i) (pN S (z 14)); rw [show pN S (z 14) = 516 from hI.2.2.1.2.2.2.2.2.2]; exact vp_in_nI (by omega) (by decide)) dX4_lastSignOf_50 ?_
          refine lv_topi (fun x8 ex8 => ?_)
          have hg2 : kCh x8 := by rw [ex8]; exact hI.sg _
          have hs2 : x8 = nI (q 44 i) := by rw [ex8, hi, nI_clamp (by omega)]; exact (hR.2.2.2.2.2.2.2.1.2 i hlt).2
          refine lv_istore_n (lv' := [(2, .int x8), (4, .int xi), (3, .int x3), (0, .ref (z 12)), (1, .int nu)]) hx hb dX4_lastSignOf_51 rfl hl (by decide) rfl (fun ls hl => ?_)
          obtain ⟨x9, ex9⟩ : ∃ y : Int32, y = xi + 1 := ⟨_, rfl⟩
          refine lv_iinc (v := x9) (lv' := [(4, .int x9), (2, .int x8), (3, .int x3), (0, .ref (z 12)), (1, .int nu)]) hx hb dX4_lastSignOf_52 hl (k := 1) rfl (by rw [ex9]; rfl) (by decide) rfl (fun ls hl => ?_)
          refine lv_goto (tgt := 27) hx hb dX4_lastSignOf_55 (by decide) ?_
          exact ih (i + 1) x8 x9 H locs ls hP hD hS (lv_sub hl [0, 2, 1, 3, 4] rfl) (by omega) (by rw [ex9, hi]; exact nI_1 i) hlt hg2 (hs2.trans (congrArg nI (q_ls_t (nI_inj (h43 i hlt) hn31 (hnum.symm.trans (c6.trans hnu)))).symm))
  exact loop 517 0 110 0 _ _ _ hP hD hS (lv_sub hl [0, 1, 2, 3, 4] rfl) (by omega) rfl (Nat.zero_le _) ⟨rfl, rfl⟩ rfl
set_option maxHeartbeats 4000000 in
set_option maxRecDepth 100000 in
theorem c_X5_lastScannedState_x (l : Launch) (hl0 : l.stackTraces = false) (g : kG) (e0 : Nat) (z : Nat → Nat) (S : wPS) (sz : Nat) (hI : Inv z e0 S) (av lv : Nat → Nat) (q : qS) (hR : Rq z av lv S q) (hV : q_V q) (n : Nat) (hn : n < q 73 0) : kM l g e0 yX5_lastScannedState cX5_lastScannedState 2 (some .char) 2 38 0 0 [.ref (z 0), .ref (lv n)] S sz (pI (fun r T => T = S ∧ kCh r ∧ r = nI (q 24 n))) (fun E => False) := by
  refine kM.of (by decide) (Nat.le_of_ble_eq_true rfl) ?_
  intro p e s m below meth c ls B hin
  obtain ⟨F, hr, hlk, hte, hP, hK, hD, hE, hS, hA, hl, hsz⟩ := B
  subst hsz
  have hx := F.1
  have hb := F.2.1
  have hl : lv_has ls 2 [(0, .ref (z 0)), (1, .ref (lv n))] := hl
  have h12 : q 73 0 ≤ 12 := hV.1.2.1
  have hroom : q 42 0 < 516 := Nat.lt_of_le_of_lt (q_room hV.1 hV.2.2.2.1 hV.2.2.2.2.1) (by decide)
  refine lv_aload_n hx hb dX5_lastScannedState_0 rfl (lv_at hl 0 rfl) ?_
  refine rs_Pickwave_log (b := z 12) F hK hP (hI.1.1 0 (by decide)) hI.2.1.2.2.2.2.2.1 kw_28 dX5_lastScannedState_1 ?_
  refine lv_aload_n hx hb dX5_lastScannedState_4 rfl (lv_at hl 1 rfl) ?_
  refine rg_Line_number F hK hP (hR.2.1 n hn).1 kw_310 dX5_lastScannedState_5 ?_
  refine lv_topi (fun x1 ex1 => ?_)
  refine kcallI (kV (n := 1) (As := [.int x1]) (rest := []) (b := (z 12)) (C := RX4) F hE hK hP hD hS hA (c_X4_lastSignOf_x l hl0 g e0 z S _ hI av lv q hR n x1 (ex1.trans (hR.2.1 n hn).2.2.2.2.1) (by omega) hroom (fun k hk => by have := (hV.2.2.2.1.1 k hk).1; omega)) (rr_ScanLog hK hP (hI.1.1 12 (by decide))) kw_499 kw_500 kw_501 kw_27 kw_502 (by decide +kernel) ⟨Nat.le_of_ble_eq_true rfl, Nat.le_of_ble_eq_true rfl⟩ rfl hl.1 rfl (Nat.le_of_ble_eq_true rfl) dX5_lastScannedState_8 ⟨Nat.le_of_ble_eq_true rfl, Nat.le_of_ble_eq_true rfl⟩) rfl hD hS hA (fun _ _ _ _ _ h => False.elim h) (fun r2 T2 H locs hp hP hD hS => ?_)
  obtain ⟨hT, hp3⟩ := hp
  have hT := hT.symm
  subst hT
  refine kcallI (kSt (n := 1) (As := [.int r2]) (rest := []) F hE hK hP hD hS hA (c_X5_stateAfter_x l hl0 g e0 S _ r2 (q_ls q n (q 42 0)) hp3.2 (q_ls_V hV hn).2 hp3.1) kw_326 kw_327 kw_2 kw_328 (by decide +kernel) ⟨Nat.le_of_ble_eq_true rfl, Nat.le_of_ble_eq_true rfl⟩ rfl hl.1 rfl (Nat.le_of_ble_eq_true rfl) dX5_lastScannedState_11 ⟨Nat.le_of_ble_eq_true rfl, Nat.le_of_ble_eq_true rfl⟩) rfl hD hS hA (fun _ _ _ _ _ h => False.elim h) (fun r4 T4 H locs hp hP hD hS => ?_)
  obtain ⟨hT, hp5⟩ := hp
  have hT := hT.symm
  subst hT
  exact kEndI F hr hp5.1.1 hlk hP hD hS (Nat.le_of_ble_eq_true rfl) (Nat.le_of_ble_eq_true rfl) dX5_lastScannedState_14 ⟨_, rfl, ⟨rfl, hp5.1, (hp5.2).trans (congrArg nI (q_ls_V hV hn).1)⟩⟩
set_option maxHeartbeats 4000000 in
set_option maxRecDepth 100000 in
theorem c_X5_stateByScans_x (l : Launch) (hl0 : l.stackTraces = false) (g : kG) (e0 : Nat) (z : Nat → Nat) (S : wPS) (sz : Nat) (hI : Inv z e0 S) (av lv : Nat → Nat) (q : qS) (hR : Rq z av lv S q) (hV : q_V q) (n : Int32) : kM l g e0 yX5_stateByScans cX5_stateByScans 2 (some .char) 7 103 1 6 [.ref (z 0), .int n] S sz (pI (fun r T => T = S ∧ kCh r ∧ ∃ i, i < q 73 0 ∧ n = nI i ∧ r = nI (q 24 i))) (fun E => E = xI ∧ ∀ i, i < q 73 0 → n ≠ nI i) := by
  refine kM.of (by decide) (Nat.le_of_ble_eq_true rfl) ?_
  intro p e s m below meth c ls B hin
  obtain ⟨F, hr, hlk, hte, hP, hK, hD, hE, hS, hA, hl, hsz⟩ := B
  subst hsz
  have hx := F.1
  have hb := F.2.1
  have hl : lv_has ls 2 [(0, .ref (z 0)), (1, .int n)] := hl
  have h12 : q 73 0 ≤ 12 := hV.1.2.1
  refine lv_aload_n hx hb dX5_stateByScans_0 rfl (lv_at hl 0 rfl) ?_
  refine lv_aload_n hx hb dX5_stateByScans_1 rfl (lv_at hl 0 rfl) ?_
  refine lv_iload_n hx hb dX5_stateByScans_2 rfl (lv_at hl 1 rfl) ?_
  refine kcallR (kV (n := 1) (As := [.int n]) (rest := [.ref (z 0)]) (b := (z 0)) (C := RX5) F hE hK hP hD hS hA (c_X5_findLine_x l hl0 g e0 z S _ hI av lv q hR h12 n) (rr_Pickwave hK hP (hI.1.1 0 (by decide))) kw_268 kw_269 kw_270 kw_2 kw_271 (by decide +kernel) ⟨Nat.le_of_ble_eq_true rfl, Nat.le_of_ble_eq_true rfl⟩ rfl hl.1 rfl (Nat.le_of_ble_eq_true rfl) dX5_stateByScans_3 ⟨Nat.le_of_ble_eq_true rfl, Nat.le_of_ble_eq_true rfl⟩) rfl hD hS hA (fun E ce q9 H1 locs1 hex hP1 hS1 hce hcv hcl => kthru hte hlk (hex) hP1 hS1 hce hcv hcl (Nat.le_of_ble_eq_true rfl) (Nat.le_of_ble_eq_true rfl)) (fun b1 T1 H locs hp hP hD hS => ?_)
  obtain ⟨hT, hp2⟩ := hp
  have hT := hT.symm
  subst hT
  obtain ⟨i3, hi3, hn3, rfl⟩ := hp2
  refine kcallI (kV (n := 1) (As := [.ref (lv i3)]) (rest := []) (b := (z 0)) (C := RX5) F hE hK hP hD hS hA (c_X5_lastScannedState_x l hl0 g e0 z S _ hI av lv q hR hV i3 hi3) (rr_Pickwave hK hP (hI.1.1 0 (by decide))) kw_495 kw_496 kw_497 kw_2 kw_498 (by decide +kernel) ⟨Nat.le_of_ble_eq_true rfl, Nat.le_of_ble_eq_true rfl⟩ rfl hl.1 rfl (Nat.le_of_ble_eq_true rfl) dX5_stateByScans_6 ⟨Nat.le_of_ble_eq_true rfl, Nat.le_of_ble_eq_true rfl⟩) rfl hD hS hA (fun _ _ _ _ _ h => False.elim h) (fun r4 T4 H locs hp hP hD hS => ?_)
  obtain ⟨hT, hp5⟩ := hp
  have hT := hT.symm
  subst hT
  exact kEndI F hr hp5.1.1 hlk hP hD hS (Nat.le_of_ble_eq_true rfl) (Nat.le_of_ble_eq_true rfl) dX5_stateByScans_9 ⟨_, rfl, ⟨rfl, hp5.1, i3, hi3, hn3, hp5.2⟩⟩
set_option maxHeartbeats 4000000 in
set_option maxRecDepth 100000 in
theorem c_X5_promisedByScans_x (l : Launch) (hl0 : l.stackTraces = false) (g : kG) (e0 : Nat) (z : Nat → Nat) (S : wPS) (sz : Nat) (hI : Inv z e0 S) (av lv : Nat → Nat) (q : qS) (hR : Rq z av lv S q) (hV : q_V q) (n : Int32) : kM l g e0 yX5_promisedByScans cX5_promisedByScans 6 (some .int) 7 103 1 6 [.ref (z 0), .int n] S sz (pI (fun r T => T = S ∧ ∃ i, i < q 72 0 ∧ n = nI i ∧ r = nI (q_sum q i (q 73 0)))) (fun E => E = xI ∧ ∀ i, i < q 72 0 → n ≠ nI i) := by
  refine kM.of (by decide) (Nat.le_of_ble_eq_true rfl) ?_
  intro p e s m below meth c ls B hin
  obtain ⟨F, hr, hlk, hte, hP, hK, hD, hE, hS, hA, hl, hsz⟩ := B
  subst hsz
  have hx := F.1
  have hb := F.2.1
  have hl : lv_has ls 6 [(0, .ref (z 0)), (1, .int n)] := hl
  have h72 : q 72 0 ≤ 12 := by have := hV.1.1; omega
  obtain ⟨m1, hm1, hL1⟩ := hI.lines
  have h12 : q 72 0 ≤ 12 := h72
  refine lv_aload_n hx hb dX5_promisedByScans_0 rfl (lv_at hl 0 rfl) ?_
  refine lv_iload_n hx hb dX5_promisedByScans_1 rfl (lv_at hl 1 rfl) ?_
  refine kcallR (kV (n := 1) (As := [.int n]) (rest := []) (b := (z 0)) (C := RX5) F hE hK hP hD hS hA (c_X5_findArticle_x l hl0 g e0 z S _ hI av lv q hR h12 n) (rr_Pickwave hK hP (hI.1.1 0 (by decide))) kw_197 kw_198 kw_199 kw_2 kw_200 (by decide +kernel) ⟨Nat.le_of_ble_eq_true rfl, Nat.le_of_ble_eq_true rfl⟩ rfl hl.1 rfl (Nat.le_of_ble_eq_true rfl) dX5_promisedByScans_2 ⟨Nat.le_of_ble_eq_true rfl, Nat.le_of_ble_eq_true rfl⟩) rfl hD hS hA (fun E ce q9 H1 locs1 hex hP1 hS1 hce hcv hcl => kthru hte hlk (hex) hP1 hS1 hce hcv hcl (Nat.le_of_ble_eq_true rfl) (Nat.le_of_ble_eq_true rfl)) (fun b1 T1 H locs hp hP hD hS => ?_)
  obtain ⟨hT, hp2⟩ := hp
  have hT := hT.symm
  subst hT
  obtain ⟨i3, hi3, hn3, rfl⟩ := hp2
  have h12 : q 73 0 ≤ 12 := hV.1.2.1
  obtain rfl : m1 = q 73 0 := nI_inj (by omega) (by omega) (hL1.1.symm.trans hR.2.2.2.1.2)
  refine lv_astore_n (lv' := [(2, .ref (av i3)), (0, .ref (z 0)), (1, .int n)]) hx hb dX5_promisedByScans_5 rfl hl (by decide) rfl (fun ls hl => ?_)
  refine lv_iconst (v := 0) hx hb dX5_promisedByScans_6 (by decide) ?_
  refine lv_istore_n (lv' := [(3, .int 0), (2, .ref (av i3)), (0, .ref (z 0)), (1, .int n)]) hx hb dX5_promisedByScans_7 rfl hl (by decide) rfl (fun ls hl => ?_)
  refine lv_iconst (v := 0) hx hb dX5_promisedByScans_8 (by decide) ?_
  refine lv_istore (lv' := [(4, .int 0), (3, .int 0), (2, .ref (av i3)), (0, .ref (z 0)), (1, .int n)]) hx hb dX5_promisedByScans_9 hl (by decide) rfl (fun ls hl => ?_)
  have loop : ∀ (fu : Nat) (i : Nat) (xi sm : Int32) (H : Heap) (locs : List Loc) (ls : Array Slot), va_P (kD g) vwCl (kW g S) H → va_D (kA (pL S) s.heap.size) (kW g S) → va_S (kA (pL S) s.heap.size) s.heap H locs → lv_has ls 6 [(4, .int xi), (3, .int sm), (2, .ref (av i3)), (0, .ref (z 0)), (1, .int n)] → q 73 0 - i < fu → (xi = nI i) → (i ≤ q 73 0) → (sm = nI (q_sum q i3 i)) → W p l e ({ frames := 7, cells := 1, slots := 6, locals := 103 }) s m ([.ref (z 0), .int n] : List Value).toArray below meth c H locs 1 6 (vx_MQ below (kQ g S s.heap.size (pI (fun r T => T = S ∧ ∃ i, i < q 72 0 ∧ n = nI i ∧ r = nI (q_sum q i (q 73 0))))) (kX g S s.heap.size (fun E => E = xI ∧ ∀ i, i < q 72 0 → n ≠ nI i)) ([.ref (z 0), .int n] : List Value).toArray s 1 6 (kA (pL S) s.heap.size)) (F0 m 11 ls []) := by
    intro fu
    induction fu with
    | zero => intro i xi sm H locs ls hP hD hS hl hn hi hin hsm; exact absurd hn (Nat.not_lt_zero _)
    | succ fu ih =>
      intro i xi sm H locs ls hP hD hS hl hn hi hin hsm
      refine lv_iload hx hb dX5_promisedByScans_11 (lv_at hl 0 rfl) ?_
      refine lv_aload_n hx hb dX5_promisedByScans_13 rfl (lv_at hl 3 rfl) ?_
      refine rs_Pickwave_lines (b := z 11) F hK hP (hI.1.1 0 (by decide)) hI.2.1.2.2.2.2.1 kw_24 dX5_promisedByScans_14 ?_
      refine kcallI (kV (n := 0) (As := []) (rest := [.int xi]) (b := (z 11)) (C := RJx4a65c) F hE hK hP hD hS hA (c_Jx4a65c_size_8abf5 l hl0 g e0 S _ (z 11) (hI.1.1 11 (by decide))) (rr_ArrayList hK hP (hI.1.1 11 (by decide))) kw_90 kw_91 kw_92 kw_22 kw_93 (by decide +kernel) ⟨Nat.le_of_ble_eq_true rfl, Nat.le_of_ble_eq_true rfl⟩ rfl hl.1 rfl (Nat.le_of_ble_eq_true rfl) dX5_promisedByScans_17 ⟨Nat.le_of_ble_eq_true rfl, Nat.le_of_ble_eq_true rfl⟩) rfl hD hS hA (fun _ _ _ _ _ h => False.elim h) (fun r4 T4 H locs hp hP hD hS => ?_)
      obtain ⟨hT, hp5⟩ := hp
      have hT := hT.symm
      subst hT
      refine lv_icmp_ge (tgt := 71) hx hb dX5_promisedByScans_20 (by decide) (fun c6 => ?_) (fun c6 => ?_)
      · refine lv_iload_n hx hb dX5_promisedByScans_71 rfl (lv_at hl 1 rfl) ?_
        exact kEndI F hr rfl hlk hP hD hS (Nat.le_of_ble_eq_true rfl) (Nat.le_of_ble_eq_true rfl) dX5_promisedByScans_72 ⟨_, rfl, ⟨rfl, i3, hi3, hn3, by rw [← kend hin h12 hi (hp5.trans hR.2.2.2.1.2) rfl c6]; exact hsm⟩⟩
      · obtain ⟨him, hx0, hx1⟩ := klp hL1 ⟨h12, hin⟩ hi hp5 c6
        refine lv_aload_n hx hb dX5_promisedByScans_23 rfl (lv_at hl 3 rfl) ?_
        refine rs_Pickwave_lines (b := z 11) F hK hP (hI.1.1 0 (by decide)) hI.2.1.2.2.2.2.1 kw_24 dX5_promisedByScans_24 ?_
        refine lv_iload hx hb dX5_promisedByScans_27 (lv_at hl 0 rfl) ?_
        refine kcallR (kV (n := 1) (As := [.int xi]) (rest := []) (b := (z 11)) (C := RJx4a65c) F hE hK hP hD hS hA (c_Jx4a65c_get_915e3 l hl0 g e0 S _ (z 11) 2 _ xi (hI.1.1 11 (by decide)) hL1 hx0 hx1 (by omega)) (rr_ArrayList hK hP (hI.1.1 11 (by decide))) kw_204 kw_205 kw_206 kw_22 kw_207 (by decide +kernel) ⟨Nat.le_of_ble_eq_true rfl, Nat.le_of_ble_eq_true rfl⟩ rfl hl.1 rfl (Nat.le_of_ble_eq_true rfl) dX5_promisedByScans_29 ⟨Nat.le_of_ble_eq_true rfl, Nat.le_of_ble_eq_true rfl⟩) rfl hD hS hA (fun _ _ _ _ _ h => False.elim h) (fun b7 T7 H locs hp hP hD hS => ?_)
        obtain ⟨hT, hp8⟩ := hp
        have hT := hT.symm
        subst hT
        obtain ⟨ob9, d9, hd9, hy9⟩ := hp8
        obtain rfl : b7 = lv i := kfind (hR.2.1 i him).2.1 hd9 hy9 hi (by omega)
        refine va_castS hx hb F.2.2.2.1 (F.2.2.2.2 _ kw_272) (hK.1 3 _ rfl).2 (rr_Line hK hP ob9) dX5_promisedByScans_32 ?_
        refine lv_astore (lv' := [(5, .ref (lv i)), (4, .int xi), (3, .int sm), (2, .ref (av i3)), (0, .ref (z 0)), (1, .int n)]) hx hb dX5_promisedByScans_35 hl (by decide) rfl (fun ls hl => ?_)
        refine lv_aload hx hb dX5_promisedByScans_37 (lv_at hl 0 rfl) ?_
        refine rs_Line_article (b := av (q 21 i)) F hK hP ob9 ((hR.2.1 i him).2.2.1) kw_325 dX5_promisedByScans_39 ?_
        refine lv_aload_n hx hb dX5_promisedByScans_42 rfl (lv_at hl 3 rfl) ?_
        refine lv_acmp_ne (rx := (some (av (q 21 i)))) (ry := (some (av i3))) (tgt := 65) hx hb dX5_promisedByScans_43 (by decide) (fun c10 => ?_) (fun c10 => ?_)
        · obtain ⟨x11, ex11⟩ : ∃ y : Int32, y = xi + 1 := ⟨_, rfl⟩
          refine lv_iinc (v := x11) (lv' := [(4, .int x11), (5, .ref (lv i)), (3, .int sm), (2, .ref (av i3)), (0, .ref (z 0)), (1, .int n)]) hx hb dX5_promisedByScans_65 hl (k := 1) rfl (by rw [ex11]; rfl) (by decide) rfl (fun ls hl => ?_)
          refine lv_goto (tgt := 11) hx hb dX5_promisedByScans_68 (by decide) ?_
          exact ih (i + 1) x11 sm H locs ls hP hD hS (lv_sub hl [0, 2, 3, 4, 5] rfl) (by omega) (by rw [ex11, hi]; exact nI_1 i) him (hsm.trans (congrArg nI (q_sum_f (fun h => c10 (congrArg (fun y => some (av y)) h.1))).symm))
        · refine lv_aload_n hx hb dX5_promisedByScans_46 rfl (lv_at hl 4 rfl) ?_
          refine lv_aload hx hb dX5_promisedByScans_47 (lv_at hl 0 rfl) ?_
          refine kcallI (kV (n := 1) (As := [.ref (lv i)]) (rest := []) (b := (z 0)) (C := RX5) F hE hK hP hD hS hA (c_X5_lastScannedState_x l hl0 g e0 z S _ hI av lv q hR hV i him) (rr_Pickwave hK hP (hI.1.1 0 (by decide))) kw_495 kw_496 kw_497 kw_2 kw_498 (by decide +kernel) ⟨Nat.le_of_ble_eq_true rfl, Nat.le_of_ble_eq_true rfl⟩ rfl hl.1 rfl (Nat.le_of_ble_eq_true rfl) dX5_promisedByScans_49 ⟨Nat.le_of_ble_eq_true rfl, Nat.le_of_ble_eq_true rfl⟩) rfl hD hS hA (fun _ _ _ _ _ h => False.elim h) (fun r12 T12 H locs hp hP hD hS => ?_)
          obtain ⟨hT, hp13⟩ := hp
          have hT := hT.symm
          subst hT
          refine lv_bipush (v := 112) hx hb dX5_promisedByScans_52 (by decide) ?_
          refine lv_icmp_ne (tgt := 65) hx hb dX5_promisedByScans_54 (by decide) (fun c14 => ?_) (fun c14 => ?_)
          · obtain ⟨x15, ex15⟩ : ∃ y : Int32, y = xi + 1 := ⟨_, rfl⟩
            refine lv_iinc (v := x15) (lv' := [(4, .int x15), (5, .ref (lv i)), (3, .int sm), (2, .ref (av i3)), (0, .ref (z 0)), (1, .int n)]) hx hb dX5_promisedByScans_65 hl (k := 1) rfl (by rw [ex15]; rfl) (by decide) rfl (fun ls hl => ?_)
            refine lv_goto (tgt := 11) hx hb dX5_promisedByScans_68 (by decide) ?_
            exact ih (i + 1) x15 sm H locs ls hP hD hS (lv_sub hl [0, 2, 3, 4, 5] rfl) (by omega) (by rw [ex15, hi]; exact nI_1 i) him (hsm.trans (congrArg nI (q_sum_f (fun h => c14 (hp13.2.trans (by rw [h.2]; rfl)))).symm))
          · refine lv_iload_n hx hb dX5_promisedByScans_57 rfl (lv_at hl 2 rfl) ?_
            refine lv_aload hx hb dX5_promisedByScans_58 (lv_at hl 0 rfl) ?_
            refine rg_Line_amount F hK hP ob9 kw_280 dX5_promisedByScans_60 ?_
            refine lv_topi (fun x16 ex16 => ?_)
            refine lv_iadd hx hb dX5_promisedByScans_63 ?_
            refine lv_topi (fun x17 ex17 => ?_)
            refine lv_istore_n (lv' := [(3, .int x17), (5, .ref (lv i)), (4, .int xi), (2, .ref (av i3)), (0, .ref (z 0)), (1, .int n)]) hx hb dX5_promisedByScans_64 rfl hl (by decide) rfl (fun ls hl => ?_)
            obtain ⟨x18, ex18⟩ : ∃ y : Int32, y = xi + 1 := ⟨_, rfl⟩
            refine lv_iinc (v := x18) (lv' := [(4, .int x18), (3, .int x17), (5, .ref (lv i)), (2, .ref (av i3)), (0, .ref (z 0)), (1, .int n)]) hx hb dX5_promisedByScans_65 hl (k := 2) rfl (by rw [ex18]; rfl) (by decide) rfl (fun ls hl => ?_)
            refine lv_goto (tgt := 11) hx hb dX5_promisedByScans_68 (by decide) ?_
            exact ih (i + 1) x18 x17 H locs ls hP hD hS (lv_sub hl [0, 1, 3, 4, 5] rfl) (by omega) (by rw [ex18, hi]; exact nI_1 i) him ((show x17 = nI ((q_sum q i3 i) + (q 23 i)) from (by rw [ex17, (show (sm : Int32) = nI (q_sum q i3 i) from hsm), (show (x16 : Int32) = nI (q 23 i) from (ex16.trans ((hR.2.1 i him).2.2.2.2.2.2 23 (by decide))))]; exact nI_add _ _)).trans (congrArg nI (q_sum_t (hR.2.2.1.1 _ _ (hR.2.1 i him).2.2.2.1 hi3 (Option.some.inj c10)) (nI_inj (b := 112) (k24v hV him) (by decide) (hp13.2.symm.trans c14))).symm))
  exact loop 13 0 0 0 _ _ _ hP hD hS (lv_sub hl [0, 1, 2, 3, 4] rfl) (by omega) rfl (Nat.zero_le _) rfl
set_option maxHeartbeats 4000000 in
set_option maxRecDepth 100000 in
theorem c_X5_waveOf_x (l : Launch) (hl0 : l.stackTraces = false) (g : kG) (e0 : Nat) (z : Nat → Nat) (S : wPS) (sz : Nat) (hI : Inv z e0 S) (av lv : Nat → Nat) (q : qS) (hR : Rq z av lv S q) (h12 : q 73 0 ≤ 12) (hw : ∀ i, i < q 73 0 → q 25 i < 2 ^ 31) (n : Int32) : kM l g e0 yX5_waveOf cX5_waveOf 3 (some .int) 7 103 2 12 [.ref (z 0), .int n] S sz (pI (fun r T => T = S ∧ ∃ i, i < q 73 0 ∧ n = nI i ∧ q 25 i ≠ 0 ∧ r = nI (q 25 i - 1))) (fun E => (E = xI ∧ ∀ i, i < q 73 0 → n ≠ nI i) ∨ (E = xN ∧ ∃ i, i < q 73 0 ∧ n = nI i ∧ q 25 i = 0)) := by
  refine kM.of (by decide) (Nat.le_of_ble_eq_true rfl) ?_
  intro p e s m below meth c ls B hin
  obtain ⟨F, hr, hlk, hte, hP, hK, hD, hE, hS, hA, hl, hsz⟩ := B
  subst hsz
  have hx := F.1
  have hb := F.2.1
  have hl : lv_has ls 3 [(0, .ref (z 0)), (1, .int n)] := hl
  refine lv_aload_n hx hb dX5_waveOf_0 rfl (lv_at hl 0 rfl) ?_
  refine lv_iload_n hx hb dX5_waveOf_1 rfl (lv_at hl 1 rfl) ?_
  refine kcallR (kV (n := 1) (As := [.int n]) (rest := []) (b := (z 0)) (C := RX5) F hE hK hP hD hS hA (c_X5_findLine_x l hl0 g e0 z S _ hI av lv q hR h12 n) (rr_Pickwave hK hP (hI.1.1 0 (by decide))) kw_268 kw_269 kw_270 kw_2 kw_271 (by decide +kernel) ⟨Nat.le_of_ble_eq_true rfl, Nat.le_of_ble_eq_true rfl⟩ rfl hl.1 rfl (Nat.le_of_ble_eq_true rfl) dX5_waveOf_2 ⟨Nat.le_of_ble_eq_true rfl, Nat.le_of_ble_eq_true rfl⟩) rfl hD hS hA (fun E ce q9 H1 locs1 hex hP1 hS1 hce hcv hcl => kthru hte hlk (Or.inl hex) hP1 hS1 hce hcv hcl (Nat.le_of_ble_eq_true rfl) (Nat.le_of_ble_eq_true rfl)) (fun b1 T1 H locs hp hP hD hS => ?_)
  obtain ⟨hT, hp2⟩ := hp
  have hT := hT.symm
  subst hT
  obtain ⟨i3, hi3, hn3, rfl⟩ := hp2
  refine lv_astore_n (lv' := [(2, .ref (lv i3)), (0, .ref (z 0)), (1, .int n)]) hx hb dX5_waveOf_5 rfl hl (by decide) rfl (fun ls hl => ?_)
  refine lv_aload_n hx hb dX5_waveOf_6 rfl (lv_at hl 0 rfl) ?_
  refine rg_Line_lastWave F hK hP (hR.2.1 i3 hi3).1 kw_291 dX5_waveOf_7 ?_
  refine lv_topi (fun x4 ex4 => ?_)
  refine lv_iconst (v := (-1)) hx hb dX5_waveOf_10 (by decide) ?_
  refine lv_icmp_ne (tgt := 24) hx hb dX5_waveOf_11 (by decide) (fun c5 => ?_) (fun c5 => ?_)
  · refine lv_aload_n hx hb dX5_waveOf_24 rfl (lv_at hl 0 rfl) ?_
    refine rg_Line_lastWave F hK hP (hR.2.1 i3 hi3).1 kw_291 dX5_waveOf_25 ?_
    refine lv_topi (fun x6 ex6 => ?_)
    have h0 : q 25 i3 ≠ 0 := fun h => c5 ((ex4.trans (hR.2.1 i3 hi3).2.2.2.2.2.1).trans (by rw [h]; rfl))
    exact kEndI F hr rfl hlk hP hD hS (Nat.le_of_ble_eq_true rfl) (Nat.le_of_ble_eq_true rfl) dX5_waveOf_28 ⟨_, rfl, ⟨rfl, i3, hi3, hn3, h0, ((ex6.trans (hR.2.1 i3 hi3).2.2.2.2.2.1)).trans (nI_subI (b := 1) (Nat.pos_of_ne_zero h0))⟩⟩
  · exact kth_NSEE hl0 F hE hlk hte hP hS hl.1 (List.mem_of_getElem? (i := 17) rfl) dX5_waveOf_14 dX5_waveOf_17 dX5_waveOf_18 dX5_waveOf_20 dX5_waveOf_23 ⟨Nat.le_of_ble_eq_true rfl, Nat.le_of_ble_eq_true rfl, Nat.le_of_ble_eq_true rfl, Nat.le_of_ble_eq_true rfl⟩ (Nat.le_of_ble_eq_true rfl) (Nat.le_of_ble_eq_true rfl) (Or.inr ⟨rfl, i3, hi3, hn3, kw0 (hw _ hi3) ((ex4.trans (hR.2.1 i3 hi3).2.2.2.2.2.1).symm.trans c5)⟩)
set_option maxHeartbeats 4000000 in
set_option maxRecDepth 100000 in
theorem c_X5_shippedShare_x (l : Launch) (hl0 : l.stackTraces = false) (g : kG) (e0 : Nat) (z : Nat → Nat) (S : wPS) (sz : Nat) (hI : Inv z e0 S) (av lv : Nat → Nat) (q : qS) (hR : Rq z av lv S q) (hV : q_V q) : kM l g e0 yX5_shippedShare cX5_shippedShare 4 (some .float) 6 82 1 6 [.ref (z 0)] S sz (pFl (fun r T => T = S ∧ q 73 0 ≠ 0 ∧ r = FP.fdiv (FP.i2f (nI (q_sc q (q 73 0)))) (FP.i2f (nI (q 73 0))))) (fun E => E = xN ∧ q 73 0 = 0) := by
  refine kM.of (by decide) (Nat.le_of_ble_eq_true rfl) ?_
  intro p e s m below meth c ls B hin
  obtain ⟨F, hr, hlk, hte, hP, hK, hD, hE, hS, hA, hl, hsz⟩ := B
  subst hsz
  have hx := F.1
  have hb := F.2.1
  have hl : lv_has ls 4 [(0, .ref (z 0))] := hl
  obtain ⟨m1, hm1, hL1⟩ := hI.lines
  have h12 : q 73 0 ≤ 12 := hV.1.2.1
  obtain rfl : m1 = q 73 0 := nI_inj (by omega) (by omega) (hL1.1.symm.trans hR.2.2.2.1.2)
  refine lv_aload_n hx hb dX5_shippedShare_0 rfl (lv_at hl 0 rfl) ?_
  refine rs_Pickwave_lines (b := z 11) F hK hP (hI.1.1 0 (by decide)) hI.2.1.2.2.2.2.1 kw_24 dX5_shippedShare_1 ?_
  refine kcallI (kV (n := 0) (As := []) (rest := []) (b := (z 11)) (C := RJx4a65c) F hE hK hP hD hS hA (c_Jx4a65c_size_8abf5 l hl0 g e0 S _ (z 11) (hI.1.1 11 (by decide))) (rr_ArrayList hK hP (hI.1.1 11 (by decide))) kw_90 kw_91 kw_92 kw_22 kw_93 (by decide +kernel) ⟨Nat.le_of_ble_eq_true rfl, Nat.le_of_ble_eq_true rfl⟩ rfl hl.1 rfl (Nat.le_of_ble_eq_true rfl) dX5_shippedShare_4 ⟨Nat.le_of_ble_eq_true rfl, Nat.le_of_ble_eq_true rfl⟩) rfl hD hS hA (fun _ _ _ _ _ h => False.elim h) (fun r1 T1 H locs hp hP hD hS => ?_)
  obtain ⟨hT, hp2⟩ := hp
  have hT := hT.symm
  subst hT
  refine lv_istore_n (lv' := [(1, .int r1), (0, .ref (z 0))]) hx hb dX5_shippedShare_7 rfl hl (by decide) rfl (fun ls hl => ?_)
  refine lv_iload_n hx hb dX5_shippedShare_8 rfl (lv_at hl 0 rfl) ?_
  refine lv_if_ne (tgt := 23) hx hb dX5_shippedShare_9 (by decide) (fun c3 => ?_) (fun c3 => ?_)
  · have h0 : q 73 0 ≠ 0 := fun h => c3 ((hp2.trans hR.2.2.2.1.2).trans (by rw [h]; rfl))
    refine lv_iconst (v := 0) hx hb dX5_shippedShare_23 (by decide) ?_
    refine lv_istore_n (lv' := [(2, .int 0), (1, .int r1), (0, .ref (z 0))]) hx hb dX5_shippedShare_24 rfl hl (by decide) rfl (fun ls hl => ?_)
    refine lv_iconst (v := 0) hx hb dX5_shippedShare_25 (by decide) ?_
    refine lv_istore_n (lv' := [(3, .int 0), (2, .int 0), (1, .int r1), (0, .ref (z 0))]) hx hb dX5_shippedShare_26 rfl hl (by decide) rfl (fun ls hl => ?_)
    have loop : ∀ (fu : Nat) (i : Nat) (xi cn : Int32) (H : Heap) (locs : List Loc) (ls : Array Slot), va_P (kD g) vwCl (kW g S) H → va_D (kA (pL S) s.heap.size) (kW g S) → va_S (kA (pL S) s.heap.size) s.heap H locs → lv_has ls 4 [(3, .int xi), (2, .int cn), (1, .int r1), (0, .ref (z 0))] → q 73 0 - i < fu → (xi = nI i) → (i ≤ q 73 0) → (cn = nI (q_sc q i)) → W p l e ({ frames := 6, cells := 1, slots := 6, locals := 82 }) s m ([.ref (z 0)] : List Value).toArray below meth c H locs 0 0 (vx_MQ below (kQ g S s.heap.size (pFl (fun r T => T = S ∧ q 73 0 ≠ 0 ∧ r = FP.fdiv (FP.i2f (nI (q_sc q (q 73 0)))) (FP.i2f (nI (q 73 0)))))) (kX g S s.heap.size (fun E => E = xN ∧ q 73 0 = 0)) ([.ref (z 0)] : List Value).toArray s 1 6 (kA (pL S) s.heap.size)) (F0 m 27 ls []) := by
      intro fu
      induction fu with
      | zero => intro i xi cn H locs ls hP hD hS hl hn hi hin hcn; exact absurd hn (Nat.not_lt_zero _)
      | succ fu ih =>
        intro i xi cn H locs ls hP hD hS hl hn hi hin hcn
        refine lv_iload_n hx hb dX5_shippedShare_27 rfl (lv_at hl 0 rfl) ?_
        refine lv_iload_n hx hb dX5_shippedShare_28 rfl (lv_at hl 2 rfl) ?_
        refine lv_icmp_ge (tgt := 60) hx hb dX5_shippedShare_29 (by decide) (fun c4 => ?_) (fun c4 => ?_)
        · have hiM : i = q 73 0 := kend hin h12 hi (hp2.trans hR.2.2.2.1.2) rfl c4
          have hr1 : r1 = nI (q 73 0) := (hp2).trans hR.2.2.2.1.2
          refine lv_iload_n hx hb dX5_shippedShare_60 rfl (lv_at hl 1 rfl) ?_
          refine lv_i2f hx hb dX5_shippedShare_61 ?_
          refine lv_iload_n hx hb dX5_shippedShare_62 rfl (lv_at hl 2 rfl) ?_
          refine lv_i2f hx hb dX5_shippedShare_63 ?_
          refine lv_fdiv hx hb dX5_shippedShare_64 (by rw [hcn, hr1, hiM]; exact (kshare q_sc_le h12 (Nat.pos_of_ne_zero h0)).1) ?_
          exact kEndF F hr hlk hP hD hS (Nat.le_of_ble_eq_true rfl) (Nat.le_of_ble_eq_true rfl) dX5_shippedShare_65 ⟨_, rfl, ⟨rfl, h0, by rw [hcn, hr1, hiM]⟩⟩
        · obtain ⟨him, hx0, hx1⟩ := klp hL1 ⟨h12, hin⟩ hi hp2 c4
          refine lv_aload_n hx hb dX5_shippedShare_32 rfl (lv_at hl 3 rfl) ?_
          refine rs_Pickwave_lines (b := z 11) F hK hP (hI.1.1 0 (by decide)) hI.2.1.2.2.2.2.1 kw_24 dX5_shippedShare_33 ?_
          refine lv_iload_n hx hb dX5_shippedShare_36 rfl (lv_at hl 0 rfl) ?_
          refine kcallR (kV (n := 1) (As := [.int xi]) (rest := []) (b := (z 11)) (C := RJx4a65c) F hE hK hP hD hS hA (c_Jx4a65c_get_915e3 l hl0 g e0 S _ (z 11) 2 _ xi (hI.1.1 11 (by decide)) hL1 hx0 hx1 (by omega)) (rr_ArrayList hK hP (hI.1.1 11 (by decide))) kw_204 kw_205 kw_206 kw_22 kw_207 (by decide +kernel) ⟨Nat.le_of_ble_eq_true rfl, Nat.le_of_ble_eq_true rfl⟩ rfl hl.1 rfl (Nat.le_of_ble_eq_true rfl) dX5_shippedShare_37 ⟨Nat.le_of_ble_eq_true rfl, Nat.le_of_ble_eq_true rfl⟩) rfl hD hS hA (fun _ _ _ _ _ h => False.elim h) (fun b5 T5 H locs hp hP hD hS => ?_)
          obtain ⟨hT, hp6⟩ := hp
          have hT := hT.symm
          subst hT
          obtain ⟨ob7, d7, hd7, hy7⟩ := hp6
          obtain rfl : b5 = lv i := kfind (hR.2.1 i him).2.1 hd7 hy7 hi (by omega)
          refine va_castS hx hb F.2.2.2.1 (F.2.2.2.2 _ kw_272) (hK.1 3 _ rfl).2 (rr_Line hK hP ob7) dX5_shippedShare_40 ?_
          refine rg_Line_state F hK hP ob7 kw_267 dX5_shippedShare_43 ?_
          refine lv_topi (fun x8 ex8 => ?_)
          refine lv_bipush (v := 115) hx hb dX5_shippedShare_46 (by decide) ?_
          refine lv_icmp_ne (tgt := 54) hx hb dX5_shippedShare_48 (by decide) (fun c9 => ?_) (fun c9 => ?_)
          · obtain ⟨x10, ex10⟩ : ∃ y : Int32, y = xi + 1 := ⟨_, rfl⟩
            refine lv_iinc (v := x10) (lv' := [(3, .int x10), (2, .int cn), (1, .int r1), (0, .ref (z 0))]) hx hb dX5_shippedShare_54 hl (k := 0) rfl (by rw [ex10]; rfl) (by decide) rfl (fun ls hl => ?_)
            refine lv_goto (tgt := 27) hx hb dX5_shippedShare_57 (by decide) ?_
            exact ih (i + 1) x10 cn H locs ls hP hD hS (lv_sub hl [0, 1, 2, 3] rfl) (by omega) (by rw [ex10, hi]; exact nI_1 i) him (hcn.trans (congrArg nI (q_sc_f (fun h => c9 ((ex8.trans ((hR.2.1 i him).2.2.2.2.2.2 24 (by decide))).trans (by rw [h]; rfl)))).symm))
          · obtain ⟨x11, ex11⟩ : ∃ y : Int32, y = cn + 1 := ⟨_, rfl⟩
            refine lv_iinc (v := x11) (lv' := [(2, .int x11), (3, .int xi), (1, .int r1), (0, .ref (z 0))]) hx hb dX5_shippedShare_51 hl (k := 1) rfl (by rw [ex11]; rfl) (by decide) rfl (fun ls hl => ?_)
            obtain ⟨x12, ex12⟩ : ∃ y : Int32, y = xi + 1 := ⟨_, rfl⟩
            refine lv_iinc (v := x12) (lv' := [(3, .int x12), (2, .int x11), (1, .int r1), (0, .ref (z 0))]) hx hb dX5_shippedShare_54 hl (k := 1) rfl (by rw [ex12]; rfl) (by decide) rfl (fun ls hl => ?_)
            refine lv_goto (tgt := 27) hx hb dX5_shippedShare_57 (by decide) ?_
            exact ih (i + 1) x12 x11 H locs ls hP hD hS (lv_sub hl [0, 1, 2, 3] rfl) (by omega) (by rw [ex12, hi]; exact nI_1 i) him ((show x11 = nI ((q_sc q i) + 1) from (by rw [ex11, (show (cn : Int32) = nI (q_sc q i) from hcn)]; exact nI_1 _)).trans (congrArg nI (q_sc_t (nI_inj (b := 115) (k24v hV him) (by decide) ((ex8.trans ((hR.2.1 i him).2.2.2.2.2.2 24 (by decide))).symm.trans c9))).symm))
    exact loop 13 0 0 0 _ _ _ hP hD hS (lv_sub hl [0, 1, 2, 3] rfl) (by omega) rfl (Nat.zero_le _) rfl
  · exact kth_NSEEW hl0 F hE hlk hte hP hS hl.1 (List.mem_of_getElem? (i := 24) rfl) dX5_shippedShare_12 dX5_shippedShare_15 dX5_shippedShare_16 dX5_shippedShare_19 dX5_shippedShare_22 ⟨Nat.le_of_ble_eq_true rfl, Nat.le_of_ble_eq_true rfl, Nat.le_of_ble_eq_true rfl, Nat.le_of_ble_eq_true rfl⟩ (Nat.le_of_ble_eq_true rfl) (Nat.le_of_ble_eq_true rfl) (⟨rfl, nI_inj (b := 0) (by omega) (by decide) ((hp2.trans hR.2.2.2.1.2).symm.trans c3)⟩)
set_option maxHeartbeats 4000000 in
set_option maxRecDepth 100000 in
theorem c_X4_has_x (l : Launch) (hl0 : l.stackTraces = false) (g : kG) (e0 : Nat) (z : Nat → Nat) (S : wPS) (sz : Nat) (hI : Inv z e0 S) (av lv : Nat → Nat) (q : qS) (hR : Rq z av lv S q) (hroom : q 42 0 < 516) (n : Int32) : kM l g e0 yX4_has cX4_has 2 (some .boolean) 0 0 0 0 [.ref (z 12), .int n] S sz (pI (fun r T => T = S ∧ ((r = 0 ∧ ∀ k, k < q 42 0 → n ≠ nI k) ∨ (r = 1 ∧ ∃ k, k < q 42 0 ∧ n = nI k)))) (fun E => False) := by
  refine kM.of (by decide) (Nat.le_of_ble_eq_true rfl) ?_
  intro p e s m below meth c ls B hin
  obtain ⟨F, hr, hlk, hte, hP, hK, hD, hE, hS, hA, hl, hsz⟩ := B
  subst hsz
  have hx := F.1
  have hb := F.2.1
  have hl : lv_has ls 2 [(0, .ref (z 12)), (1, .int n)] := hl
  refine lv_iload_n hx hb dX4_has_0 rfl (lv_at hl 1 rfl) ?_
  refine lv_if_lt (tgt := 34) hx hb dX4_has_1 (by decide) (fun c1 => ?_) (fun c1 => ?_)
  · refine lv_iconst (v := 0) hx hb dX4_has_34 (by decide) ?_
    exact kEndI F hr rfl hlk hP hD hS (Nat.le_of_ble_eq_true rfl) (Nat.le_of_ble_eq_true rfl) dX4_has_35 ⟨_, rfl, ⟨rfl, Or.inl ⟨rfl, knoA (by omega) c1⟩⟩⟩
  · refine lv_iload_n hx hb dX4_has_4 rfl (lv_at hl 1 rfl) ?_
    refine lv_aload_n hx hb dX4_has_5 rfl (lv_at hl 0 rfl) ?_
    refine rg_ScanLog_count F hK hP (hI.1.1 12 (by decide)) kw_333 dX4_has_6 ?_
    refine lv_topi (fun x2 ex2 => ?_)
    refine lv_icmp_ge (tgt := 34) hx hb dX4_has_9 (by decide) (fun c3 => ?_) (fun c3 => ?_)
    · refine lv_iconst (v := 0) hx hb dX4_has_34 (by decide) ?_
      exact kEndI F hr rfl hlk hP hD hS (Nat.le_of_ble_eq_true rfl) (Nat.le_of_ble_eq_true rfl) dX4_has_35 ⟨_, rfl, ⟨rfl, Or.inl ⟨rfl, knoB (Nat.le_refl _) (by omega) ((ex2.trans (hR.2.2.2.2.2.2.2.1.1))) c3⟩⟩⟩
    · refine lv_iload_n hx hb dX4_has_12 rfl (lv_at hl 1 rfl) ?_
      refine lv_aload_n hx hb dX4_has_13 rfl (lv_at hl 0 rfl) ?_
      refine rs_ScanLog_numbers (b := z 13) F hK hP (hI.1.1 12 (by decide)) hI.2.1.2.2.2.2.2.2.1 kw_56 dX4_has_14 ?_
      refine rl_I (v := 516) F hK hP (hI.1.1 13 (by decide)) (congrArg Int32.ofNat (show pN S (z 13) = 516 from hI.2.2.1.2.2.2.2.2.1)) dX4_has_17 ?_
      refine lv_icmp_ge (tgt := 34) hx hb dX4_has_18 (by decide) (fun c4 => ?_) (fun c4 => ?_)
      · refine lv_iconst (v := 0) hx hb dX4_has_34 (by decide) ?_
        exact kEndI F hr rfl hlk hP hD hS (Nat.le_of_ble_eq_true rfl) (Nat.le_of_ble_eq_true rfl) dX4_has_35 ⟨_, rfl, ⟨rfl, Or.inl ⟨rfl, knoB (b := 516) (by omega) (by decide) rfl c4⟩⟩⟩
      · refine lv_iload_n hx hb dX4_has_21 rfl (lv_at hl 1 rfl) ?_
        refine lv_aload_n hx hb dX4_has_22 rfl (lv_at hl 0 rfl) ?_
        refine rs_ScanLog_signs (b := z 14) F hK hP (hI.1.1 12 (by decide)) hI.2.1.2.2.2.2.2.2.2 kw_58 dX4_has_23 ?_
        refine rl_C (v := 516) F hK hP (hI.1.1 14 (by decide)) (congrArg Int32.ofNat (show pN S (z 14) = 516 from hI.2.2.1.2.2.2.2.2.2)) dX4_has_26 ?_
        refine lv_icmp_ge (tgt := 34) hx hb dX4_has_27 (by decide) (fun c5 => ?_) (fun c5 => ?_)
        · refine lv_iconst (v := 0) hx hb dX4_has_34 (by decide) ?_
          exact kEndI F hr rfl hlk hP hD hS (Nat.le_of_ble_eq_true rfl) (Nat.le_of_ble_eq_true rfl) dX4_has_35 ⟨_, rfl, ⟨rfl, Or.inl ⟨rfl, knoB (b := 516) (by omega) (by decide) rfl c5⟩⟩⟩
        · refine lv_iconst (v := 1) hx hb dX4_has_30 (by decide) ?_
          refine lv_goto (tgt := 35) hx hb dX4_has_31 (by decide) ?_
          exact kEndI F hr rfl hlk hP hD hS (Nat.le_of_ble_eq_true rfl) (Nat.le_of_ble_eq_true rfl) dX4_has_35 ⟨_, rfl, ⟨rfl, Or.inr ⟨rfl, kixlt (N := q 42 0) ((ex2.trans (hR.2.2.2.2.2.2.2.1.1))) (by omega) c1 (Int32.not_le.mp c3)⟩⟩⟩
set_option maxHeartbeats 4000000 in
set_option maxRecDepth 100000 in
theorem c_X5_scanOrder_x (l : Launch) (hl0 : l.stackTraces = false) (g : kG) (e0 : Nat) (z : Nat → Nat) (S : wPS) (sz : Nat) (hI : Inv z e0 S) (av lv : Nat → Nat) (q : qS) (hR : Rq z av lv S q) (hroom : q 42 0 < 516) (n : Int32) : kM l g e0 yX5_scanOrder cX5_scanOrder 2 (some .int) 6 82 1 6 [.ref (z 0), .int n] S sz (pI (fun r T => T = S ∧ ∃ k, k < q 42 0 ∧ n = nI k ∧ r = nI (q 43 k))) (fun E => E = xI ∧ ∀ k, k < q 42 0 → n ≠ nI k) := by
  refine kM.of (by decide) (Nat.le_of_ble_eq_true rfl) ?_
  intro p e s m below meth c ls B hin
  obtain ⟨F, hr, hlk, hte, hP, hK, hD, hE, hS, hA, hl, hsz⟩ := B
  subst hsz
  have hx := F.1
  have hb := F.2.1
  have hl : lv_has ls 2 [(0, .ref (z 0)), (1, .int n)] := hl
  refine lv_aload_n hx hb dX5_scanOrder_0 rfl (lv_at hl 0 rfl) ?_
  refine rs_Pickwave_log (b := z 12) F hK hP (hI.1.1 0 (by decide)) hI.2.1.2.2.2.2.2.1 kw_28 dX5_scanOrder_1 ?_
  refine lv_iload_n hx hb dX5_scanOrder_4 rfl (lv_at hl 1 rfl) ?_
  refine kcallI (kV (n := 1) (As := [.int n]) (rest := []) (b := (z 12)) (C := RX4) F hE hK hP hD hS hA (c_X4_has_x l hl0 g e0 z S _ hI av lv q hR hroom n) (rr_ScanLog hK hP (hI.1.1 12 (by decide))) kw_533 kw_534 kw_535 kw_27 kw_536 (by decide +kernel) ⟨Nat.le_of_ble_eq_true rfl, Nat.le_of_ble_eq_true rfl⟩ rfl hl.1 rfl (Nat.le_of_ble_eq_true rfl) dX5_scanOrder_5 ⟨Nat.le_of_ble_eq_true rfl, Nat.le_of_ble_eq_true rfl⟩) rfl hD hS hA (fun _ _ _ _ _ h => False.elim h) (fun r1 T1 H locs hp hP hD hS => ?_)
  obtain ⟨hT, hp2⟩ := hp
  have hT := hT.symm
  subst hT
  refine lv_if_ne (tgt := 22) hx hb dX5_scanOrder_8 (by decide) (fun c3 => ?_) (fun c3 => ?_)
  · obtain ⟨j, hj, hn⟩ : ∃ k, k < q 42 0 ∧ n = nI k := hp2.elim (fun h => absurd h.1 c3) And.right
    refine lv_aload_n hx hb dX5_scanOrder_22 rfl (lv_at hl 0 rfl) ?_
    refine rs_Pickwave_log (b := z 12) F hK hP (hI.1.1 0 (by decide)) hI.2.1.2.2.2.2.2.1 kw_28 dX5_scanOrder_23 ?_
    refine rs_ScanLog_numbers (b := z 13) F hK hP (hI.1.1 12 (by decide)) hI.2.1.2.2.2.2.2.2.1 kw_532 dX5_scanOrder_26 ?_
    refine lv_iload_n hx hb dX5_scanOrder_29 rfl (lv_at hl 1 rfl) ?_
    refine rd_I F hK hP (hI.1.1 13 (by decide)) (by rw [hn, hI.2.2.1.2.2.2.2.2.1]; exact vp_in_nI (show j < 516 by omega) (by decide)) dX5_scanOrder_30 ?_
    refine lv_topi (fun x4 ex4 => ?_)
    exact kEndI F hr rfl hlk hP hD hS (Nat.le_of_ble_eq_true rfl) (Nat.le_of_ble_eq_true rfl) dX5_scanOrder_31 ⟨_, rfl, ⟨rfl, j, hj, hn, by rw [ex4, hn, nI_clamp (by omega)]; exact (hR.2.2.2.2.2.2.2.1.2 j hj).1⟩⟩
  · exact kth_IOOBEW hl0 F hE hlk hte hP hS hl.1 (List.mem_of_getElem? (i := 23) rfl) dX5_scanOrder_11 dX5_scanOrder_14 dX5_scanOrder_15 dX5_scanOrder_18 dX5_scanOrder_21 ⟨Nat.le_of_ble_eq_true rfl, Nat.le_of_ble_eq_true rfl, Nat.le_of_ble_eq_true rfl, Nat.le_of_ble_eq_true rfl⟩ (Nat.le_of_ble_eq_true rfl) (Nat.le_of_ble_eq_true rfl) (⟨rfl, (hp2.elim And.right fun h => absurd (h.1.symm.trans c3) (by decide))⟩)
set_option maxHeartbeats 4000000 in
set_option maxRecDepth 100000 in
theorem c_X5_scanSign_x (l : Launch) (hl0 : l.stackTraces = false) (g : kG) (e0 : Nat) (z : Nat → Nat) (S : wPS) (sz : Nat) (hI : Inv z e0 S) (av lv : Nat → Nat) (q : qS) (hR : Rq z av lv S q) (hroom : q 42 0 < 516) (n : Int32) : kM l g e0 yX5_scanSign cX5_scanSign 2 (some .char) 6 82 1 6 [.ref (z 0), .int n] S sz (pI (fun r T => T = S ∧ kCh r ∧ ∃ k, k < q 42 0 ∧ n = nI k ∧ r = nI (q 44 k))) (fun E => E = xI ∧ ∀ k, k < q 42 0 → n ≠ nI k) := by
  refine kM.of (by decide) (Nat.le_of_ble_eq_true rfl) ?_
  intro p e s m below meth c ls B hin
  obtain ⟨F, hr, hlk, hte, hP, hK, hD, hE, hS, hA, hl, hsz⟩ := B
  subst hsz
  have hx := F.1
  have hb := F.2.1
  have hl : lv_has ls 2 [(0, .ref (z 0)), (1, .int n)] := hl
  refine lv_aload_n hx hb dX5_scanSign_0 rfl (lv_at hl 0 rfl) ?_
  refine rs_Pickwave_log (b := z 12) F hK hP (hI.1.1 0 (by decide)) hI.2.1.2.2.2.2.2.1 kw_28 dX5_scanSign_1 ?_
  refine lv_iload_n hx hb dX5_scanSign_4 rfl (lv_at hl 1 rfl) ?_
  refine kcallI (kV (n := 1) (As := [.int n]) (rest := []) (b := (z 12)) (C := RX4) F hE hK hP hD hS hA (c_X4_has_x l hl0 g e0 z S _ hI av lv q hR hroom n) (rr_ScanLog hK hP (hI.1.1 12 (by decide))) kw_533 kw_534 kw_535 kw_27 kw_536 (by decide +kernel) ⟨Nat.le_of_ble_eq_true rfl, Nat.le_of_ble_eq_true rfl⟩ rfl hl.1 rfl (Nat.le_of_ble_eq_true rfl) dX5_scanSign_5 ⟨Nat.le_of_ble_eq_true rfl, Nat.le_of_ble_eq_true rfl⟩) rfl hD hS hA (fun _ _ _ _ _ h => False.elim h) (fun r1 T1 H locs hp hP hD hS => ?_)
  obtain ⟨hT, hp2⟩ := hp
  have hT := hT.symm
  subst hT
  refine lv_if_ne (tgt := 22) hx hb dX5_scanSign_8 (by decide) (fun c3 => ?_) (fun c3 => ?_)
  · obtain ⟨j, hj, hn⟩ : ∃ k, k < q 42 0 ∧ n = nI k := hp2.elim (fun h => absurd h.1 c3) And.right
    refine lv_aload_n hx hb dX5_scanSign_22 rfl (lv_at hl 0 rfl) ?_
    refine rs_Pickwave_log (b := z 12) F hK hP (hI.1.1 0 (by decide)) hI.2.1.2.2.2.2.2.1 kw_28 dX5_scanSign_23 ?_
    refine rs_ScanLog_signs (b := z 14) F hK hP (hI.1.1 12 (by decide)) hI.2.1.2.2.2.2.2.2.2 kw_544 dX5_scanSign_26 ?_
    refine lv_iload_n hx hb dX5_scanSign_29 rfl (lv_at hl 1 rfl) ?_
    refine rd_C F hK hP (hI.1.1 14 (by decide)) (by rw [hn, hI.2.2.1.2.2.2.2.2.2]; exact vp_in_nI (show j < 516 by omega) (by decide)) dX5_scanSign_30 ?_
    refine lv_topi (fun x4 ex4 => ?_)
    exact kEndI F hr (by rw [ex4]; exact (hI.sg _).1) hlk hP hD hS (Nat.le_of_ble_eq_true rfl) (Nat.le_of_ble_eq_true rfl) dX5_scanSign_31 ⟨_, rfl, ⟨rfl, (by rw [ex4]; exact hI.sg _), j, hj, hn, by rw [ex4, hn, nI_clamp (by omega)]; exact (hR.2.2.2.2.2.2.2.1.2 j hj).2⟩⟩
  · exact kth_IOOBEW hl0 F hE hlk hte hP hS hl.1 (List.mem_of_getElem? (i := 23) rfl) dX5_scanSign_11 dX5_scanSign_14 dX5_scanSign_15 dX5_scanSign_18 dX5_scanSign_21 ⟨Nat.le_of_ble_eq_true rfl, Nat.le_of_ble_eq_true rfl, Nat.le_of_ble_eq_true rfl, Nat.le_of_ble_eq_true rfl⟩ (Nat.le_of_ble_eq_true rfl) (Nat.le_of_ble_eq_true rfl) (⟨rfl, (hp2.elim And.right fun h => absurd (h.1.symm.trans c3) (by decide))⟩)
set_option maxHeartbeats 4000000 in
set_option maxRecDepth 100000 in
theorem c_X5_aisleOf_x (l : Launch) (hl0 : l.stackTraces = false) (g : kG) (e0 : Nat) (z : Nat → Nat) (S : wPS) (sz : Nat) (hI : Inv z e0 S) (av lv : Nat → Nat) (q : qS) (hR : Rq z av lv S q) (hV : q_V q) (n : Int32) : kM l g e0 yX5_aisleOf cX5_aisleOf 3 (some .int) 7 103 2 12 [.ref (z 0), .int n] S sz (pI (fun r T => T = S ∧ ∃ j, j < 2 ∧ n = nI j ∧ q 30 j ≠ 0 ∧ r = nI (q 0 (q 10 (q 30 j - 1))))) (fun E => (E = xI ∧ (n < 0 ∨ ¬ n < 2)) ∨ (E = xN ∧ ∃ j, j < 2 ∧ n = nI j ∧ q 30 j = 0)) := by
  refine kM.of (by decide) (Nat.le_of_ble_eq_true rfl) ?_
  intro p e s m below meth c ls B hin
  obtain ⟨F, hr, hlk, hte, hP, hK, hD, hE, hS, hA, hl, hsz⟩ := B
  subst hsz
  have hx := F.1
  have hb := F.2.1
  have hl : lv_has ls 3 [(0, .ref (z 0)), (1, .int n)] := hl
  refine lv_aload_n hx hb dX5_aisleOf_0 rfl (lv_at hl 0 rfl) ?_
  refine lv_iload_n hx hb dX5_aisleOf_1 rfl (lv_at hl 1 rfl) ?_
  refine kcallR (kV (n := 1) (As := [.int n]) (rest := []) (b := (z 0)) (C := RX5) F hE hK hP hD hS hA (c_X5_findRobot l hl0 g e0 z S _ hI n) (rr_Pickwave hK hP (hI.1.1 0 (by decide))) kw_244 kw_245 kw_246 kw_2 kw_247 (by decide +kernel) ⟨Nat.le_of_ble_eq_true rfl, Nat.le_of_ble_eq_true rfl⟩ rfl hl.1 rfl (Nat.le_of_ble_eq_true rfl) dX5_aisleOf_2 ⟨Nat.le_of_ble_eq_true rfl, Nat.le_of_ble_eq_true rfl⟩) rfl hD hS hA (fun E ce q9 H1 locs1 hex hP1 hS1 hce hcv hcl => kthru hte hlk (Or.inl hex) hP1 hS1 hce hcv hcl (Nat.le_of_ble_eq_true rfl) (Nat.le_of_ble_eq_true rfl)) (fun b1 T1 H locs hp hP hD hS => ?_)
  obtain ⟨hT, hp2⟩ := hp
  have hT := hT.symm
  subst hT
  obtain ⟨j3, hj3, hn3, rfl⟩ := hp2
  rcases (Nat.eq_zero_or_pos (q 30 j3)) with hz | hz
  · refine rz_Robot_article F hK hP (hI.or hj3) ((hR.2.2.2.2.2.1 j3 hj3).1.trans (if_pos hz)) kw_457 dX5_aisleOf_5 ?_
    refine lv_astore_nN (lv' := [(2, .null), (0, .ref (z 0)), (1, .int n)]) hx hb dX5_aisleOf_8 rfl hl (by decide) rfl (fun ls hl => ?_)
    refine lv_aload_nN hx hb dX5_aisleOf_9 rfl (lv_at hl 0 rfl) ?_
    refine lv_ifnonnullN hx hb dX5_aisleOf_10 ?_
    exact kth_NSEEW hl0 F hE hlk hte hP hS hl.1 (List.mem_of_getElem? (i := 20) rfl) dX5_aisleOf_13 dX5_aisleOf_16 dX5_aisleOf_17 dX5_aisleOf_20 dX5_aisleOf_23 ⟨Nat.le_of_ble_eq_true rfl, Nat.le_of_ble_eq_true rfl, Nat.le_of_ble_eq_true rfl, Nat.le_of_ble_eq_true rfl⟩ (Nat.le_of_ble_eq_true rfl) (Nat.le_of_ble_eq_true rfl) (Or.inr ⟨rfl, j3, hj3, hn3, hz⟩)
  · have ha30hz : q 30 j3 - 1 < q 72 0 := by have := hV.2.2.2.2.2.1 j3 hj3; omega
    refine rs_Robot_article (b := av (q 30 j3 - 1)) F hK hP (hI.or hj3) ((hR.2.2.2.2.2.1 j3 hj3).1.trans (if_neg (Nat.pos_iff_ne_zero.mp hz))) kw_457 dX5_aisleOf_5 ?_
    refine lv_astore_n (lv' := [(2, .ref (av (q 30 j3 - 1))), (0, .ref (z 0)), (1, .int n)]) hx hb dX5_aisleOf_8 rfl hl (by decide) rfl (fun ls hl => ?_)
    refine lv_aload_n hx hb dX5_aisleOf_9 rfl (lv_at hl 0 rfl) ?_
    refine lv_ifnonnull (tgt := 24) hx hb dX5_aisleOf_10 (by decide) ?_
    refine lv_aload_n hx hb dX5_aisleOf_24 rfl (lv_at hl 0 rfl) ?_
    refine rs_Article_aisle (b := z (2 + q 10 (q 30 j3 - 1))) F hK hP (hR.1 _ ha30hz).1 ((hR.1 (q 30 j3 - 1) ha30hz).2.2.1) kw_369 dX5_aisleOf_25 ?_
    refine rg_Aisle_number F hK hP (hI.oa (hR.1 (q 30 j3 - 1) ha30hz).2.2.2.1) kw_474 dX5_aisleOf_28 ?_
    refine lv_topi (fun x4 ex4 => ?_)
    exact kEndI F hr rfl hlk hP hD hS (Nat.le_of_ble_eq_true rfl) (Nat.le_of_ble_eq_true rfl) dX5_aisleOf_31 ⟨_, rfl, ⟨rfl, j3, hj3, hn3, Nat.pos_iff_ne_zero.mp hz, (ex4.trans (hR.2.2.2.2.1 (q 10 (q 30 j3 - 1)) (hR.1 (q 30 j3 - 1) ha30hz).2.2.2.1 0 (by decide)))⟩⟩
