theorem nI_subI {a b : Nat} (h : b ≤ a) : nI a - nI b = nI (a - b) := by
  rw [show nI a = nI (a - b) + nI b from by rw [nI_add, Nat.sub_add_cancel h]]
  exact Int32.add_sub_cancel _ _
theorem q_up_self {q : qS} {k i : Nat} : q_up q k i (q k i) = q := by
  funext k' i'
  unfold q_up
  split
  · next h => rw [h.1, h.2]
  · rfl
theorem q_up_up {q : qS} {k i v w : Nat} : q_up (q_up q k i v) k i w = q_up q k i w := by
  funext k' i'
  unfold q_up
  split
  · rfl
  · rfl
section RX
variable {z av lv : Nat → Nat} {S : wPS} {q : qS} {f i v : Nat} {x : Int32}
theorem Rq.artx (h : Rq z av lv S q) (hi : i < q 72 0) (hf : f ∈ [12, 13, 14]) (hx : x = nI v) : Rq z av lv (setF S f (av i) x) (q_up q f i v) := by rw [hx]; exact h.art hi hf
theorem Rq.linx (h : Rq z av lv S q) (hi : i < q 73 0) (hf : f ∈ [23, 24]) (hx : x = nI v) : Rq z av lv (setF S f (lv i) x) (q_up q f i v) := by rw [hx]; exact h.lin hi hf
theorem Rq.aisx (h : Rq z av lv S q) (hz : ∀ i j, i < 15 → j < 15 → z i = z j → i = j) (hi : i < 4) (hf : f ∈ [1, 2]) (hx : x = nI v) : Rq z av lv (setF S f (z (2 + i)) x) (q_up q f i v) := by rw [hx]; exact h.ais hz hi hf
theorem Rq.robx (h : Rq z av lv S q) (hz : ∀ i j, i < 15 → j < 15 → z i = z j → i = j) (hi : i < 2) (hf : f ∈ [31, 32]) (hx : x = nI v) : Rq z av lv (setF S f (z (8 + i)) x) (q_up q f i v) := by rw [hx]; exact h.rob hz hi hf
theorem Rq.numx (h : Rq z av lv S q) (hf : f ∈ [56, 57, 58]) (hx : x = nI v) : Rq z av lv (setF S f (z 0) x) (q_up q f 0 v) := by rw [hx]; exact h.num hf
end RX
def q_log (n s : Nat) (q : qS) : qS := q_up (q_up (q_up q 43 (q 42 0) n) 44 (q 42 0) s) 42 0 (q 42 0 + 1)
theorem q_scan_c1 {q : qS} {n s : Nat} (h1 : q 24 n ≠ 112) (h2 : q_st s ≠ 112) : q_scan n s q = q_log n s (q_up q 24 n (q_st s)) := by
  unfold q_scan
  rw [if_neg h1, if_neg h2, Nat.sub_zero, Nat.add_zero, q_up_self]; rfl
theorem q_scan_c2 {q : qS} {n s : Nat} (h1 : q 24 n = 112) (h2 : q_st s ≠ 112) : q_scan n s q = q_log n s (q_up (q_up q 14 (q 21 n) (q 14 (q 21 n) - q 23 n)) 24 n (q_st s)) := by
  unfold q_scan
  rw [if_pos h1, if_neg h2, Nat.add_zero]; rfl
theorem q_scan_c3 {q : qS} {n s : Nat} (h1 : q 24 n ≠ 112) (h2 : q_st s = 112) : q_scan n s q = q_log n s (q_up (q_up q 14 (q 21 n) (q 14 (q 21 n) + q 23 n)) 24 n (q_st s)) := by
  unfold q_scan
  rw [if_neg h1, if_pos h2, Nat.sub_zero]; rfl
/-- both rows, then the count, as the walk writes them -/
theorem Rq.logx {z av lv : Nat → Nat} {S : wPS} {q : qS} (h : Rq z av lv S q) (hz : ∀ i j, i < 15 → j < 15 → z i = z j → i = j) {n s c d : Nat} {x1 x2 x3 : Int32} (hc : c = q 42 0) (hd : d = q 42 0) (h1 : x1 = nI n) (h2 : x2 = nI s) (hk : kCh x2) (h3 : x3 = nI (q 42 0 + 1)) :
    Rq z av lv (setF (setX (setX S (z 13) (upd (pX S (z 13)) c x1)) (z 14) (upd (pX (setX S (z 13) (upd (pX S (z 13)) c x1)) (z 14)) d (vp_nar .char x2))) 42 (z 12) x3) (q_log n s q) := by
  rw [kch_nar hk, hd, ← hc]
  exact h.log hz hc h1 h2 (by rw [hc]; exact h3)
theorem k24 {q : qS} {n : Nat} (hW : q_W q) (hn : n < q 73 0) : q 24 n < 2 ^ 31 := by
  have := (hW.1.2.2.1 n hn).1
  omega
theorem k14 {q : qS} {n : Nat} (hW : q_W q) (hn : n < q 73 0) (hp : q 24 n = 112) : q 23 n ≤ q 14 (q 21 n) := by
  have hl := q_sum_le (q := q) (a := q 21 n) hn
  rw [hW.1.2.1 _ (hW.1.1.2.2.1 n hn).1]
  unfold q_term at hl
  rw [if_pos ⟨rfl, hp⟩] at hl
  exact hl
theorem nI_inj {a b : Nat} (ha : a < 2 ^ 31) (hb : b < 2 ^ 31) (h : nI a = nI b) : a = b := (nI_eq ha hb).mp h
set_option maxHeartbeats 4000000 in
set_option maxRecDepth 100000 in
theorem c_X4_write_x (l : Launch) (hl0 : l.stackTraces = false) (g : kG) (e0 : Nat) (z : Nat → Nat) (S : wPS) (sz : Nat) (hI : Inv z e0 S) (av lv : Nat → Nat) (q : qS) (hR : Rq z av lv S q) (n s : Nat) (nu sg : Int32) (hnu : nu = nI n) (hs : sg = nI s) (hsg : kCh sg) (hroom : q 42 0 < 516) : kM l g e0 yX4_write cX4_write 3 none 0 0 0 0 [.ref (z 12), .int nu, .int sg] S sz (pU (fun T => Kp z S T ∧ Rq z av lv T (q_log n s q))) (fun E => False) := by
  refine kM.of (by decide) (Nat.le_of_ble_eq_true rfl) ?_
  intro p e s m below meth c ls B hin
  obtain ⟨F, hr, hlk, hte, hP, hK, hD, hE, hS, hA, hl, hsz⟩ := B
  subst hsz
  have hx := F.1
  have hb := F.2.1
  have hl : lv_has ls 3 [(0, .ref (z 12)), (1, .int nu), (2, .int sg)] := hl
  have ct2 : pF S 42 (z 12) = nI (q 42 0) := (hR.2.2.2.2.2.2.2.1.1)
  obtain ⟨ct, hct⟩ : ∃ y, y = q 42 0 := ⟨_, rfl⟩
  rw [← hct] at ct2 hroom
  refine lv_aload_n hx hb dX4_write_0 rfl (lv_at hl 0 rfl) ?_
  refine rg_ScanLog_count F hK hP (hI.1.1 12 (by decide)) kw_333 dX4_write_1 ?_
  refine lv_topi (fun x1 ex1 => ?_)
  refine lv_aload_n hx hb dX4_write_4 rfl (lv_at hl 0 rfl) ?_
  refine rs_ScanLog_numbers (b := z 13) F hK hP (hI.1.1 12 (by decide)) hI.2.1.2.2.2.2.2.2.1 kw_56 dX4_write_5 ?_
  refine rl_I (v := 516) F hK hP (hI.1.1 13 (by decide)) (congrArg Int32.ofNat (show pN S (z 13) = 516 from hI.2.2.1.2.2.2.2.2.1)) dX4_write_8 ?_
  refine lv_icmp_ge (tgt := 54) hx hb dX4_write_9 (by decide) (fun c2 => ?_) (fun c2 => ?_)
  · exact absurd (by rw [ex1, ct2]; exact nI_lt hroom (by decide)) (Int32.not_lt.mpr c2)
  · refine lv_aload_n hx hb dX4_write_12 rfl (lv_at hl 0 rfl) ?_
    refine rg_ScanLog_count F hK hP (hI.1.1 12 (by decide)) kw_333 dX4_write_13 ?_
    refine lv_topi (fun x3 ex3 => ?_)
    refine lv_aload_n hx hb dX4_write_16 rfl (lv_at hl 0 rfl) ?_
    refine rs_ScanLog_signs (b := z 14) F hK hP (hI.1.1 12 (by decide)) hI.2.1.2.2.2.2.2.2.2 kw_58 dX4_write_17 ?_
    refine rl_C (v := 516) F hK hP (hI.1.1 14 (by decide)) (congrArg Int32.ofNat (show pN S (z 14) = 516 from hI.2.2.1.2.2.2.2.2.2)) dX4_write_20 ?_
    refine lv_icmp_ge (tgt := 54) hx hb dX4_write_21 (by decide) (fun c4 => ?_) (fun c4 => ?_)
    · exact absurd (by rw [ex3, ct2]; exact nI_lt hroom (by decide)) (Int32.not_lt.mpr c4)
    · refine lv_aload_n hx hb dX4_write_24 rfl (lv_at hl 0 rfl) ?_
      refine rs_ScanLog_numbers (b := z 13) F hK hP (hI.1.1 12 (by decide)) hI.2.1.2.2.2.2.2.2.1 kw_56 dX4_write_25 ?_
      refine lv_aload_n hx hb dX4_write_28 rfl (lv_at hl 0 rfl) ?_
      refine rg_ScanLog_count F hK hP (hI.1.1 12 (by decide)) kw_333 dX4_write_29 ?_
      refine lv_topi (fun x5 ex5 => ?_)
      refine lv_iload_n hx hb dX4_write_32 rfl (lv_at hl 1 rfl) ?_
      refine rt_I F hK hP hD hS (hI.1.1 13 (by decide)) (by rw [ex5]; show vp_in (pF S 42 (z 12)) (pN S (z 13)); rw [ct2, show pN S (z 13) = 516 from hI.2.2.1.2.2.2.2.2.1]; exact vp_in_nI hroom (by decide)) dX4_write_33 (fun H locs hP hD hS => ?_)
      refine lv_aload_n hx hb dX4_write_34 rfl (lv_at hl 0 rfl) ?_
      refine rs_ScanLog_signs (b := z 14) F hK hP (hI.1.1 12 (by decide)) hI.2.1.2.2.2.2.2.2.2 kw_58 dX4_write_35 ?_
      refine lv_aload_n hx hb dX4_write_38 rfl (lv_at hl 0 rfl) ?_
      refine rg_ScanLog_count F hK hP (hI.1.1 12 (by decide)) kw_333 dX4_write_39 ?_
      refine lv_topi (fun x6 ex6 => ?_)
      refine lv_iload_n hx hb dX4_write_42 rfl (lv_at hl 2 rfl) ?_
      refine rt_C F hK hP hD hS (hI.1.1 14 (by decide)) (by rw [ex6]; show vp_in (pF S 42 (z 12)) (pN S (z 14)); rw [ct2, show pN S (z 14) = 516 from hI.2.2.1.2.2.2.2.2.2]; exact vp_in_nI hroom (by decide)) dX4_write_43 (fun H locs hP hD hS => ?_)
      refine lv_aload_n hx hb dX4_write_44 rfl (lv_at hl 0 rfl) ?_
      refine lv_dup hx hb dX4_write_45 rfl ?_
      refine rg_ScanLog_count F hK hP (hI.1.1 12 (by decide)) kw_333 dX4_write_46 ?_
      refine lv_topi (fun x7 ex7 => ?_)
      refine lv_iconst (v := 1) hx hb dX4_write_49 (by decide) ?_
      refine lv_iadd hx hb dX4_write_50 ?_
      refine lv_topi (fun x8 ex8 => ?_)
      refine rp_ScanLog_count F hK hP hD hS (hI.1.1 12 (by decide)) kw_333 dX4_write_51 (fun H locs hP hD hS => ?_)
      exact kEndV F hr hlk hP hD hS (Nat.le_of_ble_eq_true rfl) (Nat.le_of_ble_eq_true rfl) dX4_write_54 ⟨rfl, ⟨kp_write hI hsg (c := ct + 1) hroom (by rw [ex8, ex7]; show pF S 42 (z 12) + 1 = _; rw [ct2]; exact nI_1 ct), hR.logx hI.1.2 (by rw [ex5]; show (pF S 42 (z 12)).toNatClampNeg = q 42 0; rw [ct2, nI_clamp (by omega), hct]) (by rw [ex6]; show (pF S 42 (z 12)).toNatClampNeg = q 42 0; rw [ct2, nI_clamp (by omega), hct]) hnu hs hsg (by rw [ex8, ex7]; show pF S 42 (z 12) + 1 = _; rw [ct2, hct]; exact nI_1 _)⟩⟩
set_option maxHeartbeats 4000000 in
set_option maxRecDepth 100000 in
theorem c_X5_stateAfter_x (l : Launch) (hl0 : l.stackTraces = false) (g : kG) (e0 : Nat) (S : wPS) (sz : Nat) (sg : Int32) (s : Nat) (hs : sg = nI s) (hs16 : s < 65536) (hsg : kCh sg) : kM l g e0 yX5_stateAfter cX5_stateAfter 1 (some .char) 0 0 0 0 [.int sg] S sz (pI (fun r T => T = S ∧ kCh r ∧ r = nI (q_st s))) (fun E => False) := by
  refine kM.of (by decide) (Nat.le_of_ble_eq_true rfl) ?_
  intro p e s m below meth c ls B hin
  obtain ⟨F, hr, hlk, hte, hP, hK, hD, hE, hS, hA, hl, hsz⟩ := B
  subst hsz
  have hx := F.1
  have hb := F.2.1
  have hl : lv_has ls 1 [(0, .int sg)] := hl
  refine lv_iload_n hx hb dX5_stateAfter_0 rfl (lv_at hl 0 rfl) ?_
  refine lv_bipush (v := 110) hx hb dX5_stateAfter_1 (by decide) ?_
  refine lv_icmp_eq (tgt := 12) hx hb dX5_stateAfter_3 (by decide) (fun c1 => ?_) (fun c1 => ?_)
  · refine lv_bipush (v := 111) hx hb dX5_stateAfter_12 (by decide) ?_
    refine lv_goto (tgt := 18) hx hb dX5_stateAfter_14 (by decide) ?_
    exact kEndI F hr rfl hlk hP hD hS (Nat.le_of_ble_eq_true rfl) (Nat.le_of_ble_eq_true rfl) dX5_stateAfter_18 ⟨_, rfl, ⟨rfl, ⟨rfl, rfl⟩, by unfold q_st; rw [if_pos (Or.inl (nI_inj (b := 110) (by omega) (by decide) (hs.symm.trans c1)))]; rfl⟩⟩
  · refine lv_iload_n hx hb dX5_stateAfter_6 rfl (lv_at hl 0 rfl) ?_
    refine lv_bipush (v := 117) hx hb dX5_stateAfter_7 (by decide) ?_
    refine lv_icmp_ne (tgt := 17) hx hb dX5_stateAfter_9 (by decide) (fun c2 => ?_) (fun c2 => ?_)
    · refine lv_iload_n hx hb dX5_stateAfter_17 rfl (lv_at hl 0 rfl) ?_
      exact kEndI F hr hsg.1 hlk hP hD hS (Nat.le_of_ble_eq_true rfl) (Nat.le_of_ble_eq_true rfl) dX5_stateAfter_18 ⟨_, rfl, ⟨rfl, hsg, by unfold q_st; rw [if_neg (fun h => h.elim (fun h => c1 (by rw [hs, h]; rfl)) (fun h => c2 (by rw [hs, h]; rfl)))]; exact hs⟩⟩
    · refine lv_bipush (v := 111) hx hb dX5_stateAfter_12 (by decide) ?_
      refine lv_goto (tgt := 18) hx hb dX5_stateAfter_14 (by decide) ?_
      exact kEndI F hr rfl hlk hP hD hS (Nat.le_of_ble_eq_true rfl) (Nat.le_of_ble_eq_true rfl) dX5_stateAfter_18 ⟨_, rfl, ⟨rfl, ⟨rfl, rfl⟩, by unfold q_st; rw [if_pos (Or.inr (nI_inj (b := 117) (by omega) (by decide) (hs.symm.trans c2)))]; rfl⟩⟩
set_option maxHeartbeats 4000000 in
set_option maxRecDepth 100000 in
theorem c_X5_scan_x (l : Launch) (hl0 : l.stackTraces = false) (g : kG) (e0 : Nat) (z : Nat → Nat) (S : wPS) (sz : Nat) (hI : Inv z e0 S) (av lv : Nat → Nat) (q : qS) (hR : Rq z av lv S q) (n sn : Nat) (hn : n < q 73 0) (sg : Int32) (hs : sg = nI sn) (hs16 : sn < 65536) (hsg : kCh sg) (hroom : q 42 0 < 516) (h24 : q 24 n < 65536) (hp : q 24 n = 112 → q 23 n ≤ q 14 (q 21 n) ∧ q_st sn ≠ 112) : kM l g e0 yX5_scan cX5_scan 4 none 1 22 0 0 [.ref (z 0), .ref (lv n), .int sg] S sz (pU (fun T => Kp z S T ∧ Rq z av lv T (q_scan n sn q))) (fun E => False) := by
  refine kM.of (by decide) (Nat.le_of_ble_eq_true rfl) ?_
  intro p e s m below meth c ls B hin
  obtain ⟨F, hr, hlk, hte, hP, hK, hD, hE, hS, hA, hl, hsz⟩ := B
  subst hsz
  have hx := F.1
  have hb := F.2.1
  have hl : lv_has ls 4 [(0, .ref (z 0)), (1, .ref (lv n)), (2, .int sg)] := hl
  refine lv_iload_n hx hb dX5_scan_0 rfl (lv_at hl 2 rfl) ?_
  refine kcallI (kSt (n := 1) (As := [.int sg]) (rest := []) F hE hK hP hD hS hA (c_X5_stateAfter_x l hl0 g e0 S _ sg sn hs hs16 hsg) kw_326 kw_327 kw_2 kw_328 (by decide +kernel) ⟨Nat.le_of_ble_eq_true rfl, Nat.le_of_ble_eq_true rfl⟩ rfl hl.1 rfl (Nat.le_of_ble_eq_true rfl) dX5_scan_1 ⟨Nat.le_of_ble_eq_true rfl, Nat.le_of_ble_eq_true rfl⟩) rfl hD hS hA (fun _ _ _ _ _ h => False.elim h) (fun r1 T1 H locs hp hP hD hS => ?_)
  obtain ⟨hT, hp2⟩ := hp
  have hT := hT.symm
  subst hT
  refine lv_istore_n (lv' := [(3, .int r1), (0, .ref (z 0)), (1, .ref (lv n)), (2, .int sg)]) hx hb dX5_scan_4 rfl hl (by decide) rfl (fun ls hl => ?_)
  refine lv_aload_n hx hb dX5_scan_5 rfl (lv_at hl 2 rfl) ?_
  refine rg_Line_state F hK hP (hR.2.1 n hn).1 kw_267 dX5_scan_6 ?_
  refine lv_topi (fun x3 ex3 => ?_)
  refine lv_bipush (v := 112) hx hb dX5_scan_9 (by decide) ?_
  refine lv_icmp_ne (tgt := 30) hx hb dX5_scan_11 (by decide) (fun c4 => ?_) (fun c4 => ?_)
  · refine lv_iload_n hx hb dX5_scan_30 rfl (lv_at hl 0 rfl) ?_
    refine lv_bipush (v := 112) hx hb dX5_scan_31 (by decide) ?_
    refine lv_icmp_ne (tgt := 52) hx hb dX5_scan_33 (by decide) (fun c5 => ?_) (fun c5 => ?_)
    · refine lv_aload_n hx hb dX5_scan_52 rfl (lv_at hl 2 rfl) ?_
      refine lv_iload_n hx hb dX5_scan_53 rfl (lv_at hl 0 rfl) ?_
      refine rp_Line_state F hK hP hD hS (hR.2.1 n hn).1 kw_267 hp2.1.1 hp2.1.2 dX5_scan_54 (fun H locs hP hD hS => ?_)
      have hR6 := Rq.linx (x := r1) (f := 24) (v := (q_st sn)) hR hn (by decide) hp2.2
      refine lv_aload_n hx hb dX5_scan_57 rfl (lv_at hl 1 rfl) ?_
      refine rs_Pickwave_log (b := z 12) F hK hP (hI.1.1 0 (by decide)) hI.2.1.2.2.2.2.2.1 kw_28 dX5_scan_58 ?_
      refine lv_aload_n hx hb dX5_scan_61 rfl (lv_at hl 2 rfl) ?_
      refine rg_Line_number F hK hP (hR.2.1 n hn).1 kw_310 dX5_scan_62 ?_
      refine lv_topi (fun x7 ex7 => ?_)
      refine lv_iload_n hx hb dX5_scan_65 rfl (lv_at hl 3 rfl) ?_
      refine kcallU (kV (n := 2) (As := [.int x7, .int sg]) (rest := []) (b := (z 12)) (C := RX4) F hE hK hP hD hS hA (c_X4_write_x l hl0 g e0 z (setF S 24 (lv n) r1) _ (hI.keep (kp_setSt hI.kp hp2.1).1) av lv (q_up q 24 n (q_st sn)) hR6 n sn x7 sg (ex7.trans (hR6.2.1 n hn).2.2.2.2.1) hs hsg hroom) (rr_ScanLog hK hP (hI.1.1 12 (by decide))) kw_329 kw_330 kw_331 kw_27 kw_332 (by decide +kernel) ⟨Nat.le_of_ble_eq_true rfl, Nat.le_of_ble_eq_true rfl⟩ rfl hl.1 rfl (Nat.le_of_ble_eq_true rfl) dX5_scan_66 ⟨Nat.le_of_ble_eq_true rfl, Nat.le_of_ble_eq_true rfl⟩) rfl hD hS hA (fun _ _ _ _ _ h => False.elim h) (fun T8 H locs hp hP hD hS => ?_)
      obtain ⟨hk9, hr9⟩ := hp
      have N9 : Kp z (setF S 24 (lv n) r1) T8 := hk9
      have K9 : Kp z S T8 := Kp.trans (kp_setSt hI.kp hp2.1) N9
      have I9 : Inv z e0 T8 := hI.keep K9.1
      have o10 : Ob T8 2 (lv n) := N9.1.ob (hR.2.1 n hn).1
      exact kEndV F hr hlk hP hD hS (Nat.le_of_ble_eq_true rfl) (Nat.le_of_ble_eq_true rfl) dX5_scan_69 ⟨rfl, ⟨K9, by rw [q_scan_c1 (fun h9 => c4 ((ex3.trans ((hR.2.1 n hn).2.2.2.2.2.2 24 (by decide))).trans (by rw [h9]; rfl))) (fun h9 => c5 (hp2.2.trans (by rw [h9]; rfl)))]; exact hr9⟩⟩
    · refine lv_aload_n hx hb dX5_scan_36 rfl (lv_at hl 2 rfl) ?_
      refine rs_Line_article (b := av (q 21 n)) F hK hP (hR.2.1 n hn).1 ((hR.2.1 n hn).2.2.1) kw_325 dX5_scan_37 ?_
      refine lv_dup hx hb dX5_scan_40 rfl ?_
      refine rg_Article_promisedUnits F hK hP (hR.1 _ (hR.2.1 n hn).2.2.2.1).1 kw_235 dX5_scan_41 ?_
      refine lv_topi (fun x11 ex11 => ?_)
      refine lv_aload_n hx hb dX5_scan_44 rfl (lv_at hl 2 rfl) ?_
      refine rg_Line_amount F hK hP (hR.2.1 n hn).1 kw_280 dX5_scan_45 ?_
      refine lv_topi (fun x12 ex12 => ?_)
      refine lv_iadd hx hb dX5_scan_48 ?_
      refine lv_topi (fun x13 ex13 => ?_)
      refine rp_Article_promisedUnits F hK hP hD hS (hR.1 _ (hR.2.1 n hn).2.2.2.1).1 kw_235 dX5_scan_49 (fun H locs hP hD hS => ?_)
      have hR14 := Rq.artx (x := x13) (f := 14) (v := ((q 14 (q 21 n)) + (q 23 n))) hR (hR.2.1 n hn).2.2.2.1 (by decide) (by rw [ex13, (show (x11 : Int32) = nI (q 14 (q 21 n)) from (ex11.trans ((hR.1 (q 21 n) (hR.2.1 n hn).2.2.2.1).2.2.2.2 14 (by decide)))), (show (x12 : Int32) = nI (q 23 n) from (ex12.trans ((hR.2.1 n hn).2.2.2.2.2.2 23 (by decide))))]; exact nI_add _ _)
      refine lv_aload_n hx hb dX5_scan_52 rfl (lv_at hl 2 rfl) ?_
      refine lv_iload_n hx hb dX5_scan_53 rfl (lv_at hl 0 rfl) ?_
      refine rp_Line_state F hK hP hD hS (hR.2.1 n hn).1 kw_267 hp2.1.1 hp2.1.2 dX5_scan_54 (fun H locs hP hD hS => ?_)
      have hR15 := Rq.linx (x := r1) (f := 24) (v := (q_st sn)) hR14 hn (by decide) hp2.2
      refine lv_aload_n hx hb dX5_scan_57 rfl (lv_at hl 1 rfl) ?_
      refine rs_Pickwave_log (b := z 12) F hK hP (hI.1.1 0 (by decide)) hI.2.1.2.2.2.2.2.1 kw_28 dX5_scan_58 ?_
      refine lv_aload_n hx hb dX5_scan_61 rfl (lv_at hl 2 rfl) ?_
      refine rg_Line_number F hK hP (hR.2.1 n hn).1 kw_310 dX5_scan_62 ?_
      refine lv_topi (fun x16 ex16 => ?_)
      refine lv_iload_n hx hb dX5_scan_65 rfl (lv_at hl 3 rfl) ?_
      refine kcallU (kV (n := 2) (As := [.int x16, .int sg]) (rest := []) (b := (z 12)) (C := RX4) F hE hK hP hD hS hA (c_X4_write_x l hl0 g e0 z (setF (setF S 14 (av (q 21 n)) x13) 24 (lv n) r1) _ (hI.keep (kp_setSt (kp_setF hI.kp (by decide) (by decide)) hp2.1).1) av lv (q_up (q_up q 14 (q 21 n) ((q 14 (q 21 n)) + (q 23 n))) 24 n (q_st sn)) hR15 n sn x16 sg (ex16.trans (hR15.2.1 n hn).2.2.2.2.1) hs hsg hroom) (rr_ScanLog hK hP (hI.1.1 12 (by decide))) kw_329 kw_330 kw_331 kw_27 kw_332 (by decide +kernel) ⟨Nat.le_of_ble_eq_true rfl, Nat.le_of_ble_eq_true rfl⟩ rfl hl.1 rfl (Nat.le_of_ble_eq_true rfl) dX5_scan_66 ⟨Nat.le_of_ble_eq_true rfl, Nat.le_of_ble_eq_true rfl⟩) rfl hD hS hA (fun _ _ _ _ _ h => False.elim h) (fun T17 H locs hp hP hD hS => ?_)
      obtain ⟨hk18, hr18⟩ := hp
      have N18 : Kp z (setF (setF S 14 (av (q 21 n)) x13) 24 (lv n) r1) T17 := hk18
      have K18 : Kp z S T17 := Kp.trans (kp_setSt (kp_setF hI.kp (by decide) (by decide)) hp2.1) N18
      have I18 : Inv z e0 T17 := hI.keep K18.1
      have o19 : Ob T17 2 (lv n) := N18.1.ob (hR.2.1 n hn).1
      have o20 : Ob T17 1 (av (q 21 n)) := N18.1.ob (hR.1 _ (hR.2.1 n hn).2.2.2.1).1
      exact kEndV F hr hlk hP hD hS (Nat.le_of_ble_eq_true rfl) (Nat.le_of_ble_eq_true rfl) dX5_scan_69 ⟨rfl, ⟨K18, by rw [q_scan_c3 (fun h9 => c4 ((ex3.trans ((hR.2.1 n hn).2.2.2.2.2.2 24 (by decide))).trans (by rw [h9]; rfl))) (nI_inj (b := 112) (by unfold q_st; split <;> omega) (by decide) (hp2.2.symm.trans c5))]; exact hr18⟩⟩
  · have hp1 := hp (nI_inj (b := 112) (by omega) (by decide) ((ex3.trans ((hR.2.1 n hn).2.2.2.2.2.2 24 (by decide))).symm.trans c4))
    refine lv_aload_n hx hb dX5_scan_14 rfl (lv_at hl 2 rfl) ?_
    refine rs_Line_article (b := av (q 21 n)) F hK hP (hR.2.1 n hn).1 ((hR.2.1 n hn).2.2.1) kw_325 dX5_scan_15 ?_
    refine lv_dup hx hb dX5_scan_18 rfl ?_
    refine rg_Article_promisedUnits F hK hP (hR.1 _ (hR.2.1 n hn).2.2.2.1).1 kw_235 dX5_scan_19 ?_
    refine lv_topi (fun x21 ex21 => ?_)
    refine lv_aload_n hx hb dX5_scan_22 rfl (lv_at hl 2 rfl) ?_
    refine rg_Line_amount F hK hP (hR.2.1 n hn).1 kw_280 dX5_scan_23 ?_
    refine lv_topi (fun x22 ex22 => ?_)
    refine lv_isub hx hb dX5_scan_26 ?_
    refine lv_topi (fun x23 ex23 => ?_)
    refine rp_Article_promisedUnits F hK hP hD hS (hR.1 _ (hR.2.1 n hn).2.2.2.1).1 kw_235 dX5_scan_27 (fun H locs hP hD hS => ?_)
    have hR24 := Rq.artx (x := x23) (f := 14) (v := ((q 14 (q 21 n)) - (q 23 n))) hR (hR.2.1 n hn).2.2.2.1 (by decide) (by rw [ex23, (show (x21 : Int32) = nI (q 14 (q 21 n)) from (ex21.trans ((hR.1 (q 21 n) (hR.2.1 n hn).2.2.2.1).2.2.2.2 14 (by decide)))), (show (x22 : Int32) = nI (q 23 n) from (ex22.trans ((hR.2.1 n hn).2.2.2.2.2.2 23 (by decide))))]; exact nI_subI hp1.1)
    refine lv_iload_n hx hb dX5_scan_30 rfl (lv_at hl 0 rfl) ?_
    refine lv_bipush (v := 112) hx hb dX5_scan_31 (by decide) ?_
    refine lv_icmp_ne (tgt := 52) hx hb dX5_scan_33 (by decide) (fun c25 => ?_) (fun c25 => ?_)
    · refine lv_aload_n hx hb dX5_scan_52 rfl (lv_at hl 2 rfl) ?_
      refine lv_iload_n hx hb dX5_scan_53 rfl (lv_at hl 0 rfl) ?_
      refine rp_Line_state F hK hP hD hS (hR.2.1 n hn).1 kw_267 hp2.1.1 hp2.1.2 dX5_scan_54 (fun H locs hP hD hS => ?_)
      have hR26 := Rq.linx (x := r1) (f := 24) (v := (q_st sn)) hR24 hn (by decide) hp2.2
      refine lv_aload_n hx hb dX5_scan_57 rfl (lv_at hl 1 rfl) ?_
      refine rs_Pickwave_log (b := z 12) F hK hP (hI.1.1 0 (by decide)) hI.2.1.2.2.2.2.2.1 kw_28 dX5_scan_58 ?_
      refine lv_aload_n hx hb dX5_scan_61 rfl (lv_at hl 2 rfl) ?_
      refine rg_Line_number F hK hP (hR.2.1 n hn).1 kw_310 dX5_scan_62 ?_
      refine lv_topi (fun x27 ex27 => ?_)
      refine lv_iload_n hx hb dX5_scan_65 rfl (lv_at hl 3 rfl) ?_
      refine kcallU (kV (n := 2) (As := [.int x27, .int sg]) (rest := []) (b := (z 12)) (C := RX4) F hE hK hP hD hS hA (c_X4_write_x l hl0 g e0 z (setF (setF S 14 (av (q 21 n)) x23) 24 (lv n) r1) _ (hI.keep (kp_setSt (kp_setF hI.kp (by decide) (by decide)) hp2.1).1) av lv (q_up (q_up q 14 (q 21 n) ((q 14 (q 21 n)) - (q 23 n))) 24 n (q_st sn)) hR26 n sn x27 sg (ex27.trans (hR26.2.1 n hn).2.2.2.2.1) hs hsg hroom) (rr_ScanLog hK hP (hI.1.1 12 (by decide))) kw_329 kw_330 kw_331 kw_27 kw_332 (by decide +kernel) ⟨Nat.le_of_ble_eq_true rfl, Nat.le_of_ble_eq_true rfl⟩ rfl hl.1 rfl (Nat.le_of_ble_eq_true rfl) dX5_scan_66 ⟨Nat.le_of_ble_eq_true rfl, Nat.le_of_ble_eq_true rfl⟩) rfl hD hS hA (fun _ _ _ _ _ h => False.elim h) (fun T28 H locs hp hP hD hS => ?_)
      obtain ⟨hk29, hr29⟩ := hp
      have N29 : Kp z (setF (setF S 14 (av (q 21 n)) x23) 24 (lv n) r1) T28 := hk29
      have K29 : Kp z S T28 := Kp.trans (kp_setSt (kp_setF hI.kp (by decide) (by decide)) hp2.1) N29
      have I29 : Inv z e0 T28 := hI.keep K29.1
      have o30 : Ob T28 2 (lv n) := N29.1.ob (hR.2.1 n hn).1
      have o31 : Ob T28 1 (av (q 21 n)) := N29.1.ob (hR.1 _ (hR.2.1 n hn).2.2.2.1).1
      exact kEndV F hr hlk hP hD hS (Nat.le_of_ble_eq_true rfl) (Nat.le_of_ble_eq_true rfl) dX5_scan_69 ⟨rfl, ⟨K29, by rw [q_scan_c2 (nI_inj (b := 112) (by omega) (by decide) ((ex3.trans ((hR.2.1 n hn).2.2.2.2.2.2 24 (by decide))).symm.trans c4)) (fun h9 => c25 (hp2.2.trans (by rw [h9]; rfl)))]; exact hr29⟩⟩
    · exact absurd (nI_inj (b := 112) (by unfold q_st; split <;> omega) (by decide) (hp2.2.symm.trans c25)) hp1.2
