theorem q_put_o {a u k i : Nat} {q : qS} (h2 : k ≠ 12) (h3 : k ≠ 13) : q_put a u q k i = q k i := (q_k h3).trans (q_k h2)
theorem q_pm_o {r k i : Nat} {q : qS} (h : k ∉ [12, 13, 30, 31, 32]) : q_pm r q k i = q k i := by
  have m : ∀ j, j ∈ [12, 13, 30, 31, 32] → k ≠ j := fun j hj e => h (by rw [e]; exact hj)
  unfold q_pm
  split
  · rfl
  · split
    · exact q_k (m 32 (by decide))
    · rw [q_put_o (m 12 (by decide)) (m 13 (by decide)), q_k (m 31 (by decide)), q_k (m 30 (by decide)), q_k (m 32 (by decide))]
theorem q_pm_32 {r i : Nat} {q : qS} : q_pm r q 32 i ≤ q 32 i := by
  unfold q_pm
  split
  · exact Nat.le_refl _
  · split
    · by_cases c : i = r
      · subst c; rw [q_at]; omega
      · rw [q_i c]; exact Nat.le_refl _
    · rw [q_put_o (by decide) (by decide), q_k (k' := 32) (by decide), q_k (k' := 32) (by decide)]
      by_cases c : i = r
      · subst c; rw [q_at]; omega
      · rw [q_i c]; exact Nat.le_refl _
theorem q_pass_o {m k i : Nat} {q : qS} (h : k ∉ [56, 12, 13, 30, 31, 32]) : q_pass m q k i = q k i := by
  have h1 : k ∉ [12, 13, 30, 31, 32] := fun e => h (List.mem_cons_of_mem _ e)
  have h2 : k ≠ 56 := fun e => h (by rw [e]; exact List.mem_cons_self)
  induction m with
  | zero => rfl
  | succ m ih => exact (q_pm_o h1).trans ((q_pm_o h1).trans ((q_k h2).trans ih))
theorem q_pass_56 {m : Nat} {q : qS} : q_pass m q 56 0 = q 56 0 + m := by
  induction m with
  | zero => rfl
  | succ m ih =>
    have h : q_pass (m + 1) q 56 0 = q_pass m q 56 0 + 1 := (q_pm_o (by decide)).trans ((q_pm_o (by decide)).trans q_at)
    omega
theorem q_pass_32 {m i : Nat} {q : qS} : q_pass m q 32 i ≤ q 32 i := by
  induction m with
  | zero => exact Nat.le_refl _
  | succ m ih => exact Nat.le_trans q_pm_32 (Nat.le_trans q_pm_32 (Nat.le_trans (Nat.le_of_eq (q_k (by decide))) ih))
theorem q_blk_0 {j v : Nat} {q : qS} (h : v = 0) : q_blk j v q = q_up q 1 j v := by subst h; exact if_pos rfl
theorem q_blk_1 {j v : Nat} {q : qS} (h : v ≠ 0) : q_blk j v q = q_re (q_PA j) (q 73 0) (q_up q 1 j v) := if_neg h
set_option maxHeartbeats 4000000 in
set_option maxRecDepth 100000 in
theorem c_X5_setBlocked_x (l : Launch) (hl0 : l.stackTraces = false) (g : kG) (e0 : Nat) (z : Nat → Nat) (S : wPS) (sz : Nat) (hI : Inv z e0 S) (av lv : Nat → Nat) (q : qS) (hR : Rq z av lv S q) (hW : q_W q) (vn : Nat) (n v : Int32) (hv : v = nI vn) (hvn : vn < 2 ^ 31) (hvb : kBo v) : kM l g e0 yX5_setBlocked cX5_setBlocked 5 (some .boolean) 7 103 1 6 [.ref (z 0), .int n, .int v] S sz (pI (fun r T => Inv z e0 T ∧ ∃ j, j < 4 ∧ n = nI j ∧ r = nI (q 1 j) ∧ Rq z av lv T (q_blk j vn q))) (fun E => E = xI ∧ (n < 0 ∨ 4 ≤ n)) := by
  refine kM.of (by decide) (Nat.le_of_ble_eq_true rfl) ?_
  intro p e s m below meth c ls B hin
  obtain ⟨F, hr, hlk, hte, hP, hK, hD, hE, hS, hA, hl, hsz⟩ := B
  subst hsz
  have hx := F.1
  have hb := F.2.1
  have hl : lv_has ls 5 [(0, .ref (z 0)), (1, .int n), (2, .int v)] := hl
  refine lv_aload_n hx hb dX5_setBlocked_0 rfl (lv_at hl 0 rfl) ?_
  refine lv_iload_n hx hb dX5_setBlocked_1 rfl (lv_at hl 1 rfl) ?_
  refine kcallR (kV (n := 1) (As := [.int n]) (rest := []) (b := (z 0)) (C := RX5) F hE hK hP hD hS hA (c_X5_findAisle l hl0 g e0 z S _ hI n) (rr_Pickwave hK hP (hI.1.1 0 (by decide))) kw_361 kw_362 kw_363 kw_2 kw_364 (by decide +kernel) ⟨Nat.le_of_ble_eq_true rfl, Nat.le_of_ble_eq_true rfl⟩ rfl hl.1 rfl (Nat.le_of_ble_eq_true rfl) dX5_setBlocked_2 ⟨Nat.le_of_ble_eq_true rfl, Nat.le_of_ble_eq_true rfl⟩) rfl hD hS hA (fun E ce q9 H1 locs1 hex hP1 hS1 hce hcv hcl => kthru hte hlk (hex) hP1 hS1 hce hcv hcl (Nat.le_of_ble_eq_true rfl) (Nat.le_of_ble_eq_true rfl)) (fun b1 T1 H locs hp hP hD hS => ?_)
  obtain ⟨hT, hp2⟩ := hp
  have hT := hT.symm
  subst hT
  obtain ⟨j3, hj3, hn3, rfl⟩ := hp2
  refine lv_astore_n (lv' := [(3, .ref (z (2 + j3))), (0, .ref (z 0)), (1, .int n), (2, .int v)]) hx hb dX5_setBlocked_5 rfl hl (by decide) rfl (fun ls hl => ?_)
  refine lv_aload_n hx hb dX5_setBlocked_6 rfl (lv_at hl 0 rfl) ?_
  refine rg_Aisle_blocked F hK hP (hI.oa hj3) kw_360 dX5_setBlocked_7 ?_
  refine lv_topi (fun x4 ex4 => ?_)
  refine lv_istore (lv' := [(4, .int x4), (3, .ref (z (2 + j3))), (0, .ref (z 0)), (1, .int n), (2, .int v)]) hx hb dX5_setBlocked_10 hl (by decide) rfl (fun ls hl => ?_)
  refine lv_aload_n hx hb dX5_setBlocked_12 rfl (lv_at hl 1 rfl) ?_
  refine lv_iload_n hx hb dX5_setBlocked_13 rfl (lv_at hl 4 rfl) ?_
  refine rp_Aisle_blocked F hK hP hD hS (hI.oa hj3) kw_360 (kbo_nar hvb) (kbo_fit hvb) dX5_setBlocked_14 (fun H locs hP hD hS => ?_)
  have hI2 : Inv z e0 (setF S 1 (z (2 + j3)) v) := hI.setBl hvb
  have hR5 := Rq.aisx (x := v) (f := 1) (v := vn) hR hI.1.2 hj3 (by decide) hv
  refine lv_iload_n hx hb dX5_setBlocked_17 rfl (lv_at hl 4 rfl) ?_
  refine lv_if_eq (tgt := 26) hx hb dX5_setBlocked_18 (by decide) (fun c6 => ?_) (fun c6 => ?_)
  · refine lv_iload hx hb dX5_setBlocked_26 (lv_at hl 0 rfl) ?_
    exact kEndI F hr (by rw [ex4]; exact kbo_nar (hI.bo hj3)) hlk hP hD hS (Nat.le_of_ble_eq_true rfl) (Nat.le_of_ble_eq_true rfl) dX5_setBlocked_28 ⟨_, rfl, ⟨hI2, j3, hj3, hn3, (ex4.trans (hR.2.2.2.2.1 j3 hj3 1 (by decide))), by rw [q_blk_0 (nI_inj (b := 0) hvn (by decide) (hv.symm.trans c6))]; exact hR5⟩⟩
  · refine lv_aload_n hx hb dX5_setBlocked_21 rfl (lv_at hl 2 rfl) ?_
    refine lv_aload_n hx hb dX5_setBlocked_22 rfl (lv_at hl 1 rfl) ?_
    refine kcallU (kV (n := 1) (As := [.ref (z (2 + j3))]) (rest := []) (b := (z 0)) (C := RX5) F hE hK hP hD hS hA (c_X5_reopenInAisle_x l hl0 g e0 z (setF S 1 (z (2 + j3)) v) _ hI2 av lv (q_up q 1 j3 vn) hR5 (q_up_V hW.1 (by decide) (by decide)) j3 hj3) (rr_Pickwave hK hP (hI2.1.1 0 (by decide))) kw_365 kw_366 kw_367 kw_2 kw_368 (by decide +kernel) ⟨Nat.le_of_ble_eq_true rfl, Nat.le_of_ble_eq_true rfl⟩ rfl hl.1 rfl (Nat.le_of_ble_eq_true rfl) dX5_setBlocked_23 ⟨Nat.le_of_ble_eq_true rfl, Nat.le_of_ble_eq_true rfl⟩) rfl hD hS hA (fun _ _ _ _ _ h => False.elim h) (fun T7 H locs hp hP hD hS => ?_)
    obtain ⟨hk8, hr8⟩ := hp
    have N8 : Kp z (setF S 1 (z (2 + j3)) v) T7 := hk8
    have K8 : Kp z (setF S 1 (z (2 + j3)) v) T7 := Kp.trans hI2.kp N8
    have I8 : Inv z e0 T7 := hI2.keep K8.1
    have o9 : Ob T7 0 (z (2 + j3)) := N8.1.ob (hI.oa hj3)
    refine lv_iload hx hb dX5_setBlocked_26 (lv_at hl 0 rfl) ?_
    exact kEndI F hr (by rw [ex4]; exact kbo_nar (hI.bo hj3)) hlk hP hD hS (Nat.le_of_ble_eq_true rfl) (Nat.le_of_ble_eq_true rfl) dX5_setBlocked_28 ⟨_, rfl, ⟨hI2.keep K8.1, j3, hj3, hn3, (ex4.trans (hR.2.2.2.2.1 j3 hj3 1 (by decide))), by rw [q_blk_1 (fun h => c6 (hv.trans (by rw [h]; rfl)))]; exact hr8⟩⟩
set_option maxHeartbeats 4000000 in
set_option maxRecDepth 100000 in
theorem c_X5_giveBack_x (l : Launch) (hl0 : l.stackTraces = false) (g : kG) (e0 : Nat) (z : Nat → Nat) (S : wPS) (sz : Nat) (hI : Inv z e0 S) (av lv : Nat → Nat) (q : qS) (hR : Rq z av lv S q) (h12 : q 72 0 ≤ 12) (h3 : q_W3 q) (gn bn : Nat) (n go ba : Int32) (hgo : go = nI gn) (hba : ba = nI bn) (hgn : gn < 2 ^ 31) : kM l g e0 yX5_giveBack cX5_giveBack 6 (some .int) 7 103 2 12 [.ref (z 0), .int n, .int go, .int ba] S sz (pI (fun r T => Kp z S T ∧ ∃ a, a < q 72 0 ∧ n = nI a ∧ r = nI (min gn (q 11 a - q 12 a)) ∧ Rq z av lv T (q_put a gn (q_up q 58 0 (q 58 0 + bn))))) (fun E => E = xI ∨ E = xA ∨ E = xS) := by
  refine kM.of (by decide) (Nat.le_of_ble_eq_true rfl) ?_
  intro p e s m below meth c ls B hin
  obtain ⟨F, hr, hlk, hte, hP, hK, hD, hE, hS, hA, hl, hsz⟩ := B
  subst hsz
  have hx := F.1
  have hb := F.2.1
  have hl : lv_has ls 6 [(0, .ref (z 0)), (1, .int n), (2, .int go), (3, .int ba)] := hl
  refine lv_aload_n hx hb dX5_giveBack_0 rfl (lv_at hl 0 rfl) ?_
  refine lv_iload_n hx hb dX5_giveBack_1 rfl (lv_at hl 1 rfl) ?_
  refine kcallR (kV (n := 1) (As := [.int n]) (rest := []) (b := (z 0)) (C := RX5) F hE hK hP hD hS hA (c_X5_findArticle_x l hl0 g e0 z S _ hI av lv q hR h12 n) (rr_Pickwave hK hP (hI.1.1 0 (by decide))) kw_197 kw_198 kw_199 kw_2 kw_200 (by decide +kernel) ⟨Nat.le_of_ble_eq_true rfl, Nat.le_of_ble_eq_true rfl⟩ rfl hl.1 rfl (Nat.le_of_ble_eq_true rfl) dX5_giveBack_2 ⟨Nat.le_of_ble_eq_true rfl, Nat.le_of_ble_eq_true rfl⟩) rfl hD hS hA (fun E ce q9 H1 locs1 hex hP1 hS1 hce hcv hcl => kthru hte hlk (Or.inl hex.1) hP1 hS1 hce hcv hcl (Nat.le_of_ble_eq_true rfl) (Nat.le_of_ble_eq_true rfl)) (fun b1 T1 H locs hp hP hD hS => ?_)
  obtain ⟨hT, hp2⟩ := hp
  have hT := hT.symm
  subst hT
  obtain ⟨i3, hi3, hn3, rfl⟩ := hp2
  refine lv_astore (lv' := [(4, .ref (av i3)), (0, .ref (z 0)), (1, .int n), (2, .int go), (3, .int ba)]) hx hb dX5_giveBack_5 hl (by decide) rfl (fun ls hl => ?_)
  refine lv_iload_n hx hb dX5_giveBack_7 rfl (lv_at hl 3 rfl) ?_
  refine lv_iconst (v := 0) hx hb dX5_giveBack_8 (by decide) ?_
  refine lv_bipush (v := 20) hx hb dX5_giveBack_9 (by decide) ?_
  refine kcallI (kSt (n := 3) (As := [.int go, .int 0, .int 20]) (rest := []) F hE hK hP hD hS hA (c_X5_isBetween l hl0 g e0 S _ go 0 20) kw_87 kw_88 kw_2 kw_89 (by decide +kernel) ⟨Nat.le_of_ble_eq_true rfl, Nat.le_of_ble_eq_true rfl⟩ rfl hl.1 rfl (Nat.le_of_ble_eq_true rfl) dX5_giveBack_11 ⟨Nat.le_of_ble_eq_true rfl, Nat.le_of_ble_eq_true rfl⟩) rfl hD hS hA (fun _ _ _ _ _ h => False.elim h) (fun r4 T4 H locs hp hP hD hS => ?_)
  obtain ⟨hT, hp5⟩ := hp
  have hT := hT.symm
  subst hT
  refine lv_if_eq (tgt := 27) hx hb dX5_giveBack_14 (by decide) (fun c6 => ?_) (fun c6 => ?_)
  · exact kth_IAE hl0 F hE hlk hte hP hS hl.1 (List.mem_of_getElem? (i := 5) rfl) dX5_giveBack_27 dX5_giveBack_30 dX5_giveBack_31 dX5_giveBack_33 dX5_giveBack_36 ⟨Nat.le_of_ble_eq_true rfl, Nat.le_of_ble_eq_true rfl, Nat.le_of_ble_eq_true rfl, Nat.le_of_ble_eq_true rfl⟩ (Nat.le_of_ble_eq_true rfl) (Nat.le_of_ble_eq_true rfl) (Or.inr (Or.inl rfl))
  · refine lv_iload_n hx hb dX5_giveBack_17 rfl (lv_at hl 4 rfl) ?_
    refine lv_iconst (v := 0) hx hb dX5_giveBack_18 (by decide) ?_
    refine lv_bipush (v := 20) hx hb dX5_giveBack_19 (by decide) ?_
    refine kcallI (kSt (n := 3) (As := [.int ba, .int 0, .int 20]) (rest := []) F hE hK hP hD hS hA (c_X5_isBetween l hl0 g e0 S _ ba 0 20) kw_87 kw_88 kw_2 kw_89 (by decide +kernel) ⟨Nat.le_of_ble_eq_true rfl, Nat.le_of_ble_eq_true rfl⟩ rfl hl.1 rfl (Nat.le_of_ble_eq_true rfl) dX5_giveBack_21 ⟨Nat.le_of_ble_eq_true rfl, Nat.le_of_ble_eq_true rfl⟩) rfl hD hS hA (fun _ _ _ _ _ h => False.elim h) (fun r7 T7 H locs hp hP hD hS => ?_)
    obtain ⟨hT, hp8⟩ := hp
    have hT := hT.symm
    subst hT
    refine lv_if_ne (tgt := 37) hx hb dX5_giveBack_24 (by decide) (fun c9 => ?_) (fun c9 => ?_)
    · refine lv_iload_n hx hb dX5_giveBack_37 rfl (lv_at hl 3 rfl) ?_
      refine lv_if_ne (tgt := 55) hx hb dX5_giveBack_38 (by decide) (fun c10 => ?_) (fun c10 => ?_)
      · refine lv_iconst (v := 0) hx hb dX5_giveBack_55 (by decide) ?_
        refine lv_iload_n hx hb dX5_giveBack_56 rfl (lv_at hl 3 rfl) ?_
        refine lv_aload hx hb dX5_giveBack_57 (lv_at hl 0 rfl) ?_
        refine kcallI (kV (n := 0) (As := []) (rest := [.int go, .int 0]) (b := (av i3)) (C := RX1) F hE hK hP hD hS hA (c_X1_roomLeft l hl0 g e0 S _ (av i3) (hR.1 i3 hi3).1) (rr_Article hK hP (hR.1 i3 hi3).1) kw_386 kw_387 kw_388 kw_82 kw_389 (by decide +kernel) ⟨Nat.le_of_ble_eq_true rfl, Nat.le_of_ble_eq_true rfl⟩ rfl hl.1 rfl (Nat.le_of_ble_eq_true rfl) dX5_giveBack_59 ⟨Nat.le_of_ble_eq_true rfl, Nat.le_of_ble_eq_true rfl⟩) rfl hD hS hA (fun _ _ _ _ _ h => False.elim h) (fun r11 T11 H locs hp hP hD hS => ?_)
        obtain ⟨hT, hp12⟩ := hp
        have hT := hT.symm
        subst hT
        refine lv_isub hx hb dX5_giveBack_62 ?_
        refine lv_topi (fun x13 ex13 => ?_)
        refine va_mmax hx hb (by rw [F.2.2.1]; exact hl.1.symm) F.2.2.2.1 (F.2.2.2.2 _ kw_385) (F.2.2.2.2 _ kw_122) (F.2.2.2.2 _ kw_123) (F.2.2.2.2 _ kw_124) (Nat.le_of_ble_eq_true rfl) (Nat.le_of_ble_eq_true rfl) (Nat.le_of_ble_eq_true rfl) (Nat.le_of_ble_eq_true rfl) dX5_giveBack_63 ?_
        refine lv_topi (fun x14 ex14 => ?_)
        refine lv_istore (lv' := [(5, .int x14), (4, .ref (av i3)), (0, .ref (z 0)), (1, .int n), (2, .int go), (3, .int ba)]) hx hb dX5_giveBack_66 hl (by decide) rfl (fun ls hl => ?_)
        refine lv_aload hx hb dX5_giveBack_68 (lv_at hl 1 rfl) ?_
        refine rg_Article_reserve F hK hP (hR.1 i3 hi3).1 kw_227 dX5_giveBack_70 ?_
        refine lv_topi (fun x15 ex15 => ?_)
        refine lv_iload hx hb dX5_giveBack_73 (lv_at hl 0 rfl) ?_
        refine lv_iadd hx hb dX5_giveBack_75 ?_
        refine lv_topi (fun x16 ex16 => ?_)
        refine lv_sipush (v := 9999) hx hb dX5_giveBack_76 (by decide) ?_
        refine lv_icmp_le (tgt := 92) hx hb dX5_giveBack_79 (by decide) (fun c17 => ?_) (fun c17 => ?_)
        · refine lv_aload_n hx hb dX5_giveBack_92 rfl (lv_at hl 2 rfl) ?_
          refine lv_dup hx hb dX5_giveBack_93 rfl ?_
          refine rg_Pickwave_badUnits F hK hP (hI.1.1 0 (by decide)) kw_182 dX5_giveBack_94 ?_
          refine lv_topi (fun x18 ex18 => ?_)
          refine lv_iload_n hx hb dX5_giveBack_97 rfl (lv_at hl 5 rfl) ?_
          refine lv_iadd hx hb dX5_giveBack_98 ?_
          refine lv_topi (fun x19 ex19 => ?_)
          refine rp_Pickwave_badUnits F hK hP hD hS (hI.1.1 0 (by decide)) kw_182 dX5_giveBack_99 (fun H locs hP hD hS => ?_)
          have hR20 := Rq.numx (x := x19) (f := 58) (v := ((q 58 0) + bn)) hR (by decide) (by rw [ex19, (show (x18 : Int32) = nI (q 58 0) from (ex18.trans (hR.2.2.2.2.2.2.1.1 58 (by decide)))), (show (ba : Int32) = nI bn from hba)]; exact nI_add _ _)
          refine lv_aload hx hb dX5_giveBack_102 (lv_at hl 1 rfl) ?_
          refine lv_iload_n hx hb dX5_giveBack_104 rfl (lv_at hl 4 rfl) ?_
          refine kcallI (kV (n := 1) (As := [.int go]) (rest := []) (b := (av i3)) (C := RX1) F hE hK hP hD hS hA (c_X1_putAway_x l hl0 g e0 z (setF S 58 (z 0) x19) _ (hI.keep (kp_setF hI.kp (by decide) (by decide)).1) av lv (q_up q 58 0 ((q 58 0) + bn)) hR20 i3 gn hi3 go hgo hgn ⟨(h3 _ hi3).2.1, by have := (h3 _ hi3).2.2; exact Nat.lt_of_le_of_lt this (by decide)⟩) (rr_Article hK hP (hR.1 i3 hi3).1) kw_390 kw_391 kw_392 kw_82 kw_393 (by decide +kernel) ⟨Nat.le_of_ble_eq_true rfl, Nat.le_of_ble_eq_true rfl⟩ rfl hl.1 rfl (Nat.le_of_ble_eq_true rfl) dX5_giveBack_105 ⟨Nat.le_of_ble_eq_true rfl, Nat.le_of_ble_eq_true rfl⟩) rfl hD hS hA (fun _ _ _ _ _ h => False.elim h) (fun r21 T21 H locs hp hP hD hS => ?_)
          obtain ⟨hk22, hr22, hv22⟩ := hp
          have N22 : Kp z (setF S 58 (z 0) x19) T21 := hk22
          have K22 : Kp z S T21 := Kp.trans (kp_setF hI.kp (by decide) (by decide)) N22
          have I22 : Inv z e0 T21 := hI.keep K22.1
          have o23 : Ob T21 1 (av i3) := N22.1.ob (hR.1 i3 hi3).1
          exact kEndI F hr rfl hlk hP hD hS (Nat.le_of_ble_eq_true rfl) (Nat.le_of_ble_eq_true rfl) dX5_giveBack_108 ⟨_, rfl, ⟨K22, i3, hi3, hn3, hv22, hr22⟩⟩
        · exact kth_ISE hl0 F hE hlk hte hP hS hl.1 (List.mem_of_getElem? (i := 7) rfl) dX5_giveBack_82 dX5_giveBack_85 dX5_giveBack_86 dX5_giveBack_88 dX5_giveBack_91 ⟨Nat.le_of_ble_eq_true rfl, Nat.le_of_ble_eq_true rfl, Nat.le_of_ble_eq_true rfl, Nat.le_of_ble_eq_true rfl⟩ (Nat.le_of_ble_eq_true rfl) (Nat.le_of_ble_eq_true rfl) (Or.inr (Or.inr rfl))
      · refine lv_iload_n hx hb dX5_giveBack_41 rfl (lv_at hl 4 rfl) ?_
        refine lv_if_ne (tgt := 55) hx hb dX5_giveBack_42 (by decide) (fun c24 => ?_) (fun c24 => ?_)
        · refine lv_iconst (v := 0) hx hb dX5_giveBack_55 (by decide) ?_
          refine lv_iload_n hx hb dX5_giveBack_56 rfl (lv_at hl 3 rfl) ?_
          refine lv_aload hx hb dX5_giveBack_57 (lv_at hl 0 rfl) ?_
          refine kcallI (kV (n := 0) (As := []) (rest := [.int go, .int 0]) (b := (av i3)) (C := RX1) F hE hK hP hD hS hA (c_X1_roomLeft l hl0 g e0 S _ (av i3) (hR.1 i3 hi3).1) (rr_Article hK hP (hR.1 i3 hi3).1) kw_386 kw_387 kw_388 kw_82 kw_389 (by decide +kernel) ⟨Nat.le_of_ble_eq_true rfl, Nat.le_of_ble_eq_true rfl⟩ rfl hl.1 rfl (Nat.le_of_ble_eq_true rfl) dX5_giveBack_59 ⟨Nat.le_of_ble_eq_true rfl, Nat.le_of_ble_eq_true rfl⟩) rfl hD hS hA (fun _ _ _ _ _ h => False.elim h) (fun r25 T25 H locs hp hP hD hS => ?_)
          obtain ⟨hT, hp26⟩ := hp
          have hT := hT.symm
          subst hT
          refine lv_isub hx hb dX5_giveBack_62 ?_
          refine lv_topi (fun x27 ex27 => ?_)
          refine va_mmax hx hb (by rw [F.2.2.1]; exact hl.1.symm) F.2.2.2.1 (F.2.2.2.2 _ kw_385) (F.2.2.2.2 _ kw_122) (F.2.2.2.2 _ kw_123) (F.2.2.2.2 _ kw_124) (Nat.le_of_ble_eq_true rfl) (Nat.le_of_ble_eq_true rfl) (Nat.le_of_ble_eq_true rfl) (Nat.le_of_ble_eq_true rfl) dX5_giveBack_63 ?_
          refine lv_topi (fun x28 ex28 => ?_)
          refine lv_istore (lv' := [(5, .int x28), (4, .ref (av i3)), (0, .ref (z 0)), (1, .int n), (2, .int go), (3, .int ba)]) hx hb dX5_giveBack_66 hl (by decide) rfl (fun ls hl => ?_)
          refine lv_aload hx hb dX5_giveBack_68 (lv_at hl 1 rfl) ?_
          refine rg_Article_reserve F hK hP (hR.1 i3 hi3).1 kw_227 dX5_giveBack_70 ?_
          refine lv_topi (fun x29 ex29 => ?_)
          refine lv_iload hx hb dX5_giveBack_73 (lv_at hl 0 rfl) ?_
          refine lv_iadd hx hb dX5_giveBack_75 ?_
          refine lv_topi (fun x30 ex30 => ?_)
          refine lv_sipush (v := 9999) hx hb dX5_giveBack_76 (by decide) ?_
          refine lv_icmp_le (tgt := 92) hx hb dX5_giveBack_79 (by decide) (fun c31 => ?_) (fun c31 => ?_)
          · refine lv_aload_n hx hb dX5_giveBack_92 rfl (lv_at hl 2 rfl) ?_
            refine lv_dup hx hb dX5_giveBack_93 rfl ?_
            refine rg_Pickwave_badUnits F hK hP (hI.1.1 0 (by decide)) kw_182 dX5_giveBack_94 ?_
            refine lv_topi (fun x32 ex32 => ?_)
            refine lv_iload_n hx hb dX5_giveBack_97 rfl (lv_at hl 5 rfl) ?_
            refine lv_iadd hx hb dX5_giveBack_98 ?_
            refine lv_topi (fun x33 ex33 => ?_)
            refine rp_Pickwave_badUnits F hK hP hD hS (hI.1.1 0 (by decide)) kw_182 dX5_giveBack_99 (fun H locs hP hD hS => ?_)
            have hR34 := Rq.numx (x := x33) (f := 58) (v := ((q 58 0) + bn)) hR (by decide) (by rw [ex33, (show (x32 : Int32) = nI (q 58 0) from (ex32.trans (hR.2.2.2.2.2.2.1.1 58 (by decide)))), (show (ba : Int32) = nI bn from hba)]; exact nI_add _ _)
            refine lv_aload hx hb dX5_giveBack_102 (lv_at hl 1 rfl) ?_
            refine lv_iload_n hx hb dX5_giveBack_104 rfl (lv_at hl 4 rfl) ?_
            refine kcallI (kV (n := 1) (As := [.int go]) (rest := []) (b := (av i3)) (C := RX1) F hE hK hP hD hS hA (c_X1_putAway_x l hl0 g e0 z (setF S 58 (z 0) x33) _ (hI.keep (kp_setF hI.kp (by decide) (by decide)).1) av lv (q_up q 58 0 ((q 58 0) + bn)) hR34 i3 gn hi3 go hgo hgn ⟨(h3 _ hi3).2.1, by have := (h3 _ hi3).2.2; exact Nat.lt_of_le_of_lt this (by decide)⟩) (rr_Article hK hP (hR.1 i3 hi3).1) kw_390 kw_391 kw_392 kw_82 kw_393 (by decide +kernel) ⟨Nat.le_of_ble_eq_true rfl, Nat.le_of_ble_eq_true rfl⟩ rfl hl.1 rfl (Nat.le_of_ble_eq_true rfl) dX5_giveBack_105 ⟨Nat.le_of_ble_eq_true rfl, Nat.le_of_ble_eq_true rfl⟩) rfl hD hS hA (fun _ _ _ _ _ h => False.elim h) (fun r35 T35 H locs hp hP hD hS => ?_)
            obtain ⟨hk36, hr36, hv36⟩ := hp
            have N36 : Kp z (setF S 58 (z 0) x33) T35 := hk36
            have K36 : Kp z S T35 := Kp.trans (kp_setF hI.kp (by decide) (by decide)) N36
            have I36 : Inv z e0 T35 := hI.keep K36.1
            have o37 : Ob T35 1 (av i3) := N36.1.ob (hR.1 i3 hi3).1
            exact kEndI F hr rfl hlk hP hD hS (Nat.le_of_ble_eq_true rfl) (Nat.le_of_ble_eq_true rfl) dX5_giveBack_108 ⟨_, rfl, ⟨K36, i3, hi3, hn3, hv36, hr36⟩⟩
          · exact kth_ISE hl0 F hE hlk hte hP hS hl.1 (List.mem_of_getElem? (i := 7) rfl) dX5_giveBack_82 dX5_giveBack_85 dX5_giveBack_86 dX5_giveBack_88 dX5_giveBack_91 ⟨Nat.le_of_ble_eq_true rfl, Nat.le_of_ble_eq_true rfl, Nat.le_of_ble_eq_true rfl, Nat.le_of_ble_eq_true rfl⟩ (Nat.le_of_ble_eq_true rfl) (Nat.le_of_ble_eq_true rfl) (Or.inr (Or.inr rfl))
        · exact kth_IAE hl0 F hE hlk hte hP hS hl.1 (List.mem_of_getElem? (i := 6) rfl) dX5_giveBack_45 dX5_giveBack_48 dX5_giveBack_49 dX5_giveBack_51 dX5_giveBack_54 ⟨Nat.le_of_ble_eq_true rfl, Nat.le_of_ble_eq_true rfl, Nat.le_of_ble_eq_true rfl, Nat.le_of_ble_eq_true rfl⟩ (Nat.le_of_ble_eq_true rfl) (Nat.le_of_ble_eq_true rfl) (Or.inr (Or.inl rfl))
    · exact kth_IAE hl0 F hE hlk hte hP hS hl.1 (List.mem_of_getElem? (i := 5) rfl) dX5_giveBack_27 dX5_giveBack_30 dX5_giveBack_31 dX5_giveBack_33 dX5_giveBack_36 ⟨Nat.le_of_ble_eq_true rfl, Nat.le_of_ble_eq_true rfl, Nat.le_of_ble_eq_true rfl, Nat.le_of_ble_eq_true rfl⟩ (Nat.le_of_ble_eq_true rfl) (Nat.le_of_ble_eq_true rfl) (Or.inr (Or.inl rfl))
set_option maxHeartbeats 4000000 in
set_option maxRecDepth 100000 in
theorem c_X5_wave_x (l : Launch) (hl0 : l.stackTraces = false) (g : kG) (e0 : Nat) (z : Nat → Nat) (S : wPS) (sz : Nat) (hI : Inv z e0 S) (av lv : Nat → Nat) (q : qS) (hR : Rq z av lv S q) (hW : q_W q) (hb1 : ∀ i, i < 4 → q 1 i < 2 ^ 31) (n : Int32) : kM l g e0 yX5_wave cX5_wave 5 (some .int) 7 103 2 12 [.ref (z 0), .int n] S sz (pI (fun r T => Inv z e0 T ∧ ∃ j, j < 3 ∧ n = nI j ∧ q 57 0 < 20 ∧ Rq z av lv T (q_wave j q) ∧ ∃ c, c ≤ 240 ∧ r = nI c)) (fun E => E = xI ∨ E = xU ∨ E = xS) := by
  refine kM.of (by decide) (Nat.le_of_ble_eq_true rfl) ?_
  intro p e s m below meth c ls B hin
  obtain ⟨F, hr, hlk, hte, hP, hK, hD, hE, hS, hA, hl, hsz⟩ := B
  subst hsz
  have hx := F.1
  have hb := F.2.1
  have hl : lv_has ls 5 [(0, .ref (z 0)), (1, .int n)] := hl
  refine lv_aload_n hx hb dX5_wave_0 rfl (lv_at hl 0 rfl) ?_
  refine lv_iload_n hx hb dX5_wave_1 rfl (lv_at hl 1 rfl) ?_
  refine kcallU (kV (n := 1) (As := [.int n]) (rest := []) (b := (z 0)) (C := RX5) F hE hK hP hD hS hA (c_X5_checkCarrier l hl0 g e0 z S _ hI n) (rr_Pickwave hK hP (hI.1.1 0 (by decide))) kw_422 kw_423 kw_424 kw_2 kw_425 (by decide +kernel) ⟨Nat.le_of_ble_eq_true rfl, Nat.le_of_ble_eq_true rfl⟩ rfl hl.1 rfl (Nat.le_of_ble_eq_true rfl) dX5_wave_2 ⟨Nat.le_of_ble_eq_true rfl, Nat.le_of_ble_eq_true rfl⟩) rfl hD hS hA (fun E ce q9 H1 locs1 hex hP1 hS1 hce hcv hcl => kthru hte hlk (Or.inl hex.1) hP1 hS1 hce hcv hcl (Nat.le_of_ble_eq_true rfl) (Nat.le_of_ble_eq_true rfl)) (fun T1 H locs hp hP hD hS => ?_)
  obtain ⟨hT, hp2⟩ := hp
  have hT := hT.symm
  subst hT
  obtain ⟨j, hj, hnj⟩ := kix (M := 3) (N := 3) rfl (by decide) hp2.1 hp2.2
  refine lv_aload_n hx hb dX5_wave_5 rfl (lv_at hl 0 rfl) ?_
  refine rg_Pickwave_presentMinute F hK hP (hI.1.1 0 (by decide)) kw_167 dX5_wave_6 ?_
  refine lv_topi (fun x3 ex3 => ?_)
  refine lv_aload_n hx hb dX5_wave_9 rfl (lv_at hl 0 rfl) ?_
  refine rs_Pickwave_cutOffs (b := z 6) F hK hP (hI.1.1 0 (by decide)) hI.2.1.2.1 kw_15 dX5_wave_10 ?_
  refine lv_iload_n hx hb dX5_wave_13 rfl (lv_at hl 1 rfl) ?_
  refine rd_I F hK hP (hI.1.1 6 (by decide)) (by show vp_in n (pN S (z 6)); rw [hnj, hI.2.2.1.2.2.1]; exact vp_in_nI hj (by decide)) dX5_wave_14 ?_
  refine lv_topi (fun x4 ex4 => ?_)
  refine lv_icmp_le (tgt := 28) hx hb dX5_wave_15 (by decide) (fun c5 => ?_) (fun c5 => ?_)
  · refine lv_aload_n hx hb dX5_wave_28 rfl (lv_at hl 0 rfl) ?_
    refine rg_Pickwave_waveCount F hK hP (hI.1.1 0 (by decide)) kw_177 dX5_wave_29 ?_
    refine lv_topi (fun x6 ex6 => ?_)
    refine lv_bipush (v := 20) hx hb dX5_wave_32 (by decide) ?_
    refine lv_icmp_lt (tgt := 47) hx hb dX5_wave_34 (by decide) (fun c7 => ?_) (fun c7 => ?_)
    · have hwc : q 57 0 < 20 := (Nat.lt_or_ge (q 57 0) 20).elim id (fun h => absurd c7 (Int32.not_lt.mpr (by rw [(ex6.trans (hR.2.2.2.2.2.2.1.1 57 (by decide)))]; exact nI_le (a := 20) h (by have := hW.1.2.2.2.2.1.1; omega))))
      refine lv_aload_n hx hb dX5_wave_47 rfl (lv_at hl 0 rfl) ?_
      refine rg_Pickwave_waveCount F hK hP (hI.1.1 0 (by decide)) kw_177 dX5_wave_48 ?_
      refine lv_topi (fun x8 ex8 => ?_)
      refine lv_istore_n (lv' := [(2, .int x8), (0, .ref (z 0)), (1, .int n)]) hx hb dX5_wave_51 rfl hl (by decide) rfl (fun ls hl => ?_)
      refine lv_aload_n hx hb dX5_wave_52 rfl (lv_at hl 1 rfl) ?_
      refine lv_dup hx hb dX5_wave_53 rfl ?_
      refine rg_Pickwave_waveCount F hK hP (hI.1.1 0 (by decide)) kw_177 dX5_wave_54 ?_
      refine lv_topi (fun x9 ex9 => ?_)
      refine lv_iconst (v := 1) hx hb dX5_wave_57 (by decide) ?_
      refine lv_iadd hx hb dX5_wave_58 ?_
      refine lv_topi (fun x10 ex10 => ?_)
      refine rp_Pickwave_waveCount F hK hP hD hS (hI.1.1 0 (by decide)) kw_177 dX5_wave_59 (fun H locs hP hD hS => ?_)
      have hI2 : Inv z e0 (setF S 57 (z 0) x10) := hI.setU (by decide)
      have hR11 := Rq.numx (x := x10) (f := 57) (v := ((q 57 0) + 1)) hR (by decide) (by rw [ex10, (show (x9 : Int32) = nI (q 57 0) from (ex9.trans (hR.2.2.2.2.2.2.1.1 57 (by decide)))), (show (1 : Int32) = nI 1 from rfl)]; exact nI_add _ _)
      refine lv_iconst (v := 0) hx hb dX5_wave_62 (by decide) ?_
      refine lv_istore_n (lv' := [(3, .int 0), (2, .int x8), (0, .ref (z 0)), (1, .int n)]) hx hb dX5_wave_63 rfl hl (by decide) rfl (fun ls hl => ?_)
      refine lv_iconst (v := 1) hx hb dX5_wave_64 (by decide) ?_
      refine lv_istore (lv' := [(4, .int 1), (3, .int 0), (2, .int x8), (0, .ref (z 0)), (1, .int n)]) hx hb dX5_wave_65 hl (by decide) rfl (fun ls hl => ?_)
      have loop : ∀ (fu : Nat) (T0 : wPS) (i : Nat) (xi cn : Int32) (H : Heap) (locs : List Loc) (ls : Array Slot), va_P (kD g) vwCl (kW g T0) H → va_D (kA (pL S) s.heap.size) (kW g T0) → va_S (kA (pL S) s.heap.size) s.heap H locs → lv_has ls 5 [(4, .int xi), (3, .int cn), (0, .ref (z 0)), (1, .int n), (2, .int x8)] → 20 - i < fu → (Kp z (setF S 57 (z 0) x10) T0) → (Rq z av lv T0 (q_wl j (q 57 0) i (q_up q 57 0 (q 57 0 + 1)))) → (xi = nI (i + 1)) → (i ≤ 20) → (∃ c, c ≤ 12 * i ∧ cn = nI c) → W p l e ({ frames := 7, cells := 2, slots := 12, locals := 103 }) s m ([.ref (z 0), .int n] : List Value).toArray below meth c H locs 1 6 (vx_MQ below (kQ g S s.heap.size (pI (fun r T => Inv z e0 T ∧ ∃ j, j < 3 ∧ n = nI j ∧ q 57 0 < 20 ∧ Rq z av lv T (q_wave j q) ∧ ∃ c, c ≤ 240 ∧ r = nI c))) (kX g S s.heap.size (fun E => E = xI ∨ E = xU ∨ E = xS)) ([.ref (z 0), .int n] : List Value).toArray s 2 12 (kA (pL S) s.heap.size)) (F0 m 67 ls []) := by
        intro fu
        induction fu with
        | zero => intro T0 i xi cn H locs ls hP hD hS hl hn hKp hRq hi hin hcn; exact absurd hn (Nat.not_lt_zero _)
        | succ fu ih =>
          intro T0 i xi cn H locs ls hP hD hS hl hn hKp hRq hi hin hcn
          obtain ⟨c, hc, hcc⟩ := hcn
          refine lv_iload hx hb dX5_wave_67 (lv_at hl 0 rfl) ?_
          refine lv_bipush (v := 20) hx hb dX5_wave_69 (by decide) ?_
          refine lv_icmp_gt (tgt := 91) hx hb dX5_wave_71 (by decide) (fun c12 => ?_) (fun c12 => ?_)
          · have h20 : i = 20 := Nat.le_antisymm hin ((Nat.lt_or_ge i 20).elim (fun h => absurd c12 (Int32.not_lt.mpr (by rw [hi]; exact nI_le (b := 20) h (by decide)))) id)
            refine lv_iload_n hx hb dX5_wave_91 rfl (lv_at hl 1 rfl) ?_
            exact kEndI F hr rfl hlk hP hD hS (Nat.le_of_ble_eq_true rfl) (Nat.le_of_ble_eq_true rfl) dX5_wave_92 ⟨_, rfl, ⟨hI2.keep hKp.1, j, hj, hnj, hwc, by have h9 := hRq; rw [h20] at h9; exact h9, c, by omega, hcc⟩⟩
          · have hi20 : i < 20 := (Nat.lt_or_ge i 20).elim id (fun h => absurd (by rw [hi]; exact nI_lt (a := 20) (by omega) (by omega)) c12)
            refine lv_iload_n hx hb dX5_wave_74 rfl (lv_at hl 1 rfl) ?_
            refine lv_aload_n hx hb dX5_wave_75 rfl (lv_at hl 2 rfl) ?_
            refine lv_iload_n hx hb dX5_wave_76 rfl (lv_at hl 3 rfl) ?_
            refine lv_iload hx hb dX5_wave_77 (lv_at hl 0 rfl) ?_
            refine lv_iload_n hx hb dX5_wave_79 rfl (lv_at hl 4 rfl) ?_
            refine kcallI (kV (n := 3) (As := [.int n, .int xi, .int x8]) (rest := [.int cn]) (b := (z 0)) (C := RX5) F hE hK hP hD hS hA (c_X5_promiseAll_x l hl0 g e0 z T0 _ (hI2.keep hKp.1) av lv (q_wl j (q 57 0) i (q_up q 57 0 (q 57 0 + 1))) hRq j (i + 1) (q 57 0) (q_wl_Wv (q_Wv_begin hW rfl hwc)) n xi x8 hnj hi (ex8.trans (hR.2.2.2.2.2.2.1.1 57 (by decide))) (by omega) (by omega) (fun b hb => by rw [q_wl_o (by decide) (by decide)]; exact hb1 b hb)) (rr_Pickwave hK hP ((hI2.keep hKp.1).1.1 0 (by decide))) kw_433 kw_434 kw_435 kw_2 kw_436 (by decide +kernel) ⟨Nat.le_of_ble_eq_true rfl, Nat.le_of_ble_eq_true rfl⟩ rfl hl.1 rfl (Nat.le_of_ble_eq_true rfl) dX5_wave_80 ⟨Nat.le_of_ble_eq_true rfl, Nat.le_of_ble_eq_true rfl⟩) rfl hD hS hA (fun _ _ _ _ _ h => False.elim h) (fun r13 T13 H locs hp hP hD hS => ?_)
            obtain ⟨hk14, hr14, hv14⟩ := hp
            have N14 : Kp z T0 T13 := hk14
            have K14 : Kp z (setF S 57 (z 0) x10) T13 := Kp.trans hKp N14
            have I14 : Inv z e0 T13 := hI2.keep K14.1
            have hr14 : Rq z av lv T13 (q_wl j (q 57 0) (i + 1) (q_up q 57 0 (q 57 0 + 1))) := by have h9 := hr14; rw [q_wl_o (by decide) (by decide)] at h9; exact h9
            obtain ⟨d14, hd14, hdd14⟩ := hv14
            have hd1214 : d14 ≤ 12 := Nat.le_trans hd14 (by rw [q_wl_o (by decide) (by decide)]; exact hW.1.1.2.1)
            refine lv_iadd hx hb dX5_wave_83 ?_
            refine lv_topi (fun x15 ex15 => ?_)
            refine lv_istore_n (lv' := [(3, .int x15), (4, .int xi), (0, .ref (z 0)), (1, .int n), (2, .int x8)]) hx hb dX5_wave_84 rfl hl (by decide) rfl (fun ls hl => ?_)
            obtain ⟨x16, ex16⟩ : ∃ y : Int32, y = xi + 1 := ⟨_, rfl⟩
            refine lv_iinc (v := x16) (lv' := [(4, .int x16), (3, .int x15), (0, .ref (z 0)), (1, .int n), (2, .int x8)]) hx hb dX5_wave_85 hl (k := 1) rfl (by rw [ex16]; rfl) (by decide) rfl (fun ls hl => ?_)
            refine lv_goto (tgt := 67) hx hb dX5_wave_88 (by decide) ?_
            exact ih _ (i + 1) x16 x15 H locs ls hP hD hS (lv_sub hl [0, 1, 2, 3, 4] rfl) (by omega) K14 hr14 (by rw [ex16, hi]; exact nI_1 (i + 1)) (by omega) ⟨c + d14, by omega, (by rw [ex15, (show (cn : Int32) = nI c from hcc), (show (r13 : Int32) = nI d14 from hdd14)]; exact nI_add _ _)⟩
      exact loop 21 _ 0 1 0 _ _ _ hP hD hS (lv_sub hl [0, 1, 3, 4, 2] rfl) (by decide) hI2.kp hR11 rfl (by decide) ⟨0, Nat.zero_le _, rfl⟩
    · exact kth_ISE hl0 F hE hlk hte hP hS hl.1 (List.mem_of_getElem? (i := 16) rfl) dX5_wave_37 dX5_wave_40 dX5_wave_41 dX5_wave_43 dX5_wave_46 ⟨Nat.le_of_ble_eq_true rfl, Nat.le_of_ble_eq_true rfl, Nat.le_of_ble_eq_true rfl, Nat.le_of_ble_eq_true rfl⟩ (Nat.le_of_ble_eq_true rfl) (Nat.le_of_ble_eq_true rfl) (Or.inr (Or.inr rfl))
  · exact kth_UOE hl0 F hE hlk hte hP hS hl.1 (List.mem_of_getElem? (i := 15) rfl) dX5_wave_18 dX5_wave_21 dX5_wave_22 dX5_wave_24 dX5_wave_27 ⟨Nat.le_of_ble_eq_true rfl, Nat.le_of_ble_eq_true rfl, Nat.le_of_ble_eq_true rfl, Nat.le_of_ble_eq_true rfl⟩ (Nat.le_of_ble_eq_true rfl) (Nat.le_of_ble_eq_true rfl) (Or.inr (Or.inl rfl))
