theorem kend {i m m' : Nat} {x r : Int32} (hin : i ≤ m) (hm : m ≤ 12) (hi : x = nI i) (hr : r = nI m') (hmm : m' = m) (c : r ≤ x) : i = m := by
  subst hmm
  rw [hi, hr] at c
  have := (nI_leI (by omega) (by omega)).mp c
  omega
theorem q_re_t {P : qS → Nat → Bool} {m : Nat} {q : qS} (h : P (q_re P m q) m = true) : q_re P (m + 1) q = q_scan m 117 (q_re P m q) := if_pos h
theorem q_re_f {P : qS → Nat → Bool} {m : Nat} {q : qS} (h : ¬ P (q_re P m q) m = true) : q_re P (m + 1) q = q_re P m q := if_neg h
theorem k14v {q : qS} {n : Nat} (hV : q_V q) (hn : n < q 73 0) (hp : q 24 n = 112) : q 23 n ≤ q 14 (q 21 n) := by
  have hl := q_sum_le (q := q) (a := q 21 n) hn
  rw [hV.2.1 _ (hV.1.2.2.1 n hn).1]
  unfold q_term at hl
  rw [if_pos ⟨rfl, hp⟩] at hl
  exact hl
set_option maxHeartbeats 4000000 in
set_option maxRecDepth 100000 in
theorem c_X5_reopenInAisle_x (l : Launch) (hl0 : l.stackTraces = false) (g : kG) (e0 : Nat) (z : Nat → Nat) (S : wPS) (sz : Nat) (hI : Inv z e0 S) (av lv : Nat → Nat) (q : qS) (hR : Rq z av lv S q) (hV : q_V q) (j : Nat) (hj : j < 4) : kM l g e0 yX5_reopenInAisle cX5_reopenInAisle 4 none 3 64 0 0 [.ref (z 0), .ref (z (2 + j))] S sz (pU (fun T => Kp z S T ∧ Rq z av lv T (q_re (q_PA j) (q 73 0) q))) (fun E => False) := by
  refine kM.of (by decide) (Nat.le_of_ble_eq_true rfl) ?_
  intro p e s m below meth c ls B hin
  obtain ⟨F, hr, hlk, hte, hP, hK, hD, hE, hS, hA, hl, hsz⟩ := B
  subst hsz
  have hx := F.1
  have hb := F.2.1
  have hl : lv_has ls 4 [(0, .ref (z 0)), (1, .ref (z (2 + j)))] := hl
  obtain ⟨m1, hm1, hL1⟩ := hI.lines
  have h12 : q 73 0 ≤ 12 := hV.1.2.1
  obtain rfl : m1 = q 73 0 := nI_inj (by omega) (by omega) (hL1.1.symm.trans hR.2.2.2.1.2)
  refine lv_iconst (v := 0) hx hb dX5_reopenInAisle_0 (by decide) ?_
  refine lv_istore_n (lv' := [(2, .int 0), (0, .ref (z 0)), (1, .ref (z (2 + j)))]) hx hb dX5_reopenInAisle_1 rfl hl (by decide) rfl (fun ls hl => ?_)
  have loop : ∀ (fu : Nat) (T0 : wPS) (i : Nat) (xi : Int32) (H : Heap) (locs : List Loc) (ls : Array Slot), va_P (kD g) vwCl (kW g T0) H → va_D (kA (pL S) s.heap.size) (kW g T0) → va_S (kA (pL S) s.heap.size) s.heap H locs → lv_has ls 4 [(2, .int xi), (0, .ref (z 0)), (1, .ref (z (2 + j)))] → q 73 0 - i < fu → (Kp z S T0) → (Rq z av lv T0 (q_re (q_PA j) i q)) → (xi = nI i) → (i ≤ q 73 0) → W p l e ({ frames := 3, cells := 0, slots := 0, locals := 64 }) s m ([.ref (z 0), .ref (z (2 + j))] : List Value).toArray below meth c H locs 0 0 (vx_MQ below (kQ g S s.heap.size (pU (fun T => Kp z S T ∧ Rq z av lv T (q_re (q_PA j) (q 73 0) q)))) (kX g S s.heap.size (fun E => False)) ([.ref (z 0), .ref (z (2 + j))] : List Value).toArray s 0 0 (kA (pL S) s.heap.size)) (F0 m 2 ls []) := by
    intro fu
    induction fu with
    | zero => intro T0 i xi H locs ls hP hD hS hl hn hKp hRq hi hin; exact absurd hn (Nat.not_lt_zero _)
    | succ fu ih =>
      intro T0 i xi H locs ls hP hD hS hl hn hKp hRq hi hin
      have hLT : LI T0 e0 (z 11) 2 (q 73 0) := LI.keep hKp.1 hL1
      refine lv_iload_n hx hb dX5_reopenInAisle_2 rfl (lv_at hl 0 rfl) ?_
      refine lv_aload_n hx hb dX5_reopenInAisle_3 rfl (lv_at hl 1 rfl) ?_
      refine rs_Pickwave_lines (b := z 11) F hK hP ((hI.keep hKp.1).1.1 0 (by decide)) ((hI.keep hKp.1).2.1.2.2.2.2.1) kw_24 dX5_reopenInAisle_4 ?_
      refine kcallI (kV (n := 0) (As := []) (rest := [.int xi]) (b := (z 11)) (C := RJx4a65c) F hE hK hP hD hS hA (c_Jx4a65c_size_8abf5 l hl0 g e0 T0 _ (z 11) ((hI.keep hKp.1).1.1 11 (by decide))) (rr_ArrayList hK hP ((hI.keep hKp.1).1.1 11 (by decide))) kw_90 kw_91 kw_92 kw_22 kw_93 (by decide +kernel) ⟨Nat.le_of_ble_eq_true rfl, Nat.le_of_ble_eq_true rfl⟩ rfl hl.1 rfl (Nat.le_of_ble_eq_true rfl) dX5_reopenInAisle_7 ⟨Nat.le_of_ble_eq_true rfl, Nat.le_of_ble_eq_true rfl⟩) rfl hD hS hA (fun _ _ _ _ _ h => False.elim h) (fun r1 T1 H locs hp hP hD hS => ?_)
      obtain ⟨hT, hp2⟩ := hp
      have hT := hT.symm
      subst hT
      refine lv_icmp_ge (tgt := 58) hx hb dX5_reopenInAisle_10 (by decide) (fun c3 => ?_) (fun c3 => ?_)
      · have hiM : i = q 73 0 := kend hin h12 hi (hp2.trans hRq.2.2.2.1.2) (q_re_o (by decide)) c3
        exact kEndV F hr hlk hP hD hS (Nat.le_of_ble_eq_true rfl) (Nat.le_of_ble_eq_true rfl) dX5_reopenInAisle_58 ⟨rfl, ⟨hKp, by rw [← hiM]; exact hRq⟩⟩
      · obtain ⟨him, hx0, hx1⟩ := klp hLT ⟨h12, hin⟩ hi hp2 c3
        have hiq : i < (q_re (q_PA j) i q) 73 0 := by rw [q_re_o (by decide)]; exact him
        refine lv_aload_n hx hb dX5_reopenInAisle_13 rfl (lv_at hl 1 rfl) ?_
        refine rs_Pickwave_lines (b := z 11) F hK hP ((hI.keep hKp.1).1.1 0 (by decide)) ((hI.keep hKp.1).2.1.2.2.2.2.1) kw_24 dX5_reopenInAisle_14 ?_
        refine lv_iload_n hx hb dX5_reopenInAisle_17 rfl (lv_at hl 0 rfl) ?_
        refine kcallR (kV (n := 1) (As := [.int xi]) (rest := []) (b := (z 11)) (C := RJx4a65c) F hE hK hP hD hS hA (c_Jx4a65c_get_915e3 l hl0 g e0 T0 _ (z 11) 2 _ xi ((hI.keep hKp.1).1.1 11 (by decide)) hLT hx0 hx1 (by omega)) (rr_ArrayList hK hP ((hI.keep hKp.1).1.1 11 (by decide))) kw_204 kw_205 kw_206 kw_22 kw_207 (by decide +kernel) ⟨Nat.le_of_ble_eq_true rfl, Nat.le_of_ble_eq_true rfl⟩ rfl hl.1 rfl (Nat.le_of_ble_eq_true rfl) dX5_reopenInAisle_18 ⟨Nat.le_of_ble_eq_true rfl, Nat.le_of_ble_eq_true rfl⟩) rfl hD hS hA (fun _ _ _ _ _ h => False.elim h) (fun b4 T4 H locs hp hP hD hS => ?_)
        obtain ⟨hT, hp5⟩ := hp
        have hT := hT.symm
        subst hT
        obtain ⟨ob6, d6, hd6, hy6⟩ := hp5
        obtain rfl : b4 = lv i := kfind (hRq.2.1 i hiq).2.1 hd6 hy6 hi (by omega)
        refine va_castS hx hb F.2.2.2.1 (F.2.2.2.2 _ kw_272) (hK.1 3 _ rfl).2 (rr_Line hK hP ob6) dX5_reopenInAisle_21 ?_
        refine lv_astore_n (lv' := [(3, .ref (lv i)), (2, .int xi), (0, .ref (z 0)), (1, .ref (z (2 + j)))]) hx hb dX5_reopenInAisle_24 rfl hl (by decide) rfl (fun ls hl => ?_)
        refine lv_aload_n hx hb dX5_reopenInAisle_25 rfl (lv_at hl 0 rfl) ?_
        refine rs_Line_article (b := av ((q_re (q_PA j) i q) 21 i)) F hK hP ob6 ((hRq.2.1 i hiq).2.2.1) kw_325 dX5_reopenInAisle_26 ?_
        refine rs_Article_aisle (b := z (2 + (q_re (q_PA j) i q) 10 ((q_re (q_PA j) i q) 21 i))) F hK hP (hRq.1 _ (hRq.2.1 i hiq).2.2.2.1).1 ((hRq.1 ((q_re (q_PA j) i q) 21 i) (hRq.2.1 i hiq).2.2.2.1).2.2.1) kw_369 dX5_reopenInAisle_29 ?_
        refine lv_aload_n hx hb dX5_reopenInAisle_32 rfl (lv_at hl 3 rfl) ?_
        refine lv_acmp_ne (rx := (some (z (2 + (q_re (q_PA j) i q) 10 ((q_re (q_PA j) i q) 21 i))))) (ry := (some (z (2 + j)))) (tgt := 52) hx hb dX5_reopenInAisle_33 (by decide) (fun c7 => ?_) (fun c7 => ?_)
        · obtain ⟨x8, ex8⟩ : ∃ y : Int32, y = xi + 1 := ⟨_, rfl⟩
          refine lv_iinc (v := x8) (lv' := [(2, .int x8), (3, .ref (lv i)), (0, .ref (z 0)), (1, .ref (z (2 + j)))]) hx hb dX5_reopenInAisle_52 hl (k := 1) rfl (by rw [ex8]; rfl) (by decide) rfl (fun ls hl => ?_)
          refine lv_goto (tgt := 2) hx hb dX5_reopenInAisle_55 (by decide) ?_
          exact ih _ (i + 1) x8  H locs ls hP hD hS (lv_sub hl [0, 2, 3] rfl) (by omega) hKp (by rw [q_re_f (fun h => (fun e => c7 (congrArg (fun y => some (z (2 + y))) e)) (of_decide_eq_true h).1)]; exact hRq) (by rw [ex8, hi]; exact nI_1 i) him
        · refine lv_aload_n hx hb dX5_reopenInAisle_36 rfl (lv_at hl 0 rfl) ?_
          refine rg_Line_state F hK hP ob6 kw_267 dX5_reopenInAisle_37 ?_
          refine lv_topi (fun x9 ex9 => ?_)
          refine lv_bipush (v := 112) hx hb dX5_reopenInAisle_40 (by decide) ?_
          refine lv_icmp_ne (tgt := 52) hx hb dX5_reopenInAisle_42 (by decide) (fun c10 => ?_) (fun c10 => ?_)
          · obtain ⟨x11, ex11⟩ : ∃ y : Int32, y = xi + 1 := ⟨_, rfl⟩
            refine lv_iinc (v := x11) (lv' := [(2, .int x11), (3, .ref (lv i)), (0, .ref (z 0)), (1, .ref (z (2 + j)))]) hx hb dX5_reopenInAisle_52 hl (k := 1) rfl (by rw [ex11]; rfl) (by decide) rfl (fun ls hl => ?_)
            refine lv_goto (tgt := 2) hx hb dX5_reopenInAisle_55 (by decide) ?_
            exact ih _ (i + 1) x11  H locs ls hP hD hS (lv_sub hl [0, 2, 3] rfl) (by omega) hKp (by rw [q_re_f (fun h => c10 ((ex9.trans ((hRq.2.1 i hiq).2.2.2.2.2.2 24 (by decide))).trans (by rw [(of_decide_eq_true h).2]; rfl)))]; exact hRq) (by rw [ex11, hi]; exact nI_1 i) him
          · have hVi : q_V (q_re (q_PA j) i q) := q_re_V hV hin q_PA_p
            have hroom : (q_re (q_PA j) i q) 42 0 < 516 := Nat.lt_of_le_of_lt (q_room hVi.1 hVi.2.2.2.1 hVi.2.2.2.2.1) (by decide)
            have h24 : (q_re (q_PA j) i q) 24 i < 65536 := by have := (hVi.2.2.1 i hiq).1; omega
            have hst : (q_re (q_PA j) i q) 24 i = 112 := nI_inj (b := 112) (by omega) (by decide) ((ex9.trans ((hRq.2.1 i hiq).2.2.2.2.2.2 24 (by decide))).symm.trans c10)
            have hpp : (q_re (q_PA j) i q) 24 i = 112 → (q_re (q_PA j) i q) 23 i ≤ (q_re (q_PA j) i q) 14 ((q_re (q_PA j) i q) 21 i) ∧ q_st 117 ≠ 112 := fun h => ⟨k14v hVi hiq h, by decide⟩
            refine lv_aload_n hx hb dX5_reopenInAisle_45 rfl (lv_at hl 2 rfl) ?_
            refine lv_aload_n hx hb dX5_reopenInAisle_46 rfl (lv_at hl 0 rfl) ?_
            refine lv_bipush (v := 117) hx hb dX5_reopenInAisle_47 (by decide) ?_
            refine kcallU (kV (n := 2) (As := [.ref (lv i), .int 117]) (rest := []) (b := (z 0)) (C := RX5) F hE hK hP hD hS hA (c_X5_scan_x l hl0 g e0 z T0 _ (hI.keep hKp.1) av lv (q_re (q_PA j) i q) hRq i 117 hiq 117 (rfl : (117 : Int32) = nI 117) (by decide) ⟨rfl, rfl⟩ hroom h24 hpp) (rr_Pickwave hK hP ((hI.keep hKp.1).1.1 0 (by decide))) kw_321 kw_322 kw_323 kw_2 kw_324 (by decide +kernel) ⟨Nat.le_of_ble_eq_true rfl, Nat.le_of_ble_eq_true rfl⟩ rfl hl.1 rfl (Nat.le_of_ble_eq_true rfl) dX5_reopenInAisle_49 ⟨Nat.le_of_ble_eq_true rfl, Nat.le_of_ble_eq_true rfl⟩) rfl hD hS hA (fun _ _ _ _ _ h => False.elim h) (fun T12 H locs hp hP hD hS => ?_)
            obtain ⟨hk13, hr13⟩ := hp
            have N13 : Kp z T0 T12 := hk13
            have K13 : Kp z S T12 := Kp.trans hKp N13
            have I13 : Inv z e0 T12 := hI.keep K13.1
            have o14 : Ob T12 0 (z (2 + j)) := N13.1.ob ((hI.keep hKp.1).oa hj)
            have o15 : Ob T12 2 (lv i) := N13.1.ob ob6
            have o16 : Ob T12 1 (av ((q_re (q_PA j) i q) 21 i)) := N13.1.ob (hRq.1 _ (hRq.2.1 i hiq).2.2.2.1).1
            have o17 : Ob T12 0 (z (2 + (q_re (q_PA j) i q) 10 ((q_re (q_PA j) i q) 21 i))) := N13.1.ob ((hI.keep hKp.1).oa (hRq.1 ((q_re (q_PA j) i q) 21 i) (hRq.2.1 i hiq).2.2.2.1).2.2.2.1)
            obtain ⟨x18, ex18⟩ : ∃ y : Int32, y = xi + 1 := ⟨_, rfl⟩
            refine lv_iinc (v := x18) (lv' := [(2, .int x18), (3, .ref (lv i)), (0, .ref (z 0)), (1, .ref (z (2 + j)))]) hx hb dX5_reopenInAisle_52 hl (k := 1) rfl (by rw [ex18]; rfl) (by decide) rfl (fun ls hl => ?_)
            refine lv_goto (tgt := 2) hx hb dX5_reopenInAisle_55 (by decide) ?_
            exact ih _ (i + 1) x18  H locs ls hP hD hS (lv_sub hl [0, 2, 3] rfl) (by omega) K13 (by rw [q_re_t (decide_eq_true ⟨(by have h9 := hI.1.2 _ _ (by have := (hRq.1 _ (hRq.2.1 i hiq).2.2.2.1).2.2.2.1; omega) (by omega) (Option.some.inj c7); omega), hst⟩)]; exact hr13) (by rw [ex18, hi]; exact nI_1 i) him
  exact loop 13 _ 0 0  _ _ _ hP hD hS (lv_sub hl [0, 1, 2] rfl) (by omega) hI.kp hR rfl (Nat.zero_le _)
set_option maxHeartbeats 4000000 in
set_option maxRecDepth 100000 in
theorem c_X5_reopenOfArticle_x (l : Launch) (hl0 : l.stackTraces = false) (g : kG) (e0 : Nat) (z : Nat → Nat) (S : wPS) (sz : Nat) (hI : Inv z e0 S) (av lv : Nat → Nat) (q : qS) (hR : Rq z av lv S q) (hV : q_V q) (a : Nat) (ha : a < q 72 0) : kM l g e0 yX5_reopenOfArticle cX5_reopenOfArticle 4 none 3 64 0 0 [.ref (z 0), .ref (av a)] S sz (pU (fun T => Kp z S T ∧ Rq z av lv T (q_re (q_PI a) (q 73 0) q))) (fun E => False) := by
  refine kM.of (by decide) (Nat.le_of_ble_eq_true rfl) ?_
  intro p e s m below meth c ls B hin
  obtain ⟨F, hr, hlk, hte, hP, hK, hD, hE, hS, hA, hl, hsz⟩ := B
  subst hsz
  have hx := F.1
  have hb := F.2.1
  have hl : lv_has ls 4 [(0, .ref (z 0)), (1, .ref (av a))] := hl
  obtain ⟨m1, hm1, hL1⟩ := hI.lines
  have h12 : q 73 0 ≤ 12 := hV.1.2.1
  obtain rfl : m1 = q 73 0 := nI_inj (by omega) (by omega) (hL1.1.symm.trans hR.2.2.2.1.2)
  refine lv_iconst (v := 0) hx hb dX5_reopenOfArticle_0 (by decide) ?_
  refine lv_istore_n (lv' := [(2, .int 0), (0, .ref (z 0)), (1, .ref (av a))]) hx hb dX5_reopenOfArticle_1 rfl hl (by decide) rfl (fun ls hl => ?_)
  have loop : ∀ (fu : Nat) (T0 : wPS) (i : Nat) (xi : Int32) (H : Heap) (locs : List Loc) (ls : Array Slot), va_P (kD g) vwCl (kW g T0) H → va_D (kA (pL S) s.heap.size) (kW g T0) → va_S (kA (pL S) s.heap.size) s.heap H locs → lv_has ls 4 [(2, .int xi), (0, .ref (z 0)), (1, .ref (av a))] → q 73 0 - i < fu → (Kp z S T0) → (Rq z av lv T0 (q_re (q_PI a) i q)) → (xi = nI i) → (i ≤ q 73 0) → W p l e ({ frames := 3, cells := 0, slots := 0, locals := 64 }) s m ([.ref (z 0), .ref (av a)] : List Value).toArray below meth c H locs 0 0 (vx_MQ below (kQ g S s.heap.size (pU (fun T => Kp z S T ∧ Rq z av lv T (q_re (q_PI a) (q 73 0) q)))) (kX g S s.heap.size (fun E => False)) ([.ref (z 0), .ref (av a)] : List Value).toArray s 0 0 (kA (pL S) s.heap.size)) (F0 m 2 ls []) := by
    intro fu
    induction fu with
    | zero => intro T0 i xi H locs ls hP hD hS hl hn hKp hRq hi hin; exact absurd hn (Nat.not_lt_zero _)
    | succ fu ih =>
      intro T0 i xi H locs ls hP hD hS hl hn hKp hRq hi hin
      have hLT : LI T0 e0 (z 11) 2 (q 73 0) := LI.keep hKp.1 hL1
      refine lv_iload_n hx hb dX5_reopenOfArticle_2 rfl (lv_at hl 0 rfl) ?_
      refine lv_aload_n hx hb dX5_reopenOfArticle_3 rfl (lv_at hl 1 rfl) ?_
      refine rs_Pickwave_lines (b := z 11) F hK hP ((hI.keep hKp.1).1.1 0 (by decide)) ((hI.keep hKp.1).2.1.2.2.2.2.1) kw_24 dX5_reopenOfArticle_4 ?_
      refine kcallI (kV (n := 0) (As := []) (rest := [.int xi]) (b := (z 11)) (C := RJx4a65c) F hE hK hP hD hS hA (c_Jx4a65c_size_8abf5 l hl0 g e0 T0 _ (z 11) ((hI.keep hKp.1).1.1 11 (by decide))) (rr_ArrayList hK hP ((hI.keep hKp.1).1.1 11 (by decide))) kw_90 kw_91 kw_92 kw_22 kw_93 (by decide +kernel) ⟨Nat.le_of_ble_eq_true rfl, Nat.le_of_ble_eq_true rfl⟩ rfl hl.1 rfl (Nat.le_of_ble_eq_true rfl) dX5_reopenOfArticle_7 ⟨Nat.le_of_ble_eq_true rfl, Nat.le_of_ble_eq_true rfl⟩) rfl hD hS hA (fun _ _ _ _ _ h => False.elim h) (fun r1 T1 H locs hp hP hD hS => ?_)
      obtain ⟨hT, hp2⟩ := hp
      have hT := hT.symm
      subst hT
      refine lv_icmp_ge (tgt := 55) hx hb dX5_reopenOfArticle_10 (by decide) (fun c3 => ?_) (fun c3 => ?_)
      · have hiM : i = q 73 0 := kend hin h12 hi (hp2.trans hRq.2.2.2.1.2) (q_re_o (by decide)) c3
        exact kEndV F hr hlk hP hD hS (Nat.le_of_ble_eq_true rfl) (Nat.le_of_ble_eq_true rfl) dX5_reopenOfArticle_55 ⟨rfl, ⟨hKp, by rw [← hiM]; exact hRq⟩⟩
      · obtain ⟨him, hx0, hx1⟩ := klp hLT ⟨h12, hin⟩ hi hp2 c3
        have hiq : i < (q_re (q_PI a) i q) 73 0 := by rw [q_re_o (by decide)]; exact him
        refine lv_aload_n hx hb dX5_reopenOfArticle_13 rfl (lv_at hl 1 rfl) ?_
        refine rs_Pickwave_lines (b := z 11) F hK hP ((hI.keep hKp.1).1.1 0 (by decide)) ((hI.keep hKp.1).2.1.2.2.2.2.1) kw_24 dX5_reopenOfArticle_14 ?_
        refine lv_iload_n hx hb dX5_reopenOfArticle_17 rfl (lv_at hl 0 rfl) ?_
        refine kcallR (kV (n := 1) (As := [.int xi]) (rest := []) (b := (z 11)) (C := RJx4a65c) F hE hK hP hD hS hA (c_Jx4a65c_get_915e3 l hl0 g e0 T0 _ (z 11) 2 _ xi ((hI.keep hKp.1).1.1 11 (by decide)) hLT hx0 hx1 (by omega)) (rr_ArrayList hK hP ((hI.keep hKp.1).1.1 11 (by decide))) kw_204 kw_205 kw_206 kw_22 kw_207 (by decide +kernel) ⟨Nat.le_of_ble_eq_true rfl, Nat.le_of_ble_eq_true rfl⟩ rfl hl.1 rfl (Nat.le_of_ble_eq_true rfl) dX5_reopenOfArticle_18 ⟨Nat.le_of_ble_eq_true rfl, Nat.le_of_ble_eq_true rfl⟩) rfl hD hS hA (fun _ _ _ _ _ h => False.elim h) (fun b4 T4 H locs hp hP hD hS => ?_)
        obtain ⟨hT, hp5⟩ := hp
        have hT := hT.symm
        subst hT
        obtain ⟨ob6, d6, hd6, hy6⟩ := hp5
        obtain rfl : b4 = lv i := kfind (hRq.2.1 i hiq).2.1 hd6 hy6 hi (by omega)
        refine va_castS hx hb F.2.2.2.1 (F.2.2.2.2 _ kw_272) (hK.1 3 _ rfl).2 (rr_Line hK hP ob6) dX5_reopenOfArticle_21 ?_
        refine lv_astore_n (lv' := [(3, .ref (lv i)), (2, .int xi), (0, .ref (z 0)), (1, .ref (av a))]) hx hb dX5_reopenOfArticle_24 rfl hl (by decide) rfl (fun ls hl => ?_)
        refine lv_aload_n hx hb dX5_reopenOfArticle_25 rfl (lv_at hl 0 rfl) ?_
        refine rs_Line_article (b := av ((q_re (q_PI a) i q) 21 i)) F hK hP ob6 ((hRq.2.1 i hiq).2.2.1) kw_325 dX5_reopenOfArticle_26 ?_
        refine lv_aload_n hx hb dX5_reopenOfArticle_29 rfl (lv_at hl 3 rfl) ?_
        refine lv_acmp_ne (rx := (some (av ((q_re (q_PI a) i q) 21 i)))) (ry := (some (av a))) (tgt := 49) hx hb dX5_reopenOfArticle_30 (by decide) (fun c7 => ?_) (fun c7 => ?_)
        · obtain ⟨x8, ex8⟩ : ∃ y : Int32, y = xi + 1 := ⟨_, rfl⟩
          refine lv_iinc (v := x8) (lv' := [(2, .int x8), (3, .ref (lv i)), (0, .ref (z 0)), (1, .ref (av a))]) hx hb dX5_reopenOfArticle_49 hl (k := 1) rfl (by rw [ex8]; rfl) (by decide) rfl (fun ls hl => ?_)
          refine lv_goto (tgt := 2) hx hb dX5_reopenOfArticle_52 (by decide) ?_
          exact ih _ (i + 1) x8  H locs ls hP hD hS (lv_sub hl [0, 2, 3] rfl) (by omega) hKp (by rw [q_re_f (fun h => (fun e => c7 (congrArg (fun y => some (av y)) e)) (of_decide_eq_true h).1)]; exact hRq) (by rw [ex8, hi]; exact nI_1 i) him
        · refine lv_aload_n hx hb dX5_reopenOfArticle_33 rfl (lv_at hl 0 rfl) ?_
          refine rg_Line_state F hK hP ob6 kw_267 dX5_reopenOfArticle_34 ?_
          refine lv_topi (fun x9 ex9 => ?_)
          refine lv_bipush (v := 112) hx hb dX5_reopenOfArticle_37 (by decide) ?_
          refine lv_icmp_ne (tgt := 49) hx hb dX5_reopenOfArticle_39 (by decide) (fun c10 => ?_) (fun c10 => ?_)
          · obtain ⟨x11, ex11⟩ : ∃ y : Int32, y = xi + 1 := ⟨_, rfl⟩
            refine lv_iinc (v := x11) (lv' := [(2, .int x11), (3, .ref (lv i)), (0, .ref (z 0)), (1, .ref (av a))]) hx hb dX5_reopenOfArticle_49 hl (k := 1) rfl (by rw [ex11]; rfl) (by decide) rfl (fun ls hl => ?_)
            refine lv_goto (tgt := 2) hx hb dX5_reopenOfArticle_52 (by decide) ?_
            exact ih _ (i + 1) x11  H locs ls hP hD hS (lv_sub hl [0, 2, 3] rfl) (by omega) hKp (by rw [q_re_f (fun h => c10 ((ex9.trans ((hRq.2.1 i hiq).2.2.2.2.2.2 24 (by decide))).trans (by rw [(of_decide_eq_true h).2]; rfl)))]; exact hRq) (by rw [ex11, hi]; exact nI_1 i) him
          · have hVi : q_V (q_re (q_PI a) i q) := q_re_V hV hin q_PI_p
            have hroom : (q_re (q_PI a) i q) 42 0 < 516 := Nat.lt_of_le_of_lt (q_room hVi.1 hVi.2.2.2.1 hVi.2.2.2.2.1) (by decide)
            have h24 : (q_re (q_PI a) i q) 24 i < 65536 := by have := (hVi.2.2.1 i hiq).1; omega
            have hst : (q_re (q_PI a) i q) 24 i = 112 := nI_inj (b := 112) (by omega) (by decide) ((ex9.trans ((hRq.2.1 i hiq).2.2.2.2.2.2 24 (by decide))).symm.trans c10)
            have hpp : (q_re (q_PI a) i q) 24 i = 112 → (q_re (q_PI a) i q) 23 i ≤ (q_re (q_PI a) i q) 14 ((q_re (q_PI a) i q) 21 i) ∧ q_st 117 ≠ 112 := fun h => ⟨k14v hVi hiq h, by decide⟩
            refine lv_aload_n hx hb dX5_reopenOfArticle_42 rfl (lv_at hl 2 rfl) ?_
            refine lv_aload_n hx hb dX5_reopenOfArticle_43 rfl (lv_at hl 0 rfl) ?_
            refine lv_bipush (v := 117) hx hb dX5_reopenOfArticle_44 (by decide) ?_
            refine kcallU (kV (n := 2) (As := [.ref (lv i), .int 117]) (rest := []) (b := (z 0)) (C := RX5) F hE hK hP hD hS hA (c_X5_scan_x l hl0 g e0 z T0 _ (hI.keep hKp.1) av lv (q_re (q_PI a) i q) hRq i 117 hiq 117 (rfl : (117 : Int32) = nI 117) (by decide) ⟨rfl, rfl⟩ hroom h24 hpp) (rr_Pickwave hK hP ((hI.keep hKp.1).1.1 0 (by decide))) kw_321 kw_322 kw_323 kw_2 kw_324 (by decide +kernel) ⟨Nat.le_of_ble_eq_true rfl, Nat.le_of_ble_eq_true rfl⟩ rfl hl.1 rfl (Nat.le_of_ble_eq_true rfl) dX5_reopenOfArticle_46 ⟨Nat.le_of_ble_eq_true rfl, Nat.le_of_ble_eq_true rfl⟩) rfl hD hS hA (fun _ _ _ _ _ h => False.elim h) (fun T12 H locs hp hP hD hS => ?_)
            obtain ⟨hk13, hr13⟩ := hp
            have N13 : Kp z T0 T12 := hk13
            have K13 : Kp z S T12 := Kp.trans hKp N13
            have I13 : Inv z e0 T12 := hI.keep K13.1
            have o14 : Ob T12 1 (av a) := N13.1.ob (hRq.1 a (by rw [q_re_o (by decide)]; exact ha)).1
            have o15 : Ob T12 2 (lv i) := N13.1.ob ob6
            have o16 : Ob T12 1 (av ((q_re (q_PI a) i q) 21 i)) := N13.1.ob (hRq.1 _ (hRq.2.1 i hiq).2.2.2.1).1
            obtain ⟨x17, ex17⟩ : ∃ y : Int32, y = xi + 1 := ⟨_, rfl⟩
            refine lv_iinc (v := x17) (lv' := [(2, .int x17), (3, .ref (lv i)), (0, .ref (z 0)), (1, .ref (av a))]) hx hb dX5_reopenOfArticle_49 hl (k := 1) rfl (by rw [ex17]; rfl) (by decide) rfl (fun ls hl => ?_)
            refine lv_goto (tgt := 2) hx hb dX5_reopenOfArticle_52 (by decide) ?_
            exact ih _ (i + 1) x17  H locs ls hP hD hS (lv_sub hl [0, 2, 3] rfl) (by omega) K13 (by rw [q_re_t (decide_eq_true ⟨(hRq.2.2.1.1 _ _ (hRq.2.1 i hiq).2.2.2.1 (by rw [q_re_o (by decide)]; exact ha) (Option.some.inj c7)), hst⟩)]; exact hr13) (by rw [ex17, hi]; exact nI_1 i) him
  exact loop 13 _ 0 0  _ _ _ hP hD hS (lv_sub hl [0, 1, 2] rfl) (by omega) hI.kp hR rfl (Nat.zero_le _)
