theorem kleI {m : Nat} {x y : Int32} (hy : y = nI m) (hm : m < 2 ^ 20) (h0 : ¬ x < 0) (h1 : ¬ y < x) : ∃ f, f ≤ m ∧ x = nI f := by
  subst hy
  obtain ⟨j, hj, hx⟩ := kixlt (n := x) (M := nI (m + 1)) (N := m + 1) rfl (by omega) h0 (Int32.lt_of_le_of_lt (Int32.not_lt.mp h1) (nI_lt (Nat.lt_succ_self m) (by omega)))
  exact ⟨j, Nat.le_of_lt_succ hj, hx⟩
set_option maxHeartbeats 4000000 in
set_option maxRecDepth 100000 in
theorem c_X5_pick_x (l : Launch) (hl0 : l.stackTraces = false) (g : kG) (e0 : Nat) (z : Nat → Nat) (S : wPS) (sz : Nat) (hI : Inv z e0 S) (av lv : Nat → Nat) (q : qS) (hR : Rq z av lv S q) (hW : q_W q) (n fo : Int32) : kM l g e0 yX5_pick cX5_pick 4 (some .int) 9 203 3 27 [.ref (z 0), .int n, .int fo] S sz (pI (fun r T => Inv z e0 T ∧ ∃ i f, i < q 73 0 ∧ n = nI i ∧ fo = nI f ∧ f ≤ q 23 i ∧ q 24 i = 112 ∧ ((f = q 23 i ∧ r = -1 ∧ Rq z av lv T (q_pickA i q)) ∨ (f < q 23 i ∧ q 73 0 < 12 ∧ r = nI (q 73 0) ∧ ∃ x, Rq z av (lvu lv (q 73 0) x) T (q_split i f q))))) (fun E => E = xI ∨ E = xA ∨ E = xU ∨ E = xS) := by
  refine kM.of (by decide) (Nat.le_of_ble_eq_true rfl) ?_
  intro p e s m below meth c ls B hin
  obtain ⟨F, hr, hlk, hte, hP, hK, hD, hE, hS, hA, hl, hsz⟩ := B
  subst hsz
  have hx := F.1
  have hb := F.2.1
  have hl : lv_has ls 4 [(0, .ref (z 0)), (1, .int n), (2, .int fo)] := hl
  have h12 : q 73 0 ≤ 12 := hW.1.1.2.1
  refine lv_aload_n hx hb dX5_pick_0 rfl (lv_at hl 0 rfl) ?_
  refine lv_iload_n hx hb dX5_pick_1 rfl (lv_at hl 1 rfl) ?_
  refine kcallR (kV (n := 1) (As := [.int n]) (rest := []) (b := (z 0)) (C := RX5) F hE hK hP hD hS hA (c_X5_findLine_x l hl0 g e0 z S _ hI av lv q hR h12 n) (rr_Pickwave hK hP (hI.1.1 0 (by decide))) kw_268 kw_269 kw_270 kw_2 kw_271 (by decide +kernel) ⟨Nat.le_of_ble_eq_true rfl, Nat.le_of_ble_eq_true rfl⟩ rfl hl.1 rfl (Nat.le_of_ble_eq_true rfl) dX5_pick_2 ⟨Nat.le_of_ble_eq_true rfl, Nat.le_of_ble_eq_true rfl⟩) rfl hD hS hA (fun E ce q9 H1 locs1 hex hP1 hS1 hce hcv hcl => kthru hte hlk (Or.inl hex.1) hP1 hS1 hce hcv hcl (Nat.le_of_ble_eq_true rfl) (Nat.le_of_ble_eq_true rfl)) (fun b1 T1 H locs hp hP hD hS => ?_)
  obtain ⟨hT, hp2⟩ := hp
  have hT := hT.symm
  subst hT
  obtain ⟨i3, hi3, hn3, rfl⟩ := hp2
  have h4a := hW.1.2.2.1 i3 hi3
  refine lv_astore_n (lv' := [(3, .ref (lv i3)), (0, .ref (z 0)), (1, .int n), (2, .int fo)]) hx hb dX5_pick_5 rfl hl (by decide) rfl (fun ls hl => ?_)
  refine lv_iload_n hx hb dX5_pick_6 rfl (lv_at hl 3 rfl) ?_
  refine lv_iconst (v := 0) hx hb dX5_pick_7 (by decide) ?_
  refine lv_aload_n hx hb dX5_pick_8 rfl (lv_at hl 0 rfl) ?_
  refine rg_Line_amount F hK hP (hR.2.1 i3 hi3).1 kw_280 dX5_pick_9 ?_
  refine lv_topi (fun x4 ex4 => ?_)
  refine kcallI (kSt (n := 3) (As := [.int fo, .int 0, .int x4]) (rest := []) F hE hK hP hD hS hA (c_X5_isBetween l hl0 g e0 S _ fo 0 x4) kw_87 kw_88 kw_2 kw_89 (by decide +kernel) ⟨Nat.le_of_ble_eq_true rfl, Nat.le_of_ble_eq_true rfl⟩ rfl hl.1 rfl (Nat.le_of_ble_eq_true rfl) dX5_pick_12 ⟨Nat.le_of_ble_eq_true rfl, Nat.le_of_ble_eq_true rfl⟩) rfl hD hS hA (fun _ _ _ _ _ h => False.elim h) (fun r5 T5 H locs hp hP hD hS => ?_)
  obtain ⟨hT, hp6⟩ := hp
  have hT := hT.symm
  subst hT
  refine lv_if_ne (tgt := 28) hx hb dX5_pick_15 (by decide) (fun c7 => ?_) (fun c7 => ?_)
  · have h_v := (show _ ∧ _ from by rcases hp6 with ⟨-, h1, h2⟩ | ⟨h, -⟩; exact ⟨h1, h2⟩; exact absurd c7 (by rw [h]; decide))
    obtain ⟨f, hfl, hfo⟩ := kleI (show x4 = nI (q 23 i3) from (ex4.trans ((hR.2.1 i3 hi3).2.2.2.2.2.2 23 (by decide)))) (by omega) h_v.1 h_v.2
    refine lv_aload_n hx hb dX5_pick_28 rfl (lv_at hl 0 rfl) ?_
    refine rs_Line_article (b := av (q 21 i3)) F hK hP (hR.2.1 i3 hi3).1 ((hR.2.1 i3 hi3).2.2.1) kw_325 dX5_pick_29 ?_
    refine rs_Article_aisle (b := z (2 + q 10 (q 21 i3))) F hK hP (hR.1 _ (hR.2.1 i3 hi3).2.2.2.1).1 ((hR.1 (q 21 i3) (hR.2.1 i3 hi3).2.2.2.1).2.2.1) kw_369 dX5_pick_32 ?_
    refine rg_Aisle_blocked F hK hP (hI.oa (hR.1 (q 21 i3) (hR.2.1 i3 hi3).2.2.2.1).2.2.2.1) kw_360 dX5_pick_35 ?_
    refine lv_topi (fun x8 ex8 => ?_)
    refine lv_if_eq (tgt := 51) hx hb dX5_pick_38 (by decide) (fun c9 => ?_) (fun c9 => ?_)
    · refine lv_aload_n hx hb dX5_pick_51 rfl (lv_at hl 0 rfl) ?_
      refine rg_Line_state F hK hP (hR.2.1 i3 hi3).1 kw_267 dX5_pick_52 ?_
      refine lv_topi (fun x10 ex10 => ?_)
      refine lv_bipush (v := 112) hx hb dX5_pick_55 (by decide) ?_
      refine lv_icmp_eq (tgt := 70) hx hb dX5_pick_57 (by decide) (fun c11 => ?_) (fun c11 => ?_)
      · have hp : q 24 i3 = 112 := nI_inj (b := 112) (by omega) (by decide) ((show x10 = nI (q 24 i3) from (ex10.trans ((hR.2.1 i3 hi3).2.2.2.2.2.2 24 (by decide)))).symm.trans c11)
        refine lv_iload_n hx hb dX5_pick_70 rfl (lv_at hl 3 rfl) ?_
        refine lv_aload_n hx hb dX5_pick_71 rfl (lv_at hl 0 rfl) ?_
        refine rg_Line_amount F hK hP (hR.2.1 i3 hi3).1 kw_280 dX5_pick_72 ?_
        refine lv_topi (fun x12 ex12 => ?_)
        refine lv_icmp_ne (tgt := 100) hx hb dX5_pick_75 (by decide) (fun c13 => ?_) (fun c13 => ?_)
        · have hf : f < q 23 i3 := Nat.lt_of_le_of_ne hfl (fun h => c13 (hfo.trans ((congrArg nI h).trans (show x12 = nI (q 23 i3) from (ex12.trans ((hR.2.1 i3 hi3).2.2.2.2.2.2 23 (by decide)))).symm)))
          refine lv_aload_n hx hb dX5_pick_100 rfl (lv_at hl 1 rfl) ?_
          refine rs_Pickwave_lines (b := z 11) F hK hP (hI.1.1 0 (by decide)) hI.2.1.2.2.2.2.1 kw_24 dX5_pick_101 ?_
          refine kcallI (kV (n := 0) (As := []) (rest := []) (b := (z 11)) (C := RJx4a65c) F hE hK hP hD hS hA (c_Jx4a65c_size_8abf5 l hl0 g e0 S _ (z 11) (hI.1.1 11 (by decide))) (rr_ArrayList hK hP (hI.1.1 11 (by decide))) kw_90 kw_91 kw_92 kw_22 kw_93 (by decide +kernel) ⟨Nat.le_of_ble_eq_true rfl, Nat.le_of_ble_eq_true rfl⟩ rfl hl.1 rfl (Nat.le_of_ble_eq_true rfl) dX5_pick_104 ⟨Nat.le_of_ble_eq_true rfl, Nat.le_of_ble_eq_true rfl⟩) rfl hD hS hA (fun _ _ _ _ _ h => False.elim h) (fun r14 T14 H locs hp hP hD hS => ?_)
          obtain ⟨hT, hp15⟩ := hp
          have hT := hT.symm
          subst hT
          refine lv_bipush (v := 12) hx hb dX5_pick_107 (by decide) ?_
          refine lv_icmp_lt (tgt := 122) hx hb dX5_pick_109 (by decide) (fun c16 => ?_) (fun c16 => ?_)
          · have h73l : q 73 0 < 12 := kgeI (N := 12) (hp15.trans hR.2.2.2.1.2) (by omega) c16
            refine lv_aload_n hx hb dX5_pick_122 rfl (lv_at hl 1 rfl) ?_
            refine lv_aload_n hx hb dX5_pick_123 rfl (lv_at hl 0 rfl) ?_
            refine lv_iload_n hx hb dX5_pick_124 rfl (lv_at hl 3 rfl) ?_
            refine kcallI (kV (n := 2) (As := [.ref (lv i3), .int fo]) (rest := []) (b := (z 0)) (C := RX5) F hE hK hP hD hS hA (c_X5_split_x l hl0 g e0 z S _ hI av lv q hR hW i3 f hi3 fo hfo hp hf h73l) (rr_Pickwave hK hP (hI.1.1 0 (by decide))) kw_406 kw_407 kw_408 kw_2 kw_409 (by decide +kernel) ⟨Nat.le_of_ble_eq_true rfl, Nat.le_of_ble_eq_true rfl⟩ rfl hl.1 rfl (Nat.le_of_ble_eq_true rfl) dX5_pick_125 ⟨Nat.le_of_ble_eq_true rfl, Nat.le_of_ble_eq_true rfl⟩) rfl hD hS hA (fun _ _ _ _ _ h => False.elim h) (fun r17 T17 H locs hp hP hD hS => ?_)
            obtain ⟨I18, hx18, hv18⟩ := hp
            exact kEndI F hr rfl hlk hP hD hS (Nat.le_of_ble_eq_true rfl) (Nat.le_of_ble_eq_true rfl) dX5_pick_128 ⟨_, rfl, ⟨I18, i3, f, hi3, hn3, hfo, hfl, hp, Or.inr ⟨hf, h73l, hv18, hx18⟩⟩⟩
          · exact kth_ISE hl0 F hE hlk hte hP hS hl.1 (List.mem_of_getElem? (i := 10) rfl) dX5_pick_112 dX5_pick_115 dX5_pick_116 dX5_pick_118 dX5_pick_121 ⟨Nat.le_of_ble_eq_true rfl, Nat.le_of_ble_eq_true rfl, Nat.le_of_ble_eq_true rfl, Nat.le_of_ble_eq_true rfl⟩ (Nat.le_of_ble_eq_true rfl) (Nat.le_of_ble_eq_true rfl) (Or.inr (Or.inr (Or.inr rfl)))
        · have hfe : f = q 23 i3 := nI_inj (by omega) (by omega) (hfo.symm.trans (c13.trans (show x12 = nI (q 23 i3) from (ex12.trans ((hR.2.1 i3 hi3).2.2.2.2.2.2 23 (by decide))))))
          have hroom : q 42 0 < 516 := Nat.lt_of_le_of_lt (q_room hW.1.1 hW.1.2.2.2.1 hW.1.2.2.2.2.1) (by decide)
          have h24 : q 24 i3 < 65536 := by omega
          have hpp : q 24 i3 = 112 → q 23 i3 ≤ q 14 (q 21 i3) ∧ q_st 107 ≠ 112 := fun h => ⟨k14 hW hi3 h, by decide⟩
          have hs12 : f ≤ q 12 (q 21 i3) := by have h8 := k14 hW hi3 hp; have h9 := (hW.2.1 _ (hR.2.1 i3 hi3).2.2.2.1).1; omega
          refine lv_aload_n hx hb dX5_pick_78 rfl (lv_at hl 1 rfl) ?_
          refine lv_aload_n hx hb dX5_pick_79 rfl (lv_at hl 0 rfl) ?_
          refine lv_bipush (v := 107) hx hb dX5_pick_80 (by decide) ?_
          refine kcallU (kV (n := 2) (As := [.ref (lv i3), .int 107]) (rest := []) (b := (z 0)) (C := RX5) F hE hK hP hD hS hA (c_X5_scan_x l hl0 g e0 z S _ hI av lv q hR i3 107 hi3 107 (rfl : (107 : Int32) = nI 107) (by decide) ⟨rfl, rfl⟩ hroom h24 hpp) (rr_Pickwave hK hP (hI.1.1 0 (by decide))) kw_321 kw_322 kw_323 kw_2 kw_324 (by decide +kernel) ⟨Nat.le_of_ble_eq_true rfl, Nat.le_of_ble_eq_true rfl⟩ rfl hl.1 rfl (Nat.le_of_ble_eq_true rfl) dX5_pick_82 ⟨Nat.le_of_ble_eq_true rfl, Nat.le_of_ble_eq_true rfl⟩) rfl hD hS hA (fun _ _ _ _ _ h => False.elim h) (fun T19 H locs hp hP hD hS => ?_)
          obtain ⟨hk20, hr20⟩ := hp
          have N20 : Kp z S T19 := hk20
          have K20 : Kp z S T19 := Kp.trans hI.kp N20
          have I20 : Inv z e0 T19 := hI.keep K20.1
          have o21 : Ob T19 2 (lv i3) := N20.1.ob (hR.2.1 i3 hi3).1
          have o22 : Ob T19 1 (av (q 21 i3)) := N20.1.ob (hR.1 _ (hR.2.1 i3 hi3).2.2.2.1).1
          have o23 : Ob T19 0 (z (2 + q 10 (q 21 i3))) := N20.1.ob (hI.oa (hR.1 (q 21 i3) (hR.2.1 i3 hi3).2.2.2.1).2.2.2.1)
          refine lv_aload_n hx hb dX5_pick_85 rfl (lv_at hl 0 rfl) ?_
          refine rs_Line_article (b := av ((q_scan i3 107 q) 21 i3)) F hK hP o21 ((hr20.2.1 i3 hi3).2.2.1) kw_325 dX5_pick_86 ?_
          refine lv_dup hx hb dX5_pick_89 rfl ?_
          refine rg_Article_stock F hK hP (hr20.1 _ (hr20.2.1 i3 hi3).2.2.2.1).1 kw_196 dX5_pick_90 ?_
          refine lv_topi (fun x24 ex24 => ?_)
          refine lv_iload_n hx hb dX5_pick_93 rfl (lv_at hl 3 rfl) ?_
          refine lv_isub hx hb dX5_pick_94 ?_
          refine lv_topi (fun x25 ex25 => ?_)
          refine rp_Article_stock F hK hP hD hS (hr20.1 _ (hr20.2.1 i3 hi3).2.2.2.1).1 kw_196 dX5_pick_95 (fun H locs hP hD hS => ?_)
          have hR26 := Rq.artx (x := x25) (f := 12) (v := (((q_scan i3 107 q) 12 ((q_scan i3 107 q) 21 i3)) - f)) hr20 (hr20.2.1 i3 hi3).2.2.2.1 (by decide) (by rw [ex25, (show (x24 : Int32) = nI ((q_scan i3 107 q) 12 ((q_scan i3 107 q) 21 i3)) from (ex24.trans ((hr20.1 ((q_scan i3 107 q) 21 i3) (hr20.2.1 i3 hi3).2.2.2.1).2.2.2.2 12 (by decide)))), (show (fo : Int32) = nI f from hfo)]; exact nI_subI hs12)
          refine lv_iconst (v := (-1)) hx hb dX5_pick_98 (by decide) ?_
          exact kEndI F hr rfl hlk hP hD hS (Nat.le_of_ble_eq_true rfl) (Nat.le_of_ble_eq_true rfl) dX5_pick_99 ⟨_, rfl, ⟨hI.keep (kp_setF K20 (by decide) (by decide)).1, i3, f, hi3, hn3, hfo, hfl, hp, Or.inl ⟨hfe, rfl, by unfold q_pickA; rw [← hfe]; exact hR26⟩⟩⟩
      · exact kth_ISE hl0 F hE hlk hte hP hS hl.1 (List.mem_of_getElem? (i := 14) rfl) dX5_pick_60 dX5_pick_63 dX5_pick_64 dX5_pick_66 dX5_pick_69 ⟨Nat.le_of_ble_eq_true rfl, Nat.le_of_ble_eq_true rfl, Nat.le_of_ble_eq_true rfl, Nat.le_of_ble_eq_true rfl⟩ (Nat.le_of_ble_eq_true rfl) (Nat.le_of_ble_eq_true rfl) (Or.inr (Or.inr (Or.inr rfl)))
    · exact kth_UOE hl0 F hE hlk hte hP hS hl.1 (List.mem_of_getElem? (i := 13) rfl) dX5_pick_41 dX5_pick_44 dX5_pick_45 dX5_pick_47 dX5_pick_50 ⟨Nat.le_of_ble_eq_true rfl, Nat.le_of_ble_eq_true rfl, Nat.le_of_ble_eq_true rfl, Nat.le_of_ble_eq_true rfl⟩ (Nat.le_of_ble_eq_true rfl) (Nat.le_of_ble_eq_true rfl) (Or.inr (Or.inr (Or.inl rfl)))
  · exact kth_IAE hl0 F hE hlk hte hP hS hl.1 (List.mem_of_getElem? (i := 12) rfl) dX5_pick_18 dX5_pick_21 dX5_pick_22 dX5_pick_24 dX5_pick_27 ⟨Nat.le_of_ble_eq_true rfl, Nat.le_of_ble_eq_true rfl, Nat.le_of_ble_eq_true rfl, Nat.le_of_ble_eq_true rfl⟩ (Nat.le_of_ble_eq_true rfl) (Nat.le_of_ble_eq_true rfl) (Or.inr (Or.inl rfl))
