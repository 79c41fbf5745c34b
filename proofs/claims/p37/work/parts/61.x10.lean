theorem kgeI {m N : Nat} {x : Int32} (hx : x = nI m) (hm : m < 2 ^ 31) (c : x < nI N) : m < N := (Nat.lt_or_ge m N).elim id (fun h => absurd c (Int32.not_lt.mpr (by rw [hx]; exact nI_le h hm)))
theorem kltI {m N : Nat} {x : Int32} (hx : x = nI m) (hm : m < 2 ^ 31) (c : ¬ nI N ≤ x) : m < N := kgeI hx hm (Int32.not_le.mp c)
theorem kgt0 {m N : Nat} {x : Int32} (hx : x = nI m) (hN : N < 2 ^ 31) (c : ¬ x < nI N) : N ≤ m := (Nat.lt_or_ge m N).elim (fun h => absurd (by rw [hx]; exact nI_lt h hN) c) id
set_option maxHeartbeats 4000000 in
set_option maxRecDepth 100000 in
theorem c_X5_order_x (l : Launch) (hl0 : l.stackTraces = false) (g : kG) (e0 : Nat) (z : Nat → Nat) (S : wPS) (sz : Nat) (hI : Inv z e0 S) (av lv : Nat → Nat) (q : qS) (hR : Rq z av lv S q) (hW : q_W q) (amn can : Nat) (n am ca : Int32) (ham : am = nI amn) (hca : ca = nI can) (hab : amn < 2 ^ 31) (hcb : can < 2 ^ 31) : kM l g e0 yX5_order cX5_order 5 (some .int) 8 179 3 27 [.ref (z 0), .int n, .int am, .int ca] S sz (pI (fun r T => Inv z e0 T ∧ ∃ a, a < q 72 0 ∧ n = nI a ∧ 1 ≤ amn ∧ amn ≤ 20 ∧ can < 3 ∧ q 73 0 < 12 ∧ (∃ x, Rq z av (lvu lv (q 73 0) x) T (q_come a amn can q)) ∧ r = nI (q 73 0))) (fun E => E = xI ∨ E = xA ∨ E = xS) := by
  refine kM.of (by decide) (Nat.le_of_ble_eq_true rfl) ?_
  intro p e s m below meth c ls B hin
  obtain ⟨F, hr, hlk, hte, hP, hK, hD, hE, hS, hA, hl, hsz⟩ := B
  subst hsz
  have hx := F.1
  have hb := F.2.1
  have hl : lv_has ls 5 [(0, .ref (z 0)), (1, .int n), (2, .int am), (3, .int ca)] := hl
  have h12 : q 72 0 ≤ 12 := by have := hW.1.1.1; omega
  have h73 : q 73 0 ≤ 12 := hW.1.1.2.1
  refine lv_aload_n hx hb dX5_order_0 rfl (lv_at hl 0 rfl) ?_
  refine lv_iload_n hx hb dX5_order_1 rfl (lv_at hl 1 rfl) ?_
  refine kcallR (kV (n := 1) (As := [.int n]) (rest := []) (b := (z 0)) (C := RX5) F hE hK hP hD hS hA (c_X5_findArticle_x l hl0 g e0 z S _ hI av lv q hR h12 n) (rr_Pickwave hK hP (hI.1.1 0 (by decide))) kw_197 kw_198 kw_199 kw_2 kw_200 (by decide +kernel) ⟨Nat.le_of_ble_eq_true rfl, Nat.le_of_ble_eq_true rfl⟩ rfl hl.1 rfl (Nat.le_of_ble_eq_true rfl) dX5_order_2 ⟨Nat.le_of_ble_eq_true rfl, Nat.le_of_ble_eq_true rfl⟩) rfl hD hS hA (fun E ce q9 H1 locs1 hex hP1 hS1 hce hcv hcl => kthru hte hlk (Or.inl hex.1) hP1 hS1 hce hcv hcl (Nat.le_of_ble_eq_true rfl) (Nat.le_of_ble_eq_true rfl)) (fun b1 T1 H locs hp hP hD hS => ?_)
  obtain ⟨hT, hp2⟩ := hp
  have hT := hT.symm
  subst hT
  obtain ⟨i3, hi3, hn3, rfl⟩ := hp2
  refine lv_astore (lv' := [(4, .ref (av i3)), (0, .ref (z 0)), (1, .int n), (2, .int am), (3, .int ca)]) hx hb dX5_order_5 hl (by decide) rfl (fun ls hl => ?_)
  refine lv_iload_n hx hb dX5_order_7 rfl (lv_at hl 3 rfl) ?_
  refine lv_iconst (v := 1) hx hb dX5_order_8 (by decide) ?_
  refine lv_bipush (v := 20) hx hb dX5_order_9 (by decide) ?_
  refine kcallI (kSt (n := 3) (As := [.int am, .int 1, .int 20]) (rest := []) F hE hK hP hD hS hA (c_X5_isBetween l hl0 g e0 S _ am 1 20) kw_87 kw_88 kw_2 kw_89 (by decide +kernel) ⟨Nat.le_of_ble_eq_true rfl, Nat.le_of_ble_eq_true rfl⟩ rfl hl.1 rfl (Nat.le_of_ble_eq_true rfl) dX5_order_11 ⟨Nat.le_of_ble_eq_true rfl, Nat.le_of_ble_eq_true rfl⟩) rfl hD hS hA (fun _ _ _ _ _ h => False.elim h) (fun r4 T4 H locs hp hP hD hS => ?_)
  obtain ⟨hT, hp5⟩ := hp
  have hT := hT.symm
  subst hT
  refine lv_if_ne (tgt := 27) hx hb dX5_order_14 (by decide) (fun c6 => ?_) (fun c6 => ?_)
  · have h_v := (show _ ∧ _ from by rcases hp5 with ⟨-, h1, h2⟩ | ⟨h, -⟩; exact ⟨h1, h2⟩; exact absurd c6 (by rw [h]; decide))
    have ha1 : 1 ≤ amn := kgt0 (N := 1) ham (by decide) h_v.1
    have ha20 : amn ≤ 20 := (nI_leI hab (by decide)).mp (by rw [← ham]; exact Int32.not_lt.mp h_v.2)
    refine lv_aload_n hx hb dX5_order_27 rfl (lv_at hl 1 rfl) ?_
    refine lv_iload_n hx hb dX5_order_28 rfl (lv_at hl 4 rfl) ?_
    refine kcallI (kV (n := 1) (As := [.int ca]) (rest := []) (b := (z 0)) (C := RX5) F hE hK hP hD hS hA (c_X5_isCarrier l hl0 g e0 z S _ hI ca) (rr_Pickwave hK hP (hI.1.1 0 (by decide))) kw_299 kw_300 kw_301 kw_2 kw_302 (by decide +kernel) ⟨Nat.le_of_ble_eq_true rfl, Nat.le_of_ble_eq_true rfl⟩ rfl hl.1 rfl (Nat.le_of_ble_eq_true rfl) dX5_order_29 ⟨Nat.le_of_ble_eq_true rfl, Nat.le_of_ble_eq_true rfl⟩) rfl hD hS hA (fun _ _ _ _ _ h => False.elim h) (fun r7 T7 H locs hp hP hD hS => ?_)
    obtain ⟨hT, hp8⟩ := hp
    have hT := hT.symm
    subst hT
    refine lv_if_ne (tgt := 45) hx hb dX5_order_32 (by decide) (fun c9 => ?_) (fun c9 => ?_)
    · have h_c := (show _ ∧ _ from by rcases hp8 with ⟨-, h1, h2⟩ | ⟨h, -⟩; exact ⟨h1, h2⟩; exact absurd c9 (by rw [h]; decide))
      have hc3 : can < 3 := kltI (N := 3) hca hcb h_c.2
      refine lv_aload_n hx hb dX5_order_45 rfl (lv_at hl 1 rfl) ?_
      refine rs_Pickwave_lines (b := z 11) F hK hP (hI.1.1 0 (by decide)) hI.2.1.2.2.2.2.1 kw_24 dX5_order_46 ?_
      refine kcallI (kV (n := 0) (As := []) (rest := []) (b := (z 11)) (C := RJx4a65c) F hE hK hP hD hS hA (c_Jx4a65c_size_8abf5 l hl0 g e0 S _ (z 11) (hI.1.1 11 (by decide))) (rr_ArrayList hK hP (hI.1.1 11 (by decide))) kw_90 kw_91 kw_92 kw_22 kw_93 (by decide +kernel) ⟨Nat.le_of_ble_eq_true rfl, Nat.le_of_ble_eq_true rfl⟩ rfl hl.1 rfl (Nat.le_of_ble_eq_true rfl) dX5_order_49 ⟨Nat.le_of_ble_eq_true rfl, Nat.le_of_ble_eq_true rfl⟩) rfl hD hS hA (fun _ _ _ _ _ h => False.elim h) (fun r10 T10 H locs hp hP hD hS => ?_)
      obtain ⟨hT, hp11⟩ := hp
      have hT := hT.symm
      subst hT
      refine lv_bipush (v := 12) hx hb dX5_order_52 (by decide) ?_
      refine lv_icmp_lt (tgt := 67) hx hb dX5_order_54 (by decide) (fun c12 => ?_) (fun c12 => ?_)
      · have h73l : q 73 0 < 12 := kgeI (N := 12) (hp11.trans hR.2.2.2.1.2) (by omega) c12
        refine lv_aload_n hx hb dX5_order_67 rfl (lv_at hl 1 rfl) ?_
        refine lv_aload hx hb dX5_order_68 (lv_at hl 0 rfl) ?_
        refine lv_iload_n hx hb dX5_order_70 rfl (lv_at hl 3 rfl) ?_
        refine lv_iload_n hx hb dX5_order_71 rfl (lv_at hl 4 rfl) ?_
        refine kcallI (kV (n := 3) (As := [.ref (av i3), .int am, .int ca]) (rest := []) (b := (z 0)) (C := RX5) F hE hK hP hD hS hA (c_X5_letCome_x l hl0 g e0 z S _ hI av lv q hR i3 amn can hi3 h12 (Nat.le_of_lt_succ h73l) am ca ham hca (Nat.lt_of_le_of_lt (q_room hW.1.1 hW.1.2.2.2.1 hW.1.2.2.2.2.1) (by decide))) (rr_Pickwave hK hP (hI.1.1 0 (by decide))) kw_303 kw_304 kw_305 kw_2 kw_306 (by decide +kernel) ⟨Nat.le_of_ble_eq_true rfl, Nat.le_of_ble_eq_true rfl⟩ rfl hl.1 rfl (Nat.le_of_ble_eq_true rfl) dX5_order_72 ⟨Nat.le_of_ble_eq_true rfl, Nat.le_of_ble_eq_true rfl⟩) rfl hD hS hA (fun _ _ _ _ _ h => False.elim h) (fun r13 T13 H locs hp hP hD hS => ?_)
        obtain ⟨I14, ⟨x14, hy14⟩, hv14⟩ := hp
        obtain ⟨lv14, hlv14⟩ : ∃ g9 : Nat → Nat, g9 = lvu lv (q 73 0) x14 := ⟨_, rfl⟩
        rw [← hlv14] at hy14
        exact kEndI F hr rfl hlk hP hD hS (Nat.le_of_ble_eq_true rfl) (Nat.le_of_ble_eq_true rfl) dX5_order_75 ⟨_, rfl, ⟨I14, i3, hi3, hn3, ha1, ha20, hc3, h73l, ⟨x14, by rw [← hlv14]; exact hy14⟩, hv14⟩⟩
      · exact kth_ISE hl0 F hE hlk hte hP hS hl.1 (List.mem_of_getElem? (i := 10) rfl) dX5_order_57 dX5_order_60 dX5_order_61 dX5_order_63 dX5_order_66 ⟨Nat.le_of_ble_eq_true rfl, Nat.le_of_ble_eq_true rfl, Nat.le_of_ble_eq_true rfl, Nat.le_of_ble_eq_true rfl⟩ (Nat.le_of_ble_eq_true rfl) (Nat.le_of_ble_eq_true rfl) (Or.inr (Or.inr rfl))
    · exact kth_IAE hl0 F hE hlk hte hP hS hl.1 (List.mem_of_getElem? (i := 9) rfl) dX5_order_35 dX5_order_38 dX5_order_39 dX5_order_41 dX5_order_44 ⟨Nat.le_of_ble_eq_true rfl, Nat.le_of_ble_eq_true rfl, Nat.le_of_ble_eq_true rfl, Nat.le_of_ble_eq_true rfl⟩ (Nat.le_of_ble_eq_true rfl) (Nat.le_of_ble_eq_true rfl) (Or.inr (Or.inl rfl))
  · exact kth_IAE hl0 F hE hlk hte hP hS hl.1 (List.mem_of_getElem? (i := 8) rfl) dX5_order_17 dX5_order_20 dX5_order_21 dX5_order_23 dX5_order_26 ⟨Nat.le_of_ble_eq_true rfl, Nat.le_of_ble_eq_true rfl, Nat.le_of_ble_eq_true rfl, Nat.le_of_ble_eq_true rfl⟩ (Nat.le_of_ble_eq_true rfl) (Nat.le_of_ble_eq_true rfl) (Or.inr (Or.inl rfl))
