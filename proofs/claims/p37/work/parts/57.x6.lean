theorem kwv (w : Nat) : nI w = nI (w + 1) - 1 := by
  rw [← nI_1]
  exact (Int32.add_sub_cancel _ _).symm
theorem lN_addI {a b : Nat} (hb : b ≤ 2147483647) : lN a + (nI b).toInt64 = lN (a + b) := by
  show Int64.ofNat a + (Int32.ofNat b).toInt64 = Int64.ofNat (a + b)
  rw [Int32.toInt64_ofNat' (by rw [show Int32.maxValue.toInt = 2147483647 from rfl]; omega), Int64.ofNat_add]
def q_prc (ca am m : Nat) (r : qS) : Prop := (r 22 m = ca ∧ r 23 m = am ∧ r 24 m = 111) ∧ r 1 (r 10 (r 21 m)) = 0 ∧ r 23 m ≤ r 12 (r 21 m) - r 14 (r 21 m)
theorem q_pro_t {ca am w m : Nat} {q : qS} (h : q_prc ca am m (q_pro ca am w m q)) : q_pro ca am w (m + 1) q = q_prm m w (q_pro ca am w m q) := if_pos h
theorem q_pro_f {ca am w m : Nat} {q : qS} (h : ¬ q_prc ca am m (q_pro ca am w m q)) : q_pro ca am w (m + 1) q = q_pro ca am w m q := if_neg h
theorem q_ship_t {ca m : Nat} {q : qS} (h : q_ship ca m q 22 m = ca ∧ q_ship ca m q 24 m = 107) : q_ship ca (m + 1) q = q_up (q_scan m 115 (q_ship ca m q)) 59 0 (q_ship ca m q 59 0 + q_ship ca m q 23 m) := if_pos h
theorem q_ship_f {ca m : Nat} {q : qS} (h : ¬ (q_ship ca m q 22 m = ca ∧ q_ship ca m q 24 m = 107)) : q_ship ca (m + 1) q = q_ship ca m q := if_neg h
set_option maxHeartbeats 4000000 in
set_option maxRecDepth 100000 in
theorem c_X5_promiseAll_x (l : Launch) (hl0 : l.stackTraces = false) (g : kG) (e0 : Nat) (z : Nat → Nat) (S : wPS) (sz : Nat) (hI : Inv z e0 S) (av lv : Nat → Nat) (q : qS) (hR : Rq z av lv S q) (can amn wv : Nat) (hW : q_Wv wv q) (ca am wn : Int32) (hca : ca = nI can) (ham : am = nI amn) (hwn : wn = nI wv) (hcb : can < 2 ^ 31) (hab : amn < 2 ^ 31) (hb1 : ∀ i, i < 4 → q 1 i < 2 ^ 31) : kM l g e0 yX5_promiseAll cX5_promiseAll 8 (some .int) 3 64 0 0 [.ref (z 0), .int ca, .int am, .int wn] S sz (pI (fun r T => Kp z S T ∧ Rq z av lv T (q_pro can amn wv (q 73 0) q) ∧ ∃ c, c ≤ q 73 0 ∧ r = nI c)) (fun E => False) := by
  refine kM.of (by decide) (Nat.le_of_ble_eq_true rfl) ?_
  intro p e s m below meth c ls B hin
  obtain ⟨F, hr, hlk, hte, hP, hK, hD, hE, hS, hA, hl, hsz⟩ := B
  subst hsz
  have hx := F.1
  have hb := F.2.1
  have hl : lv_has ls 8 [(0, .ref (z 0)), (1, .int ca), (2, .int am), (3, .int wn)] := hl
  have hV := (q_Wv_W hW).1
  obtain ⟨m1, hm1, hL1⟩ := hI.lines
  have h12 : q 73 0 ≤ 12 := hV.1.2.1
  obtain rfl : m1 = q 73 0 := nI_inj (by omega) (by omega) (hL1.1.symm.trans hR.2.2.2.1.2)
  refine lv_iconst (v := 0) hx hb dX5_promiseAll_0 (by decide) ?_
  refine lv_istore (lv' := [(4, .int 0), (0, .ref (z 0)), (1, .int ca), (2, .int am), (3, .int wn)]) hx hb dX5_promiseAll_1 hl (by decide) rfl (fun ls hl => ?_)
  refine lv_iconst (v := 0) hx hb dX5_promiseAll_3 (by decide) ?_
  refine lv_istore (lv' := [(5, .int 0), (4, .int 0), (0, .ref (z 0)), (1, .int ca), (2, .int am), (3, .int wn)]) hx hb dX5_promiseAll_4 hl (by decide) rfl (fun ls hl => ?_)
  have loop : ∀ (fu : Nat) (T0 : wPS) (i : Nat) (xi cn : Int32) (H : Heap) (locs : List Loc) (ls : Array Slot), va_P (kD g) vwCl (kW g T0) H → va_D (kA (pL S) s.heap.size) (kW g T0) → va_S (kA (pL S) s.heap.size) s.heap H locs → lv_has ls 8 [(5, .int xi), (4, .int cn), (0, .ref (z 0)), (1, .int ca), (2, .int am), (3, .int wn)] → q 73 0 - i < fu → (Kp z S T0) → (Rq z av lv T0 (q_pro can amn wv i q)) → (xi = nI i) → (i ≤ q 73 0) → (∃ c, c ≤ i ∧ cn = nI c) → W p l e ({ frames := 3, cells := 0, slots := 0, locals := 64 }) s m ([.ref (z 0), .int ca, .int am, .int wn] : List Value).toArray below meth c H locs 0 0 (vx_MQ below (kQ g S s.heap.size (pI (fun r T => Kp z S T ∧ Rq z av lv T (q_pro can amn wv (q 73 0) q) ∧ ∃ c, c ≤ q 73 0 ∧ r = nI c))) (kX g S s.heap.size (fun E => False)) ([.ref (z 0), .int ca, .int am, .int wn] : List Value).toArray s 0 0 (kA (pL S) s.heap.size)) (F0 m 6 ls []) := by
    intro fu
    induction fu with
    | zero => intro T0 i xi cn H locs ls hP hD hS hl hn hKp hRq hi hin hcn; exact absurd hn (Nat.not_lt_zero _)
    | succ fu ih =>
      intro T0 i xi cn H locs ls hP hD hS hl hn hKp hRq hi hin hcn
      have hLT : LI T0 e0 (z 11) 2 (q 73 0) := LI.keep hKp.1 hL1
      refine lv_iload hx hb dX5_promiseAll_6 (lv_at hl 0 rfl) ?_
      refine lv_aload_n hx hb dX5_promiseAll_8 rfl (lv_at hl 2 rfl) ?_
      refine rs_Pickwave_lines (b := z 11) F hK hP ((hI.keep hKp.1).1.1 0 (by decide)) ((hI.keep hKp.1).2.1.2.2.2.2.1) kw_24 dX5_promiseAll_9 ?_
      refine kcallI (kV (n := 0) (As := []) (rest := [.int xi]) (b := (z 11)) (C := RJx4a65c) F hE hK hP hD hS hA (c_Jx4a65c_size_8abf5 l hl0 g e0 T0 _ (z 11) ((hI.keep hKp.1).1.1 11 (by decide))) (rr_ArrayList hK hP ((hI.keep hKp.1).1.1 11 (by decide))) kw_90 kw_91 kw_92 kw_22 kw_93 (by decide +kernel) ⟨Nat.le_of_ble_eq_true rfl, Nat.le_of_ble_eq_true rfl⟩ rfl hl.1 rfl (Nat.le_of_ble_eq_true rfl) dX5_promiseAll_12 ⟨Nat.le_of_ble_eq_true rfl, Nat.le_of_ble_eq_true rfl⟩) rfl hD hS hA (fun _ _ _ _ _ h => False.elim h) (fun r1 T1 H locs hp hP hD hS => ?_)
      obtain ⟨hT, hp2⟩ := hp
      have hT := hT.symm
      subst hT
      refine lv_icmp_ge (tgt := 103) hx hb dX5_promiseAll_15 (by decide) (fun c3 => ?_) (fun c3 => ?_)
      · refine lv_iload hx hb dX5_promiseAll_103 (lv_at hl 1 rfl) ?_
        have hiM : i = q 73 0 := kend hin h12 hi (hp2.trans hRq.2.2.2.1.2) (q_pro_o (by decide) (by decide)) c3
        exact kEndI F hr rfl hlk hP hD hS (Nat.le_of_ble_eq_true rfl) (Nat.le_of_ble_eq_true rfl) dX5_promiseAll_105 ⟨_, rfl, ⟨hKp, by rw [← hiM]; exact hRq, by rw [← hiM]; exact hcn⟩⟩
      · obtain ⟨him, hx0, hx1⟩ := klp hLT ⟨h12, hin⟩ hi hp2 c3
        have hiq : i < (q_pro can amn wv i q) 73 0 := by rw [q_pro_o (by decide) (by decide)]; exact him
        refine lv_aload_n hx hb dX5_promiseAll_18 rfl (lv_at hl 2 rfl) ?_
        refine rs_Pickwave_lines (b := z 11) F hK hP ((hI.keep hKp.1).1.1 0 (by decide)) ((hI.keep hKp.1).2.1.2.2.2.2.1) kw_24 dX5_promiseAll_19 ?_
        refine lv_iload hx hb dX5_promiseAll_22 (lv_at hl 0 rfl) ?_
        refine kcallR (kV (n := 1) (As := [.int xi]) (rest := []) (b := (z 11)) (C := RJx4a65c) F hE hK hP hD hS hA (c_Jx4a65c_get_915e3 l hl0 g e0 T0 _ (z 11) 2 _ xi ((hI.keep hKp.1).1.1 11 (by decide)) hLT hx0 hx1 (by omega)) (rr_ArrayList hK hP ((hI.keep hKp.1).1.1 11 (by decide))) kw_204 kw_205 kw_206 kw_22 kw_207 (by decide +kernel) ⟨Nat.le_of_ble_eq_true rfl, Nat.le_of_ble_eq_true rfl⟩ rfl hl.1 rfl (Nat.le_of_ble_eq_true rfl) dX5_promiseAll_24 ⟨Nat.le_of_ble_eq_true rfl, Nat.le_of_ble_eq_true rfl⟩) rfl hD hS hA (fun _ _ _ _ _ h => False.elim h) (fun b4 T4 H locs hp hP hD hS => ?_)
        obtain ⟨hT, hp5⟩ := hp
        have hT := hT.symm
        subst hT
        obtain ⟨ob6, d6, hd6, hy6⟩ := hp5
        obtain rfl : b4 = lv i := kfind (hRq.2.1 i hiq).2.1 hd6 hy6 hi (by omega)
        have hWi : q_W (q_pro can amn wv i q) := q_Wv_W (q_pro_Wv hW hin)
        have hroom : (q_pro can amn wv i q) 42 0 < 516 := Nat.lt_of_le_of_lt (q_room hWi.1.1 hWi.1.2.2.2.1 hWi.1.2.2.2.2.1) (by decide)
        have h24 : (q_pro can amn wv i q) 24 i < 65536 := by have := (hWi.1.2.2.1 i hiq).1; omega
        have h23 : (q_pro can amn wv i q) 23 i ≤ 20 := (hWi.1.2.2.1 i hiq).2.2.1
        have h22 : (q_pro can amn wv i q) 22 i < 3 := (hWi.1.1.2.2.1 i hiq).2
        have h1b : (q_pro can amn wv i q) 1 ((q_pro can amn wv i q) 10 ((q_pro can amn wv i q) 21 i)) < 2 ^ 31 := by rw [q_pro_o (by decide) (by decide)]; exact hb1 _ (hRq.1 _ (hRq.2.1 i hiq).2.2.2.1).2.2.2.1
        refine va_castS hx hb F.2.2.2.1 (F.2.2.2.2 _ kw_272) (hK.1 3 _ rfl).2 (rr_Line hK hP ob6) dX5_promiseAll_27 ?_
        refine lv_astore (lv' := [(6, .ref (lv i)), (5, .int xi), (4, .int cn), (0, .ref (z 0)), (1, .int ca), (2, .int am), (3, .int wn)]) hx hb dX5_promiseAll_30 hl (by decide) rfl (fun ls hl => ?_)
        refine lv_aload hx hb dX5_promiseAll_32 (lv_at hl 0 rfl) ?_
        refine rg_Line_carrier F hK hP ob6 kw_410 dX5_promiseAll_34 ?_
        refine lv_topi (fun x7 ex7 => ?_)
        refine lv_iload_n hx hb dX5_promiseAll_37 rfl (lv_at hl 4 rfl) ?_
        refine lv_icmp_ne (tgt := 64) hx hb dX5_promiseAll_38 (by decide) (fun c8 => ?_) (fun c8 => ?_)
        · refine lv_iconst (v := 0) hx hb dX5_promiseAll_64 (by decide) ?_
          refine lv_istore (lv' := [(7, .int 0), (6, .ref (lv i)), (5, .int xi), (4, .int cn), (0, .ref (z 0)), (1, .int ca), (2, .int am), (3, .int wn)]) hx hb dX5_promiseAll_65 hl (by decide) rfl (fun ls hl => ?_)
          refine lv_iload hx hb dX5_promiseAll_67 (lv_at hl 0 rfl) ?_
          refine lv_if_eq (tgt := 97) hx hb dX5_promiseAll_69 (by decide) (fun c9 => ?_) (fun c9 => ?_)
          · obtain ⟨x10, ex10⟩ : ∃ y : Int32, y = xi + 1 := ⟨_, rfl⟩
            refine lv_iinc (v := x10) (lv' := [(5, .int x10), (7, .int 0), (6, .ref (lv i)), (4, .int cn), (0, .ref (z 0)), (1, .int ca), (2, .int am), (3, .int wn)]) hx hb dX5_promiseAll_97 hl (k := 2) rfl (by rw [ex10]; rfl) (by decide) rfl (fun ls hl => ?_)
            refine lv_goto (tgt := 6) hx hb dX5_promiseAll_100 (by decide) ?_
            exact ih _ (i + 1) x10 cn H locs ls hP hD hS (lv_sub hl [0, 3, 4, 5, 6, 7] rfl) (by omega) hKp (by rw [q_pro_f (fun h => c8 ((ex7.trans ((hRq.2.1 i hiq).2.2.2.2.2.2 22 (by decide))).trans ((congrArg nI h.1.1).trans hca.symm)))]; exact hRq) (by rw [ex10, hi]; exact nI_1 i) him (hcn.elim fun c h => ⟨c, Nat.le_succ_of_le h.1, h.2⟩)
          · exact absurd (by decide) c9
        · refine lv_aload hx hb dX5_promiseAll_41 (lv_at hl 0 rfl) ?_
          refine rg_Line_amount F hK hP ob6 kw_280 dX5_promiseAll_43 ?_
          refine lv_topi (fun x11 ex11 => ?_)
          refine lv_iload_n hx hb dX5_promiseAll_46 rfl (lv_at hl 5 rfl) ?_
          refine lv_icmp_ne (tgt := 64) hx hb dX5_promiseAll_47 (by decide) (fun c12 => ?_) (fun c12 => ?_)
          · refine lv_iconst (v := 0) hx hb dX5_promiseAll_64 (by decide) ?_
            refine lv_istore (lv' := [(7, .int 0), (6, .ref (lv i)), (5, .int xi), (4, .int cn), (0, .ref (z 0)), (1, .int ca), (2, .int am), (3, .int wn)]) hx hb dX5_promiseAll_65 hl (by decide) rfl (fun ls hl => ?_)
            refine lv_iload hx hb dX5_promiseAll_67 (lv_at hl 0 rfl) ?_
            refine lv_if_eq (tgt := 97) hx hb dX5_promiseAll_69 (by decide) (fun c13 => ?_) (fun c13 => ?_)
            · obtain ⟨x14, ex14⟩ : ∃ y : Int32, y = xi + 1 := ⟨_, rfl⟩
              refine lv_iinc (v := x14) (lv' := [(5, .int x14), (7, .int 0), (6, .ref (lv i)), (4, .int cn), (0, .ref (z 0)), (1, .int ca), (2, .int am), (3, .int wn)]) hx hb dX5_promiseAll_97 hl (k := 2) rfl (by rw [ex14]; rfl) (by decide) rfl (fun ls hl => ?_)
              refine lv_goto (tgt := 6) hx hb dX5_promiseAll_100 (by decide) ?_
              exact ih _ (i + 1) x14 cn H locs ls hP hD hS (lv_sub hl [0, 3, 4, 5, 6, 7] rfl) (by omega) hKp (by rw [q_pro_f (fun h => c12 ((ex11.trans ((hRq.2.1 i hiq).2.2.2.2.2.2 23 (by decide))).trans ((congrArg nI h.1.2.1).trans ham.symm)))]; exact hRq) (by rw [ex14, hi]; exact nI_1 i) him (hcn.elim fun c h => ⟨c, Nat.le_succ_of_le h.1, h.2⟩)
            · exact absurd (by decide) c13
          · refine lv_aload hx hb dX5_promiseAll_50 (lv_at hl 0 rfl) ?_
            refine rg_Line_state F hK hP ob6 kw_267 dX5_promiseAll_52 ?_
            refine lv_topi (fun x15 ex15 => ?_)
            refine lv_bipush (v := 111) hx hb dX5_promiseAll_55 (by decide) ?_
            refine lv_icmp_ne (tgt := 64) hx hb dX5_promiseAll_57 (by decide) (fun c16 => ?_) (fun c16 => ?_)
            · refine lv_iconst (v := 0) hx hb dX5_promiseAll_64 (by decide) ?_
              refine lv_istore (lv' := [(7, .int 0), (6, .ref (lv i)), (5, .int xi), (4, .int cn), (0, .ref (z 0)), (1, .int ca), (2, .int am), (3, .int wn)]) hx hb dX5_promiseAll_65 hl (by decide) rfl (fun ls hl => ?_)
              refine lv_iload hx hb dX5_promiseAll_67 (lv_at hl 0 rfl) ?_
              refine lv_if_eq (tgt := 97) hx hb dX5_promiseAll_69 (by decide) (fun c17 => ?_) (fun c17 => ?_)
              · obtain ⟨x18, ex18⟩ : ∃ y : Int32, y = xi + 1 := ⟨_, rfl⟩
                refine lv_iinc (v := x18) (lv' := [(5, .int x18), (7, .int 0), (6, .ref (lv i)), (4, .int cn), (0, .ref (z 0)), (1, .int ca), (2, .int am), (3, .int wn)]) hx hb dX5_promiseAll_97 hl (k := 2) rfl (by rw [ex18]; rfl) (by decide) rfl (fun ls hl => ?_)
                refine lv_goto (tgt := 6) hx hb dX5_promiseAll_100 (by decide) ?_
                exact ih _ (i + 1) x18 cn H locs ls hP hD hS (lv_sub hl [0, 3, 4, 5, 6, 7] rfl) (by omega) hKp (by rw [q_pro_f (fun h => c16 ((ex15.trans ((hRq.2.1 i hiq).2.2.2.2.2.2 24 (by decide))).trans (by rw [h.1.2.2]; rfl)))]; exact hRq) (by rw [ex18, hi]; exact nI_1 i) him (hcn.elim fun c h => ⟨c, Nat.le_succ_of_le h.1, h.2⟩)
              · exact absurd (by decide) c17
            · have h111 : (q_pro can amn wv i q) 24 i = 111 := nI_inj (b := 111) (by omega) (by decide) ((ex15.trans ((hRq.2.1 i hiq).2.2.2.2.2.2 24 (by decide))).symm.trans c16)
              have hpp : (q_pro can amn wv i q) 24 i = 112 → (q_pro can amn wv i q) 23 i ≤ (q_pro can amn wv i q) 14 ((q_pro can amn wv i q) 21 i) ∧ q_st 112 ≠ 112 := fun h => absurd (h111.symm.trans h) (by decide)
              refine lv_iconst (v := 1) hx hb dX5_promiseAll_60 (by decide) ?_
              refine lv_goto (tgt := 65) hx hb dX5_promiseAll_61 (by decide) ?_
              refine lv_istore (lv' := [(7, .int 1), (6, .ref (lv i)), (5, .int xi), (4, .int cn), (0, .ref (z 0)), (1, .int ca), (2, .int am), (3, .int wn)]) hx hb dX5_promiseAll_65 hl (by decide) rfl (fun ls hl => ?_)
              refine lv_iload hx hb dX5_promiseAll_67 (lv_at hl 0 rfl) ?_
              refine lv_if_eq (tgt := 97) hx hb dX5_promiseAll_69 (by decide) (fun c19 => ?_) (fun c19 => ?_)
              · exact absurd c19 (by decide)
              · refine lv_aload hx hb dX5_promiseAll_72 (lv_at hl 1 rfl) ?_
                refine kcallI (kSt (n := 1) (As := [.ref (lv i)]) (rest := []) F hE hK hP hD hS hA (c_X5_canBePromised_x l hl0 g e0 z T0 _ (hI.keep hKp.1) av lv (q_pro can amn wv i q) hRq hWi.2.1 i hiq (by omega) h1b) kw_437 kw_438 kw_2 kw_439 (by decide +kernel) ⟨Nat.le_of_ble_eq_true rfl, Nat.le_of_ble_eq_true rfl⟩ rfl hl.1 rfl (Nat.le_of_ble_eq_true rfl) dX5_promiseAll_74 ⟨Nat.le_of_ble_eq_true rfl, Nat.le_of_ble_eq_true rfl⟩) rfl hD hS hA (fun _ _ _ _ _ h => False.elim h) (fun r20 T20 H locs hp hP hD hS => ?_)
                obtain ⟨hT, hp21⟩ := hp
                have hT := hT.symm
                subst hT
                refine lv_if_eq (tgt := 97) hx hb dX5_promiseAll_77 (by decide) (fun c22 => ?_) (fun c22 => ?_)
                · obtain ⟨x23, ex23⟩ : ∃ y : Int32, y = xi + 1 := ⟨_, rfl⟩
                  refine lv_iinc (v := x23) (lv' := [(5, .int x23), (7, .int 1), (6, .ref (lv i)), (4, .int cn), (0, .ref (z 0)), (1, .int ca), (2, .int am), (3, .int wn)]) hx hb dX5_promiseAll_97 hl (k := 2) rfl (by rw [ex23]; rfl) (by decide) rfl (fun ls hl => ?_)
                  refine lv_goto (tgt := 6) hx hb dX5_promiseAll_100 (by decide) ?_
                  exact ih _ (i + 1) x23 cn H locs ls hP hD hS (lv_sub hl [0, 3, 4, 5, 6, 7] rfl) (by omega) hKp (by rw [q_pro_f (fun h => hp21.elim (fun h9 => absurd (h9.1.symm.trans c22) (by decide)) (fun h9 => h9.2 h.2))]; exact hRq) (by rw [ex23, hi]; exact nI_1 i) him (hcn.elim fun c h => ⟨c, Nat.le_succ_of_le h.1, h.2⟩)
                · refine lv_aload_n hx hb dX5_promiseAll_80 rfl (lv_at hl 4 rfl) ?_
                  refine lv_aload hx hb dX5_promiseAll_81 (lv_at hl 1 rfl) ?_
                  refine lv_bipush (v := 112) hx hb dX5_promiseAll_83 (by decide) ?_
                  refine kcallU (kV (n := 2) (As := [.ref (lv i), .int 112]) (rest := []) (b := (z 0)) (C := RX5) F hE hK hP hD hS hA (c_X5_scan_x l hl0 g e0 z T0 _ (hI.keep hKp.1) av lv (q_pro can amn wv i q) hRq i 112 hiq 112 (rfl : (112 : Int32) = nI 112) (by decide) ⟨rfl, rfl⟩ hroom h24 hpp) (rr_Pickwave hK hP ((hI.keep hKp.1).1.1 0 (by decide))) kw_321 kw_322 kw_323 kw_2 kw_324 (by decide +kernel) ⟨Nat.le_of_ble_eq_true rfl, Nat.le_of_ble_eq_true rfl⟩ rfl hl.1 rfl (Nat.le_of_ble_eq_true rfl) dX5_promiseAll_85 ⟨Nat.le_of_ble_eq_true rfl, Nat.le_of_ble_eq_true rfl⟩) rfl hD hS hA (fun _ _ _ _ _ h => False.elim h) (fun T24 H locs hp hP hD hS => ?_)
                  obtain ⟨hk25, hr25⟩ := hp
                  have N25 : Kp z T0 T24 := hk25
                  have K25 : Kp z S T24 := Kp.trans hKp N25
                  have I25 : Inv z e0 T24 := hI.keep K25.1
                  have o26 : Ob T24 2 (lv i) := N25.1.ob ob6
                  refine lv_aload hx hb dX5_promiseAll_88 (lv_at hl 1 rfl) ?_
                  refine lv_iload_n hx hb dX5_promiseAll_90 rfl (lv_at hl 7 rfl) ?_
                  refine rp_Line_lastWave F hK hP hD hS o26 kw_291 dX5_promiseAll_91 (fun H locs hP hD hS => ?_)
                  have hR27 := Rq.wav (v := wv + 1) hr25 (by rw [q_scan_o (by decide)]; exact hiq) (hwn.trans (kwv wv))
                  obtain ⟨x28, ex28⟩ : ∃ y : Int32, y = cn + 1 := ⟨_, rfl⟩
                  refine lv_iinc (v := x28) (lv' := [(4, .int x28), (7, .int 1), (6, .ref (lv i)), (5, .int xi), (0, .ref (z 0)), (1, .int ca), (2, .int am), (3, .int wn)]) hx hb dX5_promiseAll_94 hl (k := 3) rfl (by rw [ex28]; rfl) (by decide) rfl (fun ls hl => ?_)
                  obtain ⟨x29, ex29⟩ : ∃ y : Int32, y = xi + 1 := ⟨_, rfl⟩
                  refine lv_iinc (v := x29) (lv' := [(5, .int x29), (4, .int x28), (7, .int 1), (6, .ref (lv i)), (0, .ref (z 0)), (1, .int ca), (2, .int am), (3, .int wn)]) hx hb dX5_promiseAll_97 hl (k := 3) rfl (by rw [ex29]; rfl) (by decide) rfl (fun ls hl => ?_)
                  refine lv_goto (tgt := 6) hx hb dX5_promiseAll_100 (by decide) ?_
                  exact ih _ (i + 1) x29 x28 H locs ls hP hD hS (lv_sub hl [0, 1, 4, 5, 6, 7] rfl) (by omega) (kp_setF K25 (by decide) (by decide)) (by rw [q_pro_t ⟨⟨(nI_inj (by omega) hcb ((ex7.trans ((hRq.2.1 i hiq).2.2.2.2.2.2 22 (by decide))).symm.trans (c8.trans hca))), (nI_inj (by omega) hab ((ex11.trans ((hRq.2.1 i hiq).2.2.2.2.2.2 23 (by decide))).symm.trans (c12.trans ham))), h111⟩, (hp21.elim And.right (fun h9 => absurd h9.1 c22))⟩]; exact hR27) (by rw [ex29, hi]; exact nI_1 i) him (hcn.elim fun c h => ⟨c + 1, Nat.succ_le_succ h.1, by rw [ex28, h.2]; exact nI_1 c⟩)
  exact loop 13 _ 0 0 0 _ _ _ hP hD hS (lv_sub hl [0, 1, 2, 3, 4, 5] rfl) (by omega) hI.kp hR rfl (Nat.zero_le _) ⟨0, Nat.le_refl _, rfl⟩
set_option maxHeartbeats 4000000 in
set_option maxRecDepth 100000 in
theorem c_X5_ship_x (l : Launch) (hl0 : l.stackTraces = false) (g : kG) (e0 : Nat) (z : Nat → Nat) (S : wPS) (sz : Nat) (hI : Inv z e0 S) (av lv : Nat → Nat) (q : qS) (hR : Rq z av lv S q) (hW : q_W q) (n : Int32) : kM l g e0 yX5_ship cX5_ship 5 (some .int) 7 103 1 6 [.ref (z 0), .int n] S sz (pI (fun r T => Kp z S T ∧ ∃ ca, ca < 3 ∧ n = nI ca ∧ Rq z av lv T (q_ship ca (q 73 0) q) ∧ ∃ c, c ≤ q 73 0 ∧ r = nI c ∧ q 59 0 + c ≤ q_ship ca (q 73 0) q 59 0)) (fun E => E = xI ∧ (n < 0 ∨ 3 ≤ n)) := by
  refine kM.of (by decide) (Nat.le_of_ble_eq_true rfl) ?_
  intro p e s m below meth c ls B hin
  obtain ⟨F, hr, hlk, hte, hP, hK, hD, hE, hS, hA, hl, hsz⟩ := B
  subst hsz
  have hx := F.1
  have hb := F.2.1
  have hl : lv_has ls 5 [(0, .ref (z 0)), (1, .int n)] := hl
  have hV := hW.1
  obtain ⟨m1, hm1, hL1⟩ := hI.lines
  have h12 : q 73 0 ≤ 12 := hV.1.2.1
  obtain rfl : m1 = q 73 0 := nI_inj (by omega) (by omega) (hL1.1.symm.trans hR.2.2.2.1.2)
  refine lv_aload_n hx hb dX5_ship_0 rfl (lv_at hl 0 rfl) ?_
  refine lv_iload_n hx hb dX5_ship_1 rfl (lv_at hl 1 rfl) ?_
  refine kcallU (kV (n := 1) (As := [.int n]) (rest := []) (b := (z 0)) (C := RX5) F hE hK hP hD hS hA (c_X5_checkCarrier l hl0 g e0 z S _ hI n) (rr_Pickwave hK hP (hI.1.1 0 (by decide))) kw_422 kw_423 kw_424 kw_2 kw_425 (by decide +kernel) ⟨Nat.le_of_ble_eq_true rfl, Nat.le_of_ble_eq_true rfl⟩ rfl hl.1 rfl (Nat.le_of_ble_eq_true rfl) dX5_ship_2 ⟨Nat.le_of_ble_eq_true rfl, Nat.le_of_ble_eq_true rfl⟩) rfl hD hS hA (fun E ce q9 H1 locs1 hex hP1 hS1 hce hcv hcl => kthru hte hlk (hex) hP1 hS1 hce hcv hcl (Nat.le_of_ble_eq_true rfl) (Nat.le_of_ble_eq_true rfl)) (fun T1 H locs hp hP hD hS => ?_)
  obtain ⟨hT, hp2⟩ := hp
  have hT := hT.symm
  subst hT
  obtain ⟨ca, hca, hnc⟩ := kix (M := 3) (N := 3) rfl (by decide) hp2.1 hp2.2
  refine lv_iconst (v := 0) hx hb dX5_ship_5 (by decide) ?_
  refine lv_istore_n (lv' := [(2, .int 0), (0, .ref (z 0)), (1, .int n)]) hx hb dX5_ship_6 rfl hl (by decide) rfl (fun ls hl => ?_)
  refine lv_iconst (v := 0) hx hb dX5_ship_7 (by decide) ?_
  refine lv_istore_n (lv' := [(3, .int 0), (2, .int 0), (0, .ref (z 0)), (1, .int n)]) hx hb dX5_ship_8 rfl hl (by decide) rfl (fun ls hl => ?_)
  have loop : ∀ (fu : Nat) (T0 : wPS) (i : Nat) (xi cn : Int32) (H : Heap) (locs : List Loc) (ls : Array Slot), va_P (kD g) vwCl (kW g T0) H → va_D (kA (pL S) s.heap.size) (kW g T0) → va_S (kA (pL S) s.heap.size) s.heap H locs → lv_has ls 5 [(3, .int xi), (2, .int cn), (0, .ref (z 0)), (1, .int n)] → q 73 0 - i < fu → (Kp z S T0) → (Rq z av lv T0 (q_ship ca i q)) → (xi = nI i) → (i ≤ q 73 0) → (∃ c, c ≤ i ∧ cn = nI c ∧ q 59 0 + c ≤ q_ship ca i q 59 0) → W p l e ({ frames := 7, cells := 1, slots := 6, locals := 103 }) s m ([.ref (z 0), .int n] : List Value).toArray below meth c H locs 1 6 (vx_MQ below (kQ g S s.heap.size (pI (fun r T => Kp z S T ∧ ∃ ca, ca < 3 ∧ n = nI ca ∧ Rq z av lv T (q_ship ca (q 73 0) q) ∧ ∃ c, c ≤ q 73 0 ∧ r = nI c ∧ q 59 0 + c ≤ q_ship ca (q 73 0) q 59 0))) (kX g S s.heap.size (fun E => E = xI ∧ (n < 0 ∨ 3 ≤ n))) ([.ref (z 0), .int n] : List Value).toArray s 1 6 (kA (pL S) s.heap.size)) (F0 m 9 ls []) := by
    intro fu
    induction fu with
    | zero => intro T0 i xi cn H locs ls hP hD hS hl hn hKp hRq hi hin hcn; exact absurd hn (Nat.not_lt_zero _)
    | succ fu ih =>
      intro T0 i xi cn H locs ls hP hD hS hl hn hKp hRq hi hin hcn
      have hLT : LI T0 e0 (z 11) 2 (q 73 0) := LI.keep hKp.1 hL1
      refine lv_iload_n hx hb dX5_ship_9 rfl (lv_at hl 0 rfl) ?_
      refine lv_aload_n hx hb dX5_ship_10 rfl (lv_at hl 2 rfl) ?_
      refine rs_Pickwave_lines (b := z 11) F hK hP ((hI.keep hKp.1).1.1 0 (by decide)) ((hI.keep hKp.1).2.1.2.2.2.2.1) kw_24 dX5_ship_11 ?_
      refine kcallI (kV (n := 0) (As := []) (rest := [.int xi]) (b := (z 11)) (C := RJx4a65c) F hE hK hP hD hS hA (c_Jx4a65c_size_8abf5 l hl0 g e0 T0 _ (z 11) ((hI.keep hKp.1).1.1 11 (by decide))) (rr_ArrayList hK hP ((hI.keep hKp.1).1.1 11 (by decide))) kw_90 kw_91 kw_92 kw_22 kw_93 (by decide +kernel) ⟨Nat.le_of_ble_eq_true rfl, Nat.le_of_ble_eq_true rfl⟩ rfl hl.1 rfl (Nat.le_of_ble_eq_true rfl) dX5_ship_14 ⟨Nat.le_of_ble_eq_true rfl, Nat.le_of_ble_eq_true rfl⟩) rfl hD hS hA (fun _ _ _ _ _ h => False.elim h) (fun r3 T3 H locs hp hP hD hS => ?_)
      obtain ⟨hT, hp4⟩ := hp
      have hT := hT.symm
      subst hT
      refine lv_icmp_ge (tgt := 84) hx hb dX5_ship_17 (by decide) (fun c5 => ?_) (fun c5 => ?_)
      · refine lv_iload_n hx hb dX5_ship_84 rfl (lv_at hl 1 rfl) ?_
        have hiM : i = q 73 0 := kend hin h12 hi (hp4.trans hRq.2.2.2.1.2) (q_ship_o (by decide) (by decide)) c5
        exact kEndI F hr rfl hlk hP hD hS (Nat.le_of_ble_eq_true rfl) (Nat.le_of_ble_eq_true rfl) dX5_ship_85 ⟨_, rfl, ⟨hKp, ca, hca, hnc, by rw [← hiM]; exact hRq, by rw [← hiM]; exact hcn⟩⟩
      · obtain ⟨him, hx0, hx1⟩ := klp hLT ⟨h12, hin⟩ hi hp4 c5
        have hiq : i < (q_ship ca i q) 73 0 := by rw [q_ship_o (by decide) (by decide)]; exact him
        refine lv_aload_n hx hb dX5_ship_20 rfl (lv_at hl 2 rfl) ?_
        refine rs_Pickwave_lines (b := z 11) F hK hP ((hI.keep hKp.1).1.1 0 (by decide)) ((hI.keep hKp.1).2.1.2.2.2.2.1) kw_24 dX5_ship_21 ?_
        refine lv_iload_n hx hb dX5_ship_24 rfl (lv_at hl 0 rfl) ?_
        refine kcallR (kV (n := 1) (As := [.int xi]) (rest := []) (b := (z 11)) (C := RJx4a65c) F hE hK hP hD hS hA (c_Jx4a65c_get_915e3 l hl0 g e0 T0 _ (z 11) 2 _ xi ((hI.keep hKp.1).1.1 11 (by decide)) hLT hx0 hx1 (by omega)) (rr_ArrayList hK hP ((hI.keep hKp.1).1.1 11 (by decide))) kw_204 kw_205 kw_206 kw_22 kw_207 (by decide +kernel) ⟨Nat.le_of_ble_eq_true rfl, Nat.le_of_ble_eq_true rfl⟩ rfl hl.1 rfl (Nat.le_of_ble_eq_true rfl) dX5_ship_25 ⟨Nat.le_of_ble_eq_true rfl, Nat.le_of_ble_eq_true rfl⟩) rfl hD hS hA (fun _ _ _ _ _ h => False.elim h) (fun b6 T6 H locs hp hP hD hS => ?_)
        obtain ⟨hT, hp7⟩ := hp
        have hT := hT.symm
        subst hT
        obtain ⟨ob8, d8, hd8, hy8⟩ := hp7
        obtain rfl : b6 = lv i := kfind (hRq.2.1 i hiq).2.1 hd8 hy8 hi (by omega)
        have hWi : q_W (q_ship ca i q) := q_ship_W hW hin
        have hroom : (q_ship ca i q) 42 0 < 516 := Nat.lt_of_le_of_lt (q_room hWi.1.1 hWi.1.2.2.2.1 hWi.1.2.2.2.2.1) (by decide)
        have h24 : (q_ship ca i q) 24 i < 65536 := by have := (hWi.1.2.2.1 i hiq).1; omega
        have h23 : (q_ship ca i q) 23 i ≤ 20 := (hWi.1.2.2.1 i hiq).2.2.1
        have h22 : (q_ship ca i q) 22 i < 3 := (hWi.1.1.2.2.1 i hiq).2
        refine va_castS hx hb F.2.2.2.1 (F.2.2.2.2 _ kw_272) (hK.1 3 _ rfl).2 (rr_Line hK hP ob8) dX5_ship_28 ?_
        refine lv_astore (lv' := [(4, .ref (lv i)), (3, .int xi), (2, .int cn), (0, .ref (z 0)), (1, .int n)]) hx hb dX5_ship_31 hl (by decide) rfl (fun ls hl => ?_)
        refine lv_aload hx hb dX5_ship_33 (lv_at hl 0 rfl) ?_
        refine rg_Line_carrier F hK hP ob8 kw_410 dX5_ship_35 ?_
        refine lv_topi (fun x9 ex9 => ?_)
        refine lv_iload_n hx hb dX5_ship_38 rfl (lv_at hl 4 rfl) ?_
        refine lv_icmp_ne (tgt := 78) hx hb dX5_ship_39 (by decide) (fun c10 => ?_) (fun c10 => ?_)
        · obtain ⟨x11, ex11⟩ : ∃ y : Int32, y = xi + 1 := ⟨_, rfl⟩
          refine lv_iinc (v := x11) (lv' := [(3, .int x11), (4, .ref (lv i)), (2, .int cn), (0, .ref (z 0)), (1, .int n)]) hx hb dX5_ship_78 hl (k := 1) rfl (by rw [ex11]; rfl) (by decide) rfl (fun ls hl => ?_)
          refine lv_goto (tgt := 9) hx hb dX5_ship_81 (by decide) ?_
          exact ih _ (i + 1) x11 cn H locs ls hP hD hS (lv_sub hl [0, 2, 3, 4] rfl) (by omega) hKp (by rw [q_ship_f (fun h => c10 ((ex9.trans ((hRq.2.1 i hiq).2.2.2.2.2.2 22 (by decide))).trans ((congrArg nI h.1).trans hnc.symm)))]; exact hRq) (by rw [ex11, hi]; exact nI_1 i) him (hcn.elim fun c h => ⟨c, Nat.le_succ_of_le h.1, h.2.1, by rw [q_ship_f (fun h => c10 ((ex9.trans ((hRq.2.1 i hiq).2.2.2.2.2.2 22 (by decide))).trans ((congrArg nI h.1).trans hnc.symm)))]; exact h.2.2⟩)
        · refine lv_aload hx hb dX5_ship_42 (lv_at hl 0 rfl) ?_
          refine rg_Line_state F hK hP ob8 kw_267 dX5_ship_44 ?_
          refine lv_topi (fun x12 ex12 => ?_)
          refine lv_bipush (v := 107) hx hb dX5_ship_47 (by decide) ?_
          refine lv_icmp_ne (tgt := 78) hx hb dX5_ship_49 (by decide) (fun c13 => ?_) (fun c13 => ?_)
          · obtain ⟨x14, ex14⟩ : ∃ y : Int32, y = xi + 1 := ⟨_, rfl⟩
            refine lv_iinc (v := x14) (lv' := [(3, .int x14), (4, .ref (lv i)), (2, .int cn), (0, .ref (z 0)), (1, .int n)]) hx hb dX5_ship_78 hl (k := 1) rfl (by rw [ex14]; rfl) (by decide) rfl (fun ls hl => ?_)
            refine lv_goto (tgt := 9) hx hb dX5_ship_81 (by decide) ?_
            exact ih _ (i + 1) x14 cn H locs ls hP hD hS (lv_sub hl [0, 2, 3, 4] rfl) (by omega) hKp (by rw [q_ship_f (fun h => c13 ((ex12.trans ((hRq.2.1 i hiq).2.2.2.2.2.2 24 (by decide))).trans (by rw [h.2]; rfl)))]; exact hRq) (by rw [ex14, hi]; exact nI_1 i) him (hcn.elim fun c h => ⟨c, Nat.le_succ_of_le h.1, h.2.1, by rw [q_ship_f (fun h => c13 ((ex12.trans ((hRq.2.1 i hiq).2.2.2.2.2.2 24 (by decide))).trans (by rw [h.2]; rfl)))]; exact h.2.2⟩)
          · have h107 : (q_ship ca i q) 24 i = 107 := nI_inj (b := 107) (by omega) (by decide) ((ex12.trans ((hRq.2.1 i hiq).2.2.2.2.2.2 24 (by decide))).symm.trans c13)
            have hpp : (q_ship ca i q) 24 i = 112 → (q_ship ca i q) 23 i ≤ (q_ship ca i q) 14 ((q_ship ca i q) 21 i) ∧ q_st 115 ≠ 112 := fun h => absurd (h107.symm.trans h) (by decide)
            have h1 : 1 ≤ (q_ship ca i q) 23 i := by have := (hWi.1.2.2.1 i hiq).2.1; omega
            refine lv_aload_n hx hb dX5_ship_52 rfl (lv_at hl 3 rfl) ?_
            refine lv_aload hx hb dX5_ship_53 (lv_at hl 0 rfl) ?_
            refine lv_bipush (v := 115) hx hb dX5_ship_55 (by decide) ?_
            refine kcallU (kV (n := 2) (As := [.ref (lv i), .int 115]) (rest := []) (b := (z 0)) (C := RX5) F hE hK hP hD hS hA (c_X5_scan_x l hl0 g e0 z T0 _ (hI.keep hKp.1) av lv (q_ship ca i q) hRq i 115 hiq 115 (rfl : (115 : Int32) = nI 115) (by decide) ⟨rfl, rfl⟩ hroom h24 hpp) (rr_Pickwave hK hP ((hI.keep hKp.1).1.1 0 (by decide))) kw_321 kw_322 kw_323 kw_2 kw_324 (by decide +kernel) ⟨Nat.le_of_ble_eq_true rfl, Nat.le_of_ble_eq_true rfl⟩ rfl hl.1 rfl (Nat.le_of_ble_eq_true rfl) dX5_ship_57 ⟨Nat.le_of_ble_eq_true rfl, Nat.le_of_ble_eq_true rfl⟩) rfl hD hS hA (fun _ _ _ _ _ h => False.elim h) (fun T15 H locs hp hP hD hS => ?_)
            obtain ⟨hk16, hr16⟩ := hp
            have N16 : Kp z T0 T15 := hk16
            have K16 : Kp z S T15 := Kp.trans hKp N16
            have I16 : Inv z e0 T15 := hI.keep K16.1
            have o17 : Ob T15 2 (lv i) := N16.1.ob ob8
            refine lv_aload_n hx hb dX5_ship_60 rfl (lv_at hl 3 rfl) ?_
            refine lv_dup hx hb dX5_ship_61 rfl ?_
            refine rg_Pickwave_shippedUnits F hK hP (I16.1.1 0 (by decide)) kw_187 dX5_ship_62 ?_
            refine lv_topl (fun x18 ex18 => ?_)
            refine lv_aload hx hb dX5_ship_65 (lv_at hl 0 rfl) ?_
            refine rg_Line_amount F hK hP o17 kw_280 dX5_ship_67 ?_
            refine lv_topi (fun x19 ex19 => ?_)
            refine lv_i2l (v := x19.toInt64) hx hb dX5_ship_70 rfl ?_
            refine lv_ladd hx hb dX5_ship_71 ?_
            refine lv_topl (fun x20 ex20 => ?_)
            have hj9 : x20 = lN ((q_ship ca i q) 59 0 + (q_ship ca i q) 23 i) := by rw [ex20, ex18, show pJ T15 (z 0) = lN ((q_ship ca i q) 59 0) from (hr16.2.2.2.2.2.2.1.2).trans (congrArg lN (q_scan_o (by decide))), show x19 = nI ((q_ship ca i q) 23 i) from ((ex19.trans ((hr16.2.1 i (by rw [q_scan_o (by decide)]; exact hiq)).2.2.2.2.2.2 23 (by decide)))).trans (congrArg nI (q_scan_o (by decide)))]; exact lN_addI (by omega)
            refine rp_Pickwave_shippedUnits F hK hP hD hS (I16.1.1 0 (by decide)) kw_187 dX5_ship_72 (fun H locs hP hD hS => ?_)
            have hR21 := Rq.shp (v := (q_ship ca i q) 59 0 + (q_ship ca i q) 23 i) hr16 hj9
            obtain ⟨x22, ex22⟩ : ∃ y : Int32, y = cn + 1 := ⟨_, rfl⟩
            refine lv_iinc (v := x22) (lv' := [(2, .int x22), (4, .ref (lv i)), (3, .int xi), (0, .ref (z 0)), (1, .int n)]) hx hb dX5_ship_75 hl (k := 2) rfl (by rw [ex22]; rfl) (by decide) rfl (fun ls hl => ?_)
            obtain ⟨x23, ex23⟩ : ∃ y : Int32, y = xi + 1 := ⟨_, rfl⟩
            refine lv_iinc (v := x23) (lv' := [(3, .int x23), (2, .int x22), (4, .ref (lv i)), (0, .ref (z 0)), (1, .int n)]) hx hb dX5_ship_78 hl (k := 2) rfl (by rw [ex23]; rfl) (by decide) rfl (fun ls hl => ?_)
            refine lv_goto (tgt := 9) hx hb dX5_ship_81 (by decide) ?_
            exact ih _ (i + 1) x23 x22 H locs ls hP hD hS (lv_sub hl [0, 1, 3, 4] rfl) (by omega) (kp_setJ K16) (by rw [q_ship_t ⟨(nI_inj (by omega) (by omega) ((ex9.trans ((hRq.2.1 i hiq).2.2.2.2.2.2 22 (by decide))).symm.trans (c10.trans hnc))), h107⟩]; exact hR21) (by rw [ex23, hi]; exact nI_1 i) him (hcn.elim fun c h => ⟨c + 1, Nat.succ_le_succ h.1, by rw [ex22, h.2.1]; exact nI_1 c, by rw [q_ship_t ⟨(nI_inj (by omega) (by omega) ((ex9.trans ((hRq.2.1 i hiq).2.2.2.2.2.2 22 (by decide))).symm.trans (c10.trans hnc))), h107⟩, q_at]; have := h.2.2; omega⟩)
  exact loop 13 _ 0 0 0 _ _ _ hP hD hS (lv_sub hl [0, 1, 2, 3] rfl) (by omega) hI.kp hR rfl (Nat.zero_le _) ⟨0, Nat.le_refl _, rfl, Nat.le_refl _⟩
