theorem dL_isLooked_0 : decode cL_isLooked 0 = .ok (.iconst 1, 1) := by decide +kernel
theorem dL_isLooked_1 : decode cL_isLooked 1 = .ok (.istore 6, 2) := by decide +kernel
theorem dL_isLooked_3 : decode cL_isLooked 3 = .ok (.iconst 0, 1) := by decide +kernel
theorem dL_isLooked_4 : decode cL_isLooked 4 = .ok (.istore 7, 2) := by decide +kernel
theorem dL_isLooked_6 : decode cL_isLooked 6 = .ok (.iload 7, 2) := by decide +kernel
theorem dL_isLooked_8 : decode cL_isLooked 8 = .ok (.iload_n 2, 1) := by decide +kernel
theorem dL_isLooked_9 : decode cL_isLooked 9 = .ok (.if_icmp .ge 70, 3) := by decide +kernel
theorem dL_isLooked_12 : decode cL_isLooked 12 = .ok (.aload_n 0, 1) := by decide +kernel
theorem dL_isLooked_13 : decode cL_isLooked 13 = .ok (.iload 7, 2) := by decide +kernel
theorem dL_isLooked_15 : decode cL_isLooked 15 = .ok (.invokestatic 134, 3) := by decide +kernel
theorem dL_isLooked_18 : decode cL_isLooked 18 = .ok (.aload_n 0, 1) := by decide +kernel
theorem dL_isLooked_19 : decode cL_isLooked 19 = .ok (.invokevirtual 160, 3) := by decide +kernel
theorem dL_isLooked_22 : decode cL_isLooked 22 = .ok (.iconst 1, 1) := by decide +kernel
theorem dL_isLooked_23 : decode cL_isLooked 23 = .ok (.isub, 1) := by decide +kernel
theorem dL_isLooked_24 : decode cL_isLooked 24 = .ok (.if_icmp .ne 7, 3) := by decide +kernel
theorem dL_isLooked_27 : decode cL_isLooked 27 = .ok (.iconst 1, 1) := by decide +kernel
theorem dL_isLooked_28 : decode cL_isLooked 28 = .ok (.goto 4, 3) := by decide +kernel
theorem dL_isLooked_31 : decode cL_isLooked 31 = .ok (.iconst 0, 1) := by decide +kernel
theorem dL_isLooked_32 : decode cL_isLooked 32 = .ok (.istore 8, 2) := by decide +kernel
theorem dL_isLooked_34 : decode cL_isLooked 34 = .ok (.iload 6, 2) := by decide +kernel
theorem dL_isLooked_36 : decode cL_isLooked 36 = .ok (.iload 8, 2) := by decide +kernel
theorem dL_isLooked_38 : decode cL_isLooked 38 = .ok (.ifCond .eq 27, 3) := by decide +kernel
theorem dL_isLooked_41 : decode cL_isLooked 41 = .ok (.aload_n 0, 1) := by decide +kernel
theorem dL_isLooked_42 : decode cL_isLooked 42 = .ok (.iload 7, 2) := by decide +kernel
theorem dL_isLooked_44 : decode cL_isLooked 44 = .ok (.invokestatic 129, 3) := by decide +kernel
theorem dL_isLooked_47 : decode cL_isLooked 47 = .ok (.bipush 112, 2) := by decide +kernel
theorem dL_isLooked_49 : decode cL_isLooked 49 = .ok (.if_icmp .ne 20, 3) := by decide +kernel
theorem dL_isLooked_52 : decode cL_isLooked 52 = .ok (.aload 5, 2) := by decide +kernel
theorem dL_isLooked_54 : decode cL_isLooked 54 = .ok (.aload 4, 2) := by decide +kernel
theorem dL_isLooked_56 : decode cL_isLooked 56 = .ok (.aload_n 3, 1) := by decide +kernel
theorem dL_isLooked_57 : decode cL_isLooked 57 = .ok (.iload 7, 2) := by decide +kernel
theorem dL_isLooked_59 : decode cL_isLooked 59 = .ok (.iaload, 1) := by decide +kernel
theorem dL_isLooked_60 : decode cL_isLooked 60 = .ok (.iaload, 1) := by decide +kernel
theorem dL_isLooked_61 : decode cL_isLooked 61 = .ok (.baload, 1) := by decide +kernel
theorem dL_isLooked_62 : decode cL_isLooked 62 = .ok (.ifCond .ne 7, 3) := by decide +kernel
theorem dL_isLooked_65 : decode cL_isLooked 65 = .ok (.iconst 1, 1) := by decide +kernel
theorem dL_isLooked_66 : decode cL_isLooked 66 = .ok (.goto 4, 3) := by decide +kernel
theorem dL_isLooked_69 : decode cL_isLooked 69 = .ok (.iconst 0, 1) := by decide +kernel
theorem dL_isLooked_70 : decode cL_isLooked 70 = .ok (.iand, 1) := by decide +kernel
theorem dL_isLooked_71 : decode cL_isLooked 71 = .ok (.istore 6, 2) := by decide +kernel
theorem dL_isLooked_73 : decode cL_isLooked 73 = .ok (.iinc 7 1, 3) := by decide +kernel
theorem dL_isLooked_76 : decode cL_isLooked 76 = .ok (.goto (-70), 3) := by decide +kernel
theorem dL_isLooked_79 : decode cL_isLooked 79 = .ok (.iload 6, 2) := by decide +kernel
theorem dL_isLooked_81 : decode cL_isLooked 81 = .ok (.ifCond .eq 15, 3) := by decide +kernel
theorem dL_isLooked_84 : decode cL_isLooked 84 = .ok (.aload_n 0, 1) := by decide +kernel
theorem dL_isLooked_85 : decode cL_isLooked 85 = .ok (.iload_n 1, 1) := by decide +kernel
theorem dL_isLooked_86 : decode cL_isLooked 86 = .ok (.invokestatic 216, 3) := by decide +kernel
theorem dL_isLooked_89 : decode cL_isLooked 89 = .ok (.ifCond .lt 7, 3) := by decide +kernel
theorem dL_isLooked_92 : decode cL_isLooked 92 = .ok (.iconst 1, 1) := by decide +kernel
theorem dL_isLooked_93 : decode cL_isLooked 93 = .ok (.goto 4, 3) := by decide +kernel
theorem dL_isLooked_96 : decode cL_isLooked 96 = .ok (.iconst 0, 1) := by decide +kernel
theorem dL_isLooked_97 : decode cL_isLooked 97 = .ok (.ireturn, 1) := by decide +kernel
set_option maxHeartbeats 4000000 in
set_option maxRecDepth 100000 in
theorem c_L_isLooked (l : Launch) (hl0 : l.stackTraces = false) (g : kG) (e0 : Nat) (z av lv : Nat → Nat) (S O : wPS) (sz : Nat) (q : qS) (hI : Inv z e0 S) (hR : Rq z av lv S q) (hW : q_W q) (hL : q_L q) (hU : q_U q ≤ 5000) (ra rr rb ri cj : Nat) (ca on : Int32) (hO9 : q_O O ra rr rb ri q) (hca : ca.toInt = ((cj : Nat) : Int)) (hcj : cj < 3) (hon : on.toInt = ((q 73 0 : Nat) : Int)) (h57p : 0 < q 57 0) (hlk2 : ∀ n, n < q 73 0 → q 25 n = q 57 0 → q 24 n = 112) : kMv l g e0 yL_isLooked cL_isLooked 9 (some .boolean) 9 147 39 234 [.ref (z 0), .int ca, .int on, .ref ri, .ref ra, .ref rb] S O sz (fun v => v = .int 1) := by
  refine kMv.of (by decide) (Nat.le_of_ble_eq_true rfl) ?_
  intro p e s m below meth c ls B
  obtain ⟨F, hr, hlk, hP, hO, hK, hD, hDO, hdis, hE, hNc, hS, hA, hl, hsz⟩ := B
  subst hsz
  have hx := F.1
  have hb := F.2.1
  have hl : lv_has ls 9 [(0, .ref (z 0)), (1, .int ca), (2, .int on), (3, .ref ri), (4, .ref ra), (5, .ref rb)] := hl
  have h721 : q 72 0 = 3 := hL.1
  have h72 : q 72 0 ≤ 12 := by omega
  have h73 : q 73 0 ≤ 12 := hW.1.1.2.1
  have hro : q 42 0 ≤ 504 := q_room hW.1.1 hW.1.2.2.2.1 hW.1.2.2.2.2.1
  have hroom : q 42 0 < 516 := by omega
  have h57 : q 57 0 ≤ 20 := hW.1.2.2.2.2.1.1
  have h56 : q 56 0 ≤ 1439 := hL.2.2.2.2.2.1
  have h25 : ∀ i, i < q 73 0 → q 25 i < 2 ^ 31 := fun i hi => by have := (hW.1.2.2.1 i hi).2.2.2; omega
  obtain ⟨⟨oa, la⟩, ⟨orr, lr⟩, ⟨obb, lb⟩, ⟨oi, li⟩, hne, hra, hrb, hri⟩ := hO9
  refine lv_iconst (v := 1) hx hb dL_isLooked_0 (by decide) ?_
  refine lv_istore (lv' := [(6, .int 1), (0, .ref (z 0)), (1, .int ca), (2, .int on), (3, .ref ri), (4, .ref ra), (5, .ref rb)]) hx hb dL_isLooked_1 hl (by decide) rfl (fun ls hl => ?_)
  refine lv_iconst (v := 0) hx hb dL_isLooked_3 (by decide) ?_
  refine lv_istore (lv' := [(7, .int 0), (6, .int 1), (0, .ref (z 0)), (1, .int ca), (2, .int on), (3, .ref ri), (4, .ref ra), (5, .ref rb)]) hx hb dL_isLooked_4 hl (by decide) rfl (fun ls hl => ?_)
  have loop : ∀ (fu i : Nat) (xi : Int32) (kc ns : Nat) (H : Heap) (locs : List Loc) (ls : Array Slot), va_P (kD g) vwCl (kW g S) H → va_P (kD g) vwCl (kW g O) H → va_D (kA2 S O s.heap.size) (kW g O) → va_S (kA2 S O s.heap.size) s.heap H locs → lv_has ls 9 [(7, .int xi), (6, .int 1), (0, .ref (z 0)), (1, .int ca), (2, .int on), (3, .ref ri), (4, .ref ra), (5, .ref rb)] → q 73 0 - i < fu → xi.toInt = ((i : Nat) : Int) → i ≤ q 73 0 → kc ≤ 0 + 3 * i → ns ≤ 0 + 18 * i → W p l e ({ frames := 9, cells := 39, slots := 234, locals := 147 }) s m ([.ref (z 0), .int ca, .int on, .ref ri, .ref ra, .ref rb] : List Value).toArray below meth c H locs kc ns (vx_MQ below (kQv g S O s.heap.size (fun v => v = .int 1)) kXw ([.ref (z 0), .int ca, .int on, .ref ri, .ref ra, .ref rb] : List Value).toArray s 39 234 (kA2 S O s.heap.size)) (F0 m 6 ls []) := by
    intro fu
    induction fu with
    | zero => intro i xi  kc ns H locs ls _ _ _ _ _ hfu; exact absurd hfu (Nat.not_lt_zero _)
    | succ fu ih =>
      intro i xi  kc ns H locs ls hP hO hDO hS hl hfu hi hin hkc hns 
      refine lv_iload hx hb dL_isLooked_6 (lv_at hl 0 rfl) ?_
      refine lv_iload_n hx hb dL_isLooked_8 rfl (lv_at hl 4 rfl) ?_
      refine lv_icmp_ge (tgt := 79) hx hb dL_isLooked_9 (by decide) (fun c1 => ?_) (fun c1 => ?_)
      · have d1 : on.toInt ≤ xi.toInt := (kc_le (rfl : on.toInt = on.toInt) (rfl : xi.toInt = xi.toInt)).mp c1
        refine lv_iload hx hb dL_isLooked_79 (lv_at hl 1 rfl) ?_
        refine lv_if_eq (tgt := 96) hx hb dL_isLooked_81 (by decide) (fun c2 => ?_) (fun c2 => ?_)
        · exact absurd c2 (by decide)
        · refine lv_aload_n hx hb dL_isLooked_84 rfl (lv_at hl 2 rfl) ?_
          refine lv_iload_n hx hb dL_isLooked_85 rfl (lv_at hl 3 rfl) ?_
          refine kcallhI (kSthW (n := 2) (As := [.ref (z 0), .int ca]) (rest := []) F hE hNc hK hP hD hS hA (kh_minutesLeft l g e0 S _ (z 0) ca _ _ hI.ob0 (c_X5_minutesLeft l hl0 g e0 z S _ hI ca) (fun E h => h.1)) kw_443 kw_444 kw_61 kw_445 (by decide +kernel) ⟨Nat.le_of_ble_eq_true rfl, Nat.le_of_ble_eq_true rfl⟩ rfl hl.1 rfl (Nat.le_of_ble_eq_true rfl) dL_isLooked_86 ⟨(by show kc + 1 ≤ 39; omega), (by show ns + 6 ≤ 234; omega)⟩) rfl hD hS hA (fun r3 T1 H locs hp hP hq1x hq2x hq3x hf1 hS => ?_)
          clear hq1x hq2x hq3x
          have hO := kO_keep hO hdis hf1
          obtain ⟨hT, nr3⟩ := kp_M (i := cj) hp hca (by omega) (fun j hj => (hR.2.2.2.2.2.2.2.2 j hj).trans (congrArg nI (hL.2.2.2.2.2.2 j hj))) (hR.2.2.2.2.2.2.1.1 56 (by decide)) (by omega)
          subst hT
          clear hp
          refine lv_if_lt (tgt := 96) hx hb dL_isLooked_89 (by decide) (fun c4 => ?_) (fun c4 => ?_)
          · have d4 : r3.toInt < (0) := (kc_lt (rfl : r3.toInt = r3.toInt) (by decide : (0 : Int32).toInt = 0)).mp c4
            exfalso; omega
          · have d4 : ¬ (r3.toInt < (0)) := mt (kc_lt (rfl : r3.toInt = r3.toInt) (by decide : (0 : Int32).toInt = 0)).mpr c4
            refine lv_iconst (v := 1) hx hb dL_isLooked_92 (by decide) ?_
            refine lv_goto (tgt := 97) hx hb dL_isLooked_93 (by decide) ?_
            exact kEndv F hr rfl hlk hP hO hS (by omega) (by omega) dL_isLooked_97 rfl
      · have d1 : ¬ (on.toInt ≤ xi.toInt) := mt (kc_le (rfl : on.toInt = on.toInt) (rfl : xi.toInt = xi.toInt)).mpr c1
        have him : i < q 73 0 := by omega
        have h4a := hW.1.2.2.1 i him
        have h4b := hW.2.2 i him
        have h1 := hW.1.1.2.2.1 i him
        have h10 := hW.1.1.2.2.2 (q 21 i) h1.1
        have hb1 := hL.2.2.1 _ h10
        have hlk := hlk2 i him
        refine lv_aload_n hx hb dL_isLooked_12 rfl (lv_at hl 2 rfl) ?_
        refine lv_iload hx hb dL_isLooked_13 (lv_at hl 0 rfl) ?_
        refine kcallhI (kSthW (n := 2) (As := [.ref (z 0), .int xi]) (rest := []) F hE hNc hK hP hD hS hA (kh_waveOf l g e0 S _ (z 0) xi _ _ hI.ob0 (c_X5_waveOf_x l hl0 g e0 z S _ hI av lv q hR h73 h25 xi) (fun E h => h.imp And.left And.left)) kw_281 kw_282 kw_61 kw_283 (by decide +kernel) ⟨Nat.le_of_ble_eq_true rfl, Nat.le_of_ble_eq_true rfl⟩ rfl hl.1 rfl (Nat.le_of_ble_eq_true rfl) dL_isLooked_15 ⟨(by show kc + 2 ≤ 39; omega), (by show ns + 12 ≤ 234; omega)⟩) rfl hD hS hA (fun r5 T1 H locs hp hP hq1x hq2x hq3x hf1 hS => ?_)
        clear hq1x hq2x hq3x
        have hO := kO_keep hO hdis hf1
        obtain ⟨hT, vr5, ar5, br5⟩ := kp_W (i := i) hp hi (by omega) (by omega) (by omega)
        subst hT
        clear hp
        refine lv_aload_n hx hb dL_isLooked_18 rfl (lv_at hl 2 rfl) ?_
        refine kcallWI (kV (n := 0) (As := []) (rest := [.int r5]) (b := z 0) (C := RX5) F hE hK hP hD hS hA (c_X5_waves l hl0 g e0 z S _ hI) (rr_Pickwave hK hP hI.ob0) kw_173 kw_174 kw_175 kw_2 kw_176 (by decide +kernel) ⟨Nat.le_of_ble_eq_true rfl, Nat.le_of_ble_eq_true rfl⟩ rfl hl.1 rfl (Nat.le_of_ble_eq_true rfl) dL_isLooked_19 ⟨(by show kc + 2 + 0 ≤ 39; omega), (by show ns + 12 + 0 ≤ 234; omega)⟩) rfl hD hS hA (fun _ _ _ _ _ h => False.elim h) (fun r6 T1 H locs hp hP hq1x hq2x hq3x hf1 hS => ?_)
        clear hq1x hq2x hq3x
        have hO := kO_keep hO hdis hf1
        obtain ⟨hT, er6⟩ := hp
        have hT := hT.symm
        subst hT
        have vr6 : r6 = nI (q 57 0) := er6.trans (hR.2.2.2.2.2.2.1.1 57 (by decide))
        have nr6 : r6.toInt = ((q 57 0 : Nat) : Int) := kt_nI vr6 (by omega)
        refine lv_iconst (v := 1) hx hb dL_isLooked_22 (by decide) ?_
        refine lv_isub hx hb dL_isLooked_23 ?_
        refine lv_topi (fun x7 ex7 => ?_)
        have tx7 : x7.toInt = r6.toInt - (1) := kt_sub ex7 (rfl : r6.toInt = r6.toInt) (by decide : (1 : Int32).toInt = 1) (by omega) (by omega)
        refine lv_icmp_ne (tgt := 31) hx hb dL_isLooked_24 (by decide) (fun c8 => ?_) (fun c8 => ?_)
        · have d8 : r5.toInt ≠ x7.toInt := mt (kc_eq (rfl : r5.toInt = r5.toInt) (rfl : x7.toInt = x7.toInt)).mpr c8
          refine lv_iconst (v := 0) hx hb dL_isLooked_31 (by decide) ?_
          refine lv_istore (lv' := [(8, .int 0), (7, .int xi), (6, .int 1), (0, .ref (z 0)), (1, .int ca), (2, .int on), (3, .ref ri), (4, .ref ra), (5, .ref rb)]) hx hb dL_isLooked_32 hl (by decide) rfl (fun ls hl => ?_)
          refine lv_iload hx hb dL_isLooked_34 (lv_at hl 2 rfl) ?_
          refine lv_iload hx hb dL_isLooked_36 (lv_at hl 0 rfl) ?_
          refine lv_if_eq (tgt := 65) hx hb dL_isLooked_38 (by decide) (fun c9 => ?_) (fun c9 => ?_)
          · refine lv_iconst (v := 1) hx hb dL_isLooked_65 (by decide) ?_
            refine lv_goto (tgt := 70) hx hb dL_isLooked_66 (by decide) ?_
            refine lv_iand hx hb dL_isLooked_70 ?_
            refine lv_topi (fun x10 e10 => ?_)
            obtain rfl : x10 = 1 := e10.trans (by decide)
            refine lv_istore (lv' := [(6, .int 1), (8, .int 0), (7, .int xi), (0, .ref (z 0)), (1, .int ca), (2, .int on), (3, .ref ri), (4, .ref ra), (5, .ref rb)]) hx hb dL_isLooked_71 hl (by decide) rfl (fun ls hl => ?_)
            obtain ⟨x11, ex11⟩ : ∃ y : Int32, y = xi + 1 := ⟨_, rfl⟩
            refine lv_iinc (v := x11) (lv' := [(7, .int x11), (6, .int 1), (8, .int 0), (0, .ref (z 0)), (1, .int ca), (2, .int on), (3, .ref ri), (4, .ref ra), (5, .ref rb)]) hx hb dL_isLooked_73 hl (k := 2) rfl (by rw [ex11]; rfl) (by decide) rfl (fun ls hl => ?_)
            have tx11 : x11.toInt = xi.toInt + 1 := kt_add ex11 (rfl : xi.toInt = xi.toInt) (by decide) (by omega) (by omega)
            refine lv_goto (tgt := 6) hx hb dL_isLooked_76 (by decide) ?_
            exact ih (i + 1) x11 _ _ H locs ls hP hO hDO hS (lv_sub hl [0, 1, 3, 4, 5, 6, 7, 8] rfl) (by omega) (by omega) (by omega) (by omega) (by omega)
          · exact absurd (by decide) c9
        · have d8 : r5.toInt = x7.toInt := (kc_eq (rfl : r5.toInt = r5.toInt) (rfl : x7.toInt = x7.toInt)).mp c8
          refine lv_iconst (v := 1) hx hb dL_isLooked_27 (by decide) ?_
          refine lv_goto (tgt := 32) hx hb dL_isLooked_28 (by decide) ?_
          refine lv_istore (lv' := [(8, .int 1), (7, .int xi), (6, .int 1), (0, .ref (z 0)), (1, .int ca), (2, .int on), (3, .ref ri), (4, .ref ra), (5, .ref rb)]) hx hb dL_isLooked_32 hl (by decide) rfl (fun ls hl => ?_)
          refine lv_iload hx hb dL_isLooked_34 (lv_at hl 2 rfl) ?_
          refine lv_iload hx hb dL_isLooked_36 (lv_at hl 0 rfl) ?_
          refine lv_if_eq (tgt := 65) hx hb dL_isLooked_38 (by decide) (fun c12 => ?_) (fun c12 => ?_)
          · exact absurd c12 (by decide)
          · refine lv_aload_n hx hb dL_isLooked_41 rfl (lv_at hl 3 rfl) ?_
            refine lv_iload hx hb dL_isLooked_42 (lv_at hl 1 rfl) ?_
            refine kcallhI (kSthW (n := 2) (As := [.ref (z 0), .int xi]) (rest := [.int 1]) F hE hNc hK hP hD hS hA (kh_state l g e0 S _ (z 0) xi _ _ hI.ob0 (c_X5_state_x l hl0 g e0 z S _ hI av lv q hR h73 xi) (fun E h => h.1)) kw_260 kw_261 kw_61 kw_262 (by decide +kernel) ⟨Nat.le_of_ble_eq_true rfl, Nat.le_of_ble_eq_true rfl⟩ rfl hl.1 rfl (Nat.le_of_ble_eq_true rfl) dL_isLooked_44 ⟨(by show kc + 2 + 0 + 1 ≤ 39; omega), (by show ns + 12 + 0 + 6 ≤ 234; omega)⟩) rfl hD hS hA (fun r13 T1 H locs hp hP hq1x hq2x hq3x hf1 hS => ?_)
            clear hq1x hq2x hq3x
            have hO := kO_keep hO hdis hf1
            obtain ⟨hT, nr13⟩ := kp_Ac (i := i) hp hi (by omega) (by omega) (by omega)
            subst hT
            clear hp
            refine lv_bipush (v := 112) hx hb dL_isLooked_47 (by decide) ?_
            refine lv_icmp_ne (tgt := 69) hx hb dL_isLooked_49 (by decide) (fun c14 => ?_) (fun c14 => ?_)
            · have d14 : r13.toInt ≠ (112) := mt (kc_eq (rfl : r13.toInt = r13.toInt) (by decide : (112 : Int32).toInt = 112)).mpr c14
              exfalso; omega
            · have d14 : r13.toInt = (112) := (kc_eq (rfl : r13.toInt = r13.toInt) (by decide : (112 : Int32).toInt = 112)).mp c14
              refine lv_aload hx hb dL_isLooked_52 (lv_at hl 8 rfl) ?_
              refine lv_aload hx hb dL_isLooked_54 (lv_at hl 7 rfl) ?_
              refine lv_aload_n hx hb dL_isLooked_56 rfl (lv_at hl 6 rfl) ?_
              refine lv_iload hx hb dL_isLooked_57 (lv_at hl 1 rfl) ?_
              refine rd_I F hK hO oi (by rw [li]; exact kt_in hi (by omega) (by decide)) dL_isLooked_59 ?_
              refine lv_topi (fun x15 ex15 => ?_)
              have nx15 : x15.toInt = ((q 21 i : Nat) : Int) := kt_nI (by rw [ex15, kt_clamp hi (by omega)]; exact hri i (by omega)) (by omega)
              refine rd_I F hK hO oa (by rw [la]; exact kt_in nx15 (by omega) (by decide)) dL_isLooked_60 ?_
              refine lv_topi (fun x16 ex16 => ?_)
              have nx16 : x16.toInt = ((q 10 (q 21 i) : Nat) : Int) := kt_nI (by rw [ex16, kt_clamp nx15 (by omega)]; exact (hra (q 21 i) (by omega)).1) (by omega)
              refine rd_Z F hK hO obb (by rw [lb]; exact kt_in nx16 (by omega) (by decide)) dL_isLooked_61 ?_
              refine lv_topi (fun x17 ex17 => ?_)
              have nx17 : x17.toInt = ((q 1 (q 10 (q 21 i)) : Nat) : Int) := kt_nI (by rw [ex17, kt_clamp nx16 (by omega)]; exact hrb (q 10 (q 21 i)) (by omega)) (by omega)
              refine lv_if_ne (tgt := 69) hx hb dL_isLooked_62 (by decide) (fun c18 => ?_) (fun c18 => ?_)
              · have d18 : x17.toInt ≠ (0) := mt (kc_eq (rfl : x17.toInt = x17.toInt) (by decide : (0 : Int32).toInt = 0)).mpr c18
                exfalso; omega
              · have d18 : x17.toInt = (0) := (kc_eq (rfl : x17.toInt = x17.toInt) (by decide : (0 : Int32).toInt = 0)).mp c18
                refine lv_iconst (v := 1) hx hb dL_isLooked_65 (by decide) ?_
                refine lv_goto (tgt := 70) hx hb dL_isLooked_66 (by decide) ?_
                refine lv_iand hx hb dL_isLooked_70 ?_
                refine lv_topi (fun x19 e19 => ?_)
                obtain rfl : x19 = 1 := e19.trans (by decide)
                refine lv_istore (lv' := [(6, .int 1), (8, .int 1), (7, .int xi), (0, .ref (z 0)), (1, .int ca), (2, .int on), (3, .ref ri), (4, .ref ra), (5, .ref rb)]) hx hb dL_isLooked_71 hl (by decide) rfl (fun ls hl => ?_)
                obtain ⟨x20, ex20⟩ : ∃ y : Int32, y = xi + 1 := ⟨_, rfl⟩
                refine lv_iinc (v := x20) (lv' := [(7, .int x20), (6, .int 1), (8, .int 1), (0, .ref (z 0)), (1, .int ca), (2, .int on), (3, .ref ri), (4, .ref ra), (5, .ref rb)]) hx hb dL_isLooked_73 hl (k := 2) rfl (by rw [ex20]; rfl) (by decide) rfl (fun ls hl => ?_)
                have tx20 : x20.toInt = xi.toInt + 1 := kt_add ex20 (rfl : xi.toInt = xi.toInt) (by decide) (by omega) (by omega)
                refine lv_goto (tgt := 6) hx hb dL_isLooked_76 (by decide) ?_
                exact ih (i + 1) x20 _ _ H locs ls hP hO hDO hS (lv_sub hl [0, 1, 3, 4, 5, 6, 7, 8] rfl) (by omega) (by omega) (by omega) (by omega) (by omega)
  exact loop 13 0 0 _ _ _ _ _ hP hO hDO hS (lv_sub hl [0, 1, 2, 3, 4, 5, 6, 7] rfl) (by omega) (by decide) (Nat.zero_le _) (by omega) (by omega)
