theorem tk_self56 {z : Nat → Nat} {S : wPS} : Tk z (setF S 56 (z 0) (pF S 56 (z 0) + nI 0)) S := by
  refine ⟨(uF_of (Or.inl (by decide))).symm, fun _ _ => ⟨(uF_of (Or.inl (by decide))).symm, (uF_of (Or.inl (by decide))).symm⟩, fun _ _ => rfl, ?_, (uF_of (Or.inl (by decide))).symm⟩
  rw [uF_at]
  exact (Int32.add_zero _).symm
theorem kshare0 : ((List.range 13).all fun m => m == 0 || (List.range 13).all fun k => decide (FP.fdiv (FP.i2f (nI k)) (FP.i2f (nI m)) &&& 0x7fffffff ≤ 0x7f800000) && decide (FP.f2d (FP.fdiv (FP.i2f (nI k)) (FP.i2f (nI m))) &&& 0x7fffffffffffffff ≤ 0x7ff0000000000000)) = true := by decide +kernel
theorem kshare {k m : Nat} (h1 : k ≤ m) (h2 : m ≤ 12) (h3 : 1 ≤ m) : vf_n32 (FP.fdiv (FP.i2f (nI k)) (FP.i2f (nI m))) ∧ vf_n64 (FP.f2d (FP.fdiv (FP.i2f (nI k)) (FP.i2f (nI m)))) := by
  have h := List.all_eq_true.mp kshare0 m (List.mem_range.mpr (by omega))
  rcases Bool.or_eq_true _ _ |>.mp h with q | q
  · exact absurd (beq_iff_eq.mp q) (by omega)
  · have q2 := List.all_eq_true.mp q k (List.mem_range.mpr (by omega))
    rw [Bool.and_eq_true] at q2
    unfold vf_n32 vf_n64
    exact ⟨of_decide_eq_true q2.1, of_decide_eq_true q2.2⟩
theorem dX5_pass_0 : decode cX5_pass 0 = .ok (.iload_n 1, 1) := by decide +kernel
theorem dX5_pass_1 : decode cX5_pass 1 = .ok (.iconst 1, 1) := by decide +kernel
theorem dX5_pass_2 : decode cX5_pass 2 = .ok (.bipush 60, 2) := by decide +kernel
theorem dX5_pass_4 : decode cX5_pass 4 = .ok (.invokestatic 57, 3) := by decide +kernel
theorem dX5_pass_7 : decode cX5_pass 7 = .ok (.ifCond .ne 14, 3) := by decide +kernel
theorem dX5_pass_10 : decode cX5_pass 10 = .ok (.new 50, 3) := by decide +kernel
theorem dX5_pass_13 : decode cX5_pass 13 = .ok (.dup, 1) := by decide +kernel
theorem dX5_pass_14 : decode cX5_pass 14 = .ok (.ldc_w 261, 3) := by decide +kernel
theorem dX5_pass_17 : decode cX5_pass 17 = .ok (.invokespecial 54, 3) := by decide +kernel
theorem dX5_pass_20 : decode cX5_pass 20 = .ok (.athrow, 1) := by decide +kernel
theorem dX5_pass_21 : decode cX5_pass 21 = .ok (.aload_n 0, 1) := by decide +kernel
theorem dX5_pass_22 : decode cX5_pass 22 = .ok (.getfield 212, 3) := by decide +kernel
theorem dX5_pass_25 : decode cX5_pass 25 = .ok (.iload_n 1, 1) := by decide +kernel
theorem dX5_pass_26 : decode cX5_pass 26 = .ok (.iadd, 1) := by decide +kernel
theorem dX5_pass_27 : decode cX5_pass 27 = .ok (.sipush 1439, 3) := by decide +kernel
theorem dX5_pass_30 : decode cX5_pass 30 = .ok (.if_icmp .le 14, 3) := by decide +kernel
theorem dX5_pass_33 : decode cX5_pass 33 = .ok (.new 50, 3) := by decide +kernel
theorem dX5_pass_36 : decode cX5_pass 36 = .ok (.dup, 1) := by decide +kernel
theorem dX5_pass_37 : decode cX5_pass 37 = .ok (.ldc_w 263, 3) := by decide +kernel
theorem dX5_pass_40 : decode cX5_pass 40 = .ok (.invokespecial 54, 3) := by decide +kernel
theorem dX5_pass_43 : decode cX5_pass 43 = .ok (.athrow, 1) := by decide +kernel
theorem dX5_pass_44 : decode cX5_pass 44 = .ok (.iconst 0, 1) := by decide +kernel
theorem dX5_pass_45 : decode cX5_pass 45 = .ok (.istore_n 2, 1) := by decide +kernel
theorem dX5_pass_46 : decode cX5_pass 46 = .ok (.iconst 0, 1) := by decide +kernel
theorem dX5_pass_47 : decode cX5_pass 47 = .ok (.istore_n 3, 1) := by decide +kernel
theorem dX5_pass_48 : decode cX5_pass 48 = .ok (.iload_n 3, 1) := by decide +kernel
theorem dX5_pass_49 : decode cX5_pass 49 = .ok (.iload_n 1, 1) := by decide +kernel
theorem dX5_pass_50 : decode cX5_pass 50 = .ok (.if_icmp .ge 51, 3) := by decide +kernel
theorem dX5_pass_53 : decode cX5_pass 53 = .ok (.aload_n 0, 1) := by decide +kernel
theorem dX5_pass_54 : decode cX5_pass 54 = .ok (.dup, 1) := by decide +kernel
theorem dX5_pass_55 : decode cX5_pass 55 = .ok (.getfield 212, 3) := by decide +kernel
theorem dX5_pass_58 : decode cX5_pass 58 = .ok (.iconst 1, 1) := by decide +kernel
theorem dX5_pass_59 : decode cX5_pass 59 = .ok (.iadd, 1) := by decide +kernel
theorem dX5_pass_60 : decode cX5_pass 60 = .ok (.putfield 212, 3) := by decide +kernel
theorem dX5_pass_63 : decode cX5_pass 63 = .ok (.iconst 0, 1) := by decide +kernel
theorem dX5_pass_64 : decode cX5_pass 64 = .ok (.istore 4, 2) := by decide +kernel
theorem dX5_pass_66 : decode cX5_pass 66 = .ok (.iload 4, 2) := by decide +kernel
theorem dX5_pass_68 : decode cX5_pass 68 = .ok (.aload_n 0, 1) := by decide +kernel
theorem dX5_pass_69 : decode cX5_pass 69 = .ok (.getfield 24, 3) := by decide +kernel
theorem dX5_pass_72 : decode cX5_pass 72 = .ok (.arraylength, 1) := by decide +kernel
theorem dX5_pass_73 : decode cX5_pass 73 = .ok (.if_icmp .ge 22, 3) := by decide +kernel
theorem dX5_pass_76 : decode cX5_pass 76 = .ok (.iload_n 2, 1) := by decide +kernel
theorem dX5_pass_77 : decode cX5_pass 77 = .ok (.aload_n 0, 1) := by decide +kernel
theorem dX5_pass_78 : decode cX5_pass 78 = .ok (.getfield 24, 3) := by decide +kernel
theorem dX5_pass_81 : decode cX5_pass 81 = .ok (.iload 4, 2) := by decide +kernel
theorem dX5_pass_83 : decode cX5_pass 83 = .ok (.aaload, 1) := by decide +kernel
theorem dX5_pass_84 : decode cX5_pass 84 = .ok (.invokestatic 265, 3) := by decide +kernel
theorem dX5_pass_87 : decode cX5_pass 87 = .ok (.iadd, 1) := by decide +kernel
theorem dX5_pass_88 : decode cX5_pass 88 = .ok (.istore_n 2, 1) := by decide +kernel
theorem dX5_pass_89 : decode cX5_pass 89 = .ok (.iinc 4 1, 3) := by decide +kernel
theorem dX5_pass_92 : decode cX5_pass 92 = .ok (.goto (-26), 3) := by decide +kernel
theorem dX5_pass_95 : decode cX5_pass 95 = .ok (.iinc 3 1, 3) := by decide +kernel
theorem dX5_pass_98 : decode cX5_pass 98 = .ok (.goto (-50), 3) := by decide +kernel
theorem dX5_pass_101 : decode cX5_pass 101 = .ok (.iload_n 2, 1) := by decide +kernel
theorem dX5_pass_102 : decode cX5_pass 102 = .ok (.ireturn, 1) := by decide +kernel
set_option maxHeartbeats 4000000 in
set_option maxRecDepth 100000 in
theorem c_X5_pass (l : Launch) (hl0 : l.stackTraces = false) (g : kG) (e0 : Nat) (z : Nat → Nat) (S : wPS) (sz : Nat) (hI : Inv z e0 S) (n : Int32) : kM l g e0 yX5_pass cX5_pass 5 (some .int) 6 82 1 6 [.ref (z 0), .int n] S sz (pI (fun r T => (¬ n < 1 ∧ ¬ 60 < n) ∧ ¬ 1439 < pF S 56 (z 0) + n ∧ Inv z e0 T ∧ Tk z (setF S 56 (z 0) (pF S 56 (z 0) + n)) T ∧ (pG S 30 (z 8) = none → pG S 30 (z 9) = none → r = 0))) (fun E => E = xA ∧ ((n < 1 ∨ 60 < n) ∨ 1439 < pF S 56 (z 0) + n)) := by
  refine kM.of (by decide) (Nat.le_of_ble_eq_true rfl) ?_
  intro p e s m below meth c ls B hin
  obtain ⟨F, hr, hlk, hte, hP, hK, hD, hE, hS, hA, hl, hsz⟩ := B
  subst hsz
  have hx := F.1
  have hb := F.2.1
  have hl : lv_has ls 5 [(0, .ref (z 0)), (1, .int n)] := hl
  refine lv_iload_n hx hb dX5_pass_0 rfl (lv_at hl 1 rfl) ?_
  refine lv_iconst (v := 1) hx hb dX5_pass_1 (by decide) ?_
  refine lv_bipush (v := 60) hx hb dX5_pass_2 (by decide) ?_
  refine kcallI (kSt (n := 3) (As := [.int n, .int 1, .int 60]) (rest := []) F hE hK hP hD hS hA (c_X5_isBetween l hl0 g e0 S _ n 1 60) kw_106 kw_107 kw_2 kw_108 (by decide +kernel) ⟨Nat.le_of_ble_eq_true rfl, Nat.le_of_ble_eq_true rfl⟩ rfl hl.1 rfl (Nat.le_of_ble_eq_true rfl) dX5_pass_4 ⟨Nat.le_of_ble_eq_true rfl, Nat.le_of_ble_eq_true rfl⟩) rfl hD hS hA (fun _ _ _ _ _ h => False.elim h) (fun r1 T1 H locs hp hP hD hS => ?_)
  obtain ⟨hT, hp2⟩ := hp
  have hT := hT.symm
  subst hT
  refine lv_if_ne (tgt := 21) hx hb dX5_pass_7 (by decide) (fun c3 => ?_) (fun c3 => ?_)
  · have h_v := (show _ ∧ _ from by rcases hp2 with ⟨-, h1, h2⟩ | ⟨h, -⟩; exact ⟨h1, h2⟩; exact absurd c3 (by rw [h]; decide))
    refine lv_aload_n hx hb dX5_pass_21 rfl (lv_at hl 0 rfl) ?_
    refine rg_Pickwave_presentMinute F hK hP (hI.1.1 0 (by decide)) kw_554 dX5_pass_22 ?_
    refine lv_topi (fun x4 ex4 => ?_)
    refine lv_iload_n hx hb dX5_pass_25 rfl (lv_at hl 1 rfl) ?_
    refine lv_iadd hx hb dX5_pass_26 ?_
    refine lv_topi (fun x5 ex5 => ?_)
    refine lv_sipush (v := 1439) hx hb dX5_pass_27 (by decide) ?_
    refine lv_icmp_le (tgt := 44) hx hb dX5_pass_30 (by decide) (fun c6 => ?_) (fun c6 => ?_)
    · have hno : ¬ 1439 < pF S 56 (z 0) + n := by rw [← ex4, ← ex5]; exact Int32.not_lt.mpr c6
      obtain ⟨N, hN, hnN⟩ := kix (n := n) (M := 61) (N := 61) rfl (by decide) (fun h => h_v.1 (Int32.lt_trans h (by decide))) (fun h => h_v.2 (Int32.lt_of_lt_of_le (by decide) h))
      refine lv_iconst (v := 0) hx hb dX5_pass_44 (by decide) ?_
      refine lv_istore_n (lv' := [(2, .int 0), (0, .ref (z 0)), (1, .int n)]) hx hb dX5_pass_45 rfl hl (by decide) rfl (fun ls hl => ?_)
      refine lv_iconst (v := 0) hx hb dX5_pass_46 (by decide) ?_
      refine lv_istore_n (lv' := [(3, .int 0), (2, .int 0), (0, .ref (z 0)), (1, .int n)]) hx hb dX5_pass_47 rfl hl (by decide) rfl (fun ls hl => ?_)
      have loop : ∀ (fu : Nat) (T0 : wPS) (i : Nat) (xi br : Int32) (H : Heap) (locs : List Loc) (ls : Array Slot), va_P (kD g) vwCl (kW g T0) H → va_D (kA (pL S) s.heap.size) (kW g T0) → va_S (kA (pL S) s.heap.size) s.heap H locs → lv_has ls 5 [(3, .int xi), (2, .int br), (0, .ref (z 0)), (1, .int n)] → N - i < fu → (xi = nI i) → (i ≤ N) → (Inv z e0 T0) → (Tk z (setF S 56 (z 0) (pF S 56 (z 0) + nI i)) T0) → (pG S 30 (z 8) = none → pG S 30 (z 9) = none → br = 0 ∧ pG T0 30 (z 8) = none ∧ pG T0 30 (z 9) = none) → W p l e ({ frames := 6, cells := 1, slots := 6, locals := 82 }) s m ([.ref (z 0), .int n] : List Value).toArray below meth c H locs 0 0 (vx_MQ below (kQ g S s.heap.size (pI (fun r T => (¬ n < 1 ∧ ¬ 60 < n) ∧ ¬ 1439 < pF S 56 (z 0) + n ∧ Inv z e0 T ∧ Tk z (setF S 56 (z 0) (pF S 56 (z 0) + n)) T ∧ (pG S 30 (z 8) = none → pG S 30 (z 9) = none → r = 0)))) (kX g S s.heap.size (fun E => E = xA ∧ ((n < 1 ∨ 60 < n) ∨ 1439 < pF S 56 (z 0) + n))) ([.ref (z 0), .int n] : List Value).toArray s 1 6 (kA (pL S) s.heap.size)) (F0 m 48 ls []) := by
        intro fu
        induction fu with
        | zero => intro T0 i xi br H locs ls hP hD hS hl hn hi hin hI0 htk hid; exact absurd hn (Nat.not_lt_zero _)
        | succ fu ih =>
          intro T0 i xi br H locs ls hP hD hS hl hn hi hin hI0 htk hid
          refine lv_iload_n hx hb dX5_pass_48 rfl (lv_at hl 0 rfl) ?_
          refine lv_iload_n hx hb dX5_pass_49 rfl (lv_at hl 3 rfl) ?_
          refine lv_icmp_ge (tgt := 101) hx hb dX5_pass_50 (by decide) (fun c7 => ?_) (fun c7 => ?_)
          · refine lv_iload_n hx hb dX5_pass_101 rfl (lv_at hl 1 rfl) ?_
            have hiN : i = N := by rcases Nat.lt_or_ge i N with q | q; exact absurd (nI_lt q (by omega)) (Int32.not_lt.mpr (by rw [← hi, ← hnN]; exact c7)); omega
            exact kEndI F hr rfl hlk hP hD hS (Nat.le_of_ble_eq_true rfl) (Nat.le_of_ble_eq_true rfl) dX5_pass_102 ⟨_, rfl, ⟨h_v, hno, hI0, by rw [hnN, ← hiN]; exact htk, fun a b => (hid a b).1⟩⟩
          · have hlt : i < N := by rcases Nat.lt_or_ge i N with q | q; exact q; exact absurd (by rw [hi, hnN]; exact nI_le q (by omega)) c7
            refine lv_aload_n hx hb dX5_pass_53 rfl (lv_at hl 2 rfl) ?_
            refine lv_dup hx hb dX5_pass_54 rfl ?_
            refine rg_Pickwave_presentMinute F hK hP (hI0.1.1 0 (by decide)) kw_554 dX5_pass_55 ?_
            refine lv_topi (fun x8 ex8 => ?_)
            refine lv_iconst (v := 1) hx hb dX5_pass_58 (by decide) ?_
            refine lv_iadd hx hb dX5_pass_59 ?_
            refine lv_topi (fun x9 ex9 => ?_)
            refine rp_Pickwave_presentMinute F hK hP hD hS (hI0.1.1 0 (by decide)) kw_554 dX5_pass_60 (fun H locs hP hD hS => ?_)
            have hw : x9 = pF S 56 (z 0) + nI (i + 1) := by rw [ex9, ex8, htk.2.2.2.1, uF_at, ← nI_1]; exact Int32.add_assoc _ _ _
            obtain ⟨S2, hS2⟩ : ∃ x : wPS, x = setF T0 56 (z 0) x9 := ⟨_, rfl⟩
            rw [← hS2] at hP hD
            have hI2 : Inv z e0 S2 := by rw [hS2]; exact hI0.setU (by decide)
            have tkS2 : Tk z (setF S 56 (z 0) (pF S 56 (z 0) + nI (i + 1))) S2 := by rw [hS2, hw]; exact Tk.min htk
            have hg2 : pG S2 = pG T0 := by rw [hS2]; rfl
            refine lv_iconst (v := 0) hx hb dX5_pass_63 (by decide) ?_
            refine lv_istore (lv' := [(4, .int 0), (3, .int xi), (2, .int br), (0, .ref (z 0)), (1, .int n)]) hx hb dX5_pass_64 hl (by decide) rfl (fun ls hl => ?_)
            refine lv_iload hx hb dX5_pass_66 (lv_at hl 0 rfl) ?_
            refine lv_aload_n hx hb dX5_pass_68 rfl (lv_at hl 3 rfl) ?_
            refine rs_Pickwave_robots (b := z 7) F hK hP (hI2.1.1 0 (by decide)) hI2.2.1.2.2.1 kw_21 dX5_pass_69 ?_
            refine rl_Robot (v := 2) F hK hP (hI2.1.1 7 (by decide)) (congrArg Int32.ofNat (show pN S2 (z 7) = 2 from hI2.2.2.1.2.2.2.1)) dX5_pass_72 ?_
            refine lv_icmp_ge (tgt := 95) hx hb dX5_pass_73 (by decide) (fun c10 => ?_) (fun c10 => ?_)
            · exact absurd c10 (by decide)
            · refine lv_iload_n hx hb dX5_pass_76 rfl (lv_at hl 2 rfl) ?_
              refine lv_aload_n hx hb dX5_pass_77 rfl (lv_at hl 3 rfl) ?_
              refine rs_Pickwave_robots (b := z 7) F hK hP (hI2.1.1 0 (by decide)) hI2.2.1.2.2.1 kw_21 dX5_pass_78 ?_
              refine lv_iload hx hb dX5_pass_81 (lv_at hl 0 rfl) ?_
              refine rds_Robot (b := z 8) F hK hP (hI2.1.1 7 (by decide)) (by rw [hI2.2.2.1.2.2.2.1]; exact vp_in_nI (n := 0) (by decide) (by decide)) (hI2.2.2.1.2.2.2.2.1 0 (by decide)) dX5_pass_83 ?_
              refine kcallI (kSt (n := 1) (As := [.ref (z 8)]) (rest := [.int br]) F hE hK hP hD hS hA (c_X5_passMinuteOf l hl0 g e0 z S2 _ hI2 (z 8) (hI2.or (j := 0) (by decide))) kw_675 kw_676 kw_2 kw_677 (by decide +kernel) ⟨Nat.le_of_ble_eq_true rfl, Nat.le_of_ble_eq_true rfl⟩ rfl hl.1 rfl (Nat.le_of_ble_eq_true rfl) dX5_pass_84 ⟨Nat.le_of_ble_eq_true rfl, Nat.le_of_ble_eq_true rfl⟩) rfl hD hS hA (fun _ _ _ _ _ h => False.elim h) (fun r11 T11 H locs hp hP hD hS => ?_)
              obtain ⟨hk12, hr12⟩ := hp
              have N12 : Kp z S2 T11 := hk12
              have K12 : Kp z S2 T11 := Kp.trans hI2.kp N12
              have I12 : Inv z e0 T11 := hI2.keep K12.1
              refine lv_iadd hx hb dX5_pass_87 ?_
              refine lv_topi (fun x13 ex13 => ?_)
              refine lv_istore_n (lv' := [(2, .int x13), (4, .int 0), (3, .int xi), (0, .ref (z 0)), (1, .int n)]) hx hb dX5_pass_88 rfl hl (by decide) rfl (fun ls hl => ?_)
              refine lv_iinc (v := 1) (lv' := [(4, .int 1), (2, .int x13), (3, .int xi), (0, .ref (z 0)), (1, .int n)]) hx hb dX5_pass_89 hl (k := 1) rfl (by decide) (by decide) rfl (fun ls hl => ?_)
              refine lv_goto (tgt := 66) hx hb dX5_pass_92 (by decide) ?_
              refine lv_iload hx hb dX5_pass_66 (lv_at hl 0 rfl) ?_
              refine lv_aload_n hx hb dX5_pass_68 rfl (lv_at hl 3 rfl) ?_
              refine rs_Pickwave_robots (b := z 7) F hK hP (I12.1.1 0 (by decide)) I12.2.1.2.2.1 kw_21 dX5_pass_69 ?_
              refine rl_Robot (v := 2) F hK hP (I12.1.1 7 (by decide)) (congrArg Int32.ofNat (show pN T11 (z 7) = 2 from I12.2.2.1.2.2.2.1)) dX5_pass_72 ?_
              refine lv_icmp_ge (tgt := 95) hx hb dX5_pass_73 (by decide) (fun c14 => ?_) (fun c14 => ?_)
              · exact absurd c14 (by decide)
              · refine lv_iload_n hx hb dX5_pass_76 rfl (lv_at hl 1 rfl) ?_
                refine lv_aload_n hx hb dX5_pass_77 rfl (lv_at hl 3 rfl) ?_
                refine rs_Pickwave_robots (b := z 7) F hK hP (I12.1.1 0 (by decide)) I12.2.1.2.2.1 kw_21 dX5_pass_78 ?_
                refine lv_iload hx hb dX5_pass_81 (lv_at hl 0 rfl) ?_
                refine rds_Robot (b := z 9) F hK hP (I12.1.1 7 (by decide)) (by rw [I12.2.2.1.2.2.2.1]; exact vp_in_nI (n := 1) (by decide) (by decide)) (I12.2.2.1.2.2.2.2.1 1 (by decide)) dX5_pass_83 ?_
                refine kcallI (kSt (n := 1) (As := [.ref (z 9)]) (rest := [.int x13]) F hE hK hP hD hS hA (c_X5_passMinuteOf l hl0 g e0 z T11 _ (hI2.keep K12.1) (z 9) (I12.or (j := 1) (by decide))) kw_675 kw_676 kw_2 kw_677 (by decide +kernel) ⟨Nat.le_of_ble_eq_true rfl, Nat.le_of_ble_eq_true rfl⟩ rfl hl.1 rfl (Nat.le_of_ble_eq_true rfl) dX5_pass_84 ⟨Nat.le_of_ble_eq_true rfl, Nat.le_of_ble_eq_true rfl⟩) rfl hD hS hA (fun _ _ _ _ _ h => False.elim h) (fun r15 T15 H locs hp hP hD hS => ?_)
                obtain ⟨hk16, hr16⟩ := hp
                have N16 : Kp z T11 T15 := hk16
                have K16 : Kp z S2 T15 := Kp.trans K12 N16
                have I16 : Inv z e0 T15 := hI2.keep K16.1
                refine lv_iadd hx hb dX5_pass_87 ?_
                refine lv_topi (fun x17 ex17 => ?_)
                refine lv_istore_n (lv' := [(2, .int x17), (4, .int 1), (3, .int xi), (0, .ref (z 0)), (1, .int n)]) hx hb dX5_pass_88 rfl hl (by decide) rfl (fun ls hl => ?_)
                refine lv_iinc (v := 2) (lv' := [(4, .int 2), (2, .int x17), (3, .int xi), (0, .ref (z 0)), (1, .int n)]) hx hb dX5_pass_89 hl (k := 1) rfl (by decide) (by decide) rfl (fun ls hl => ?_)
                refine lv_goto (tgt := 66) hx hb dX5_pass_92 (by decide) ?_
                refine lv_iload hx hb dX5_pass_66 (lv_at hl 0 rfl) ?_
                refine lv_aload_n hx hb dX5_pass_68 rfl (lv_at hl 3 rfl) ?_
                refine rs_Pickwave_robots (b := z 7) F hK hP (I16.1.1 0 (by decide)) I16.2.1.2.2.1 kw_21 dX5_pass_69 ?_
                refine rl_Robot (v := 2) F hK hP (I16.1.1 7 (by decide)) (congrArg Int32.ofNat (show pN T15 (z 7) = 2 from I16.2.2.1.2.2.2.1)) dX5_pass_72 ?_
                refine lv_icmp_ge (tgt := 95) hx hb dX5_pass_73 (by decide) (fun c18 => ?_) (fun c18 => ?_)
                · obtain ⟨x19, ex19⟩ : ∃ y : Int32, y = xi + 1 := ⟨_, rfl⟩
                  refine lv_iinc (v := x19) (lv' := [(3, .int x19), (4, .int 2), (2, .int x17), (0, .ref (z 0)), (1, .int n)]) hx hb dX5_pass_95 hl (k := 2) rfl (by rw [ex19]; rfl) (by decide) rfl (fun ls hl => ?_)
                  refine lv_goto (tgt := 48) hx hb dX5_pass_98 (by decide) ?_
                  have hid2 : pG S 30 (z 8) = none → pG S 30 (z 9) = none → x17 = 0 ∧ pG T15 30 (z 8) = none ∧ pG T15 30 (z 9) = none := by
                    intro a b
                    obtain ⟨q1, q2, q3⟩ := hid a b
                    obtain ⟨a1, a2⟩ := hr12 (by rw [hg2]; exact q2)
                    obtain ⟨b1, b2⟩ := hr16 (by rw [a2, hg2]; exact q3)
                    exact ⟨by rw [ex17, ex13, q1, a1, b1]; rfl, by rw [b2, a2, hg2]; exact q2, by rw [b2, a2, hg2]; exact q3⟩
                  exact ih _ (i + 1) x19 x17 H locs ls hP hD hS (lv_sub hl [0, 2, 3, 4] rfl) (by omega) (by rw [ex19, hi]; exact nI_1 i) hlt (hI2.keep K16.1) (tkS2.trans K16.tk) hid2
                · exact absurd (by decide) c18
      exact loop 61 _ 0 0 0 _ _ _ hP hD hS (lv_sub hl [0, 1, 2, 3] rfl) (by omega) rfl (Nat.zero_le _) hI tk_self56 (fun a b => ⟨rfl, a, b⟩)
    · have hov : 1439 < pF S 56 (z 0) + n := by rw [← ex4, ← ex5]; exact Int32.not_le.mp c6
      exact kth_IAEW hl0 F hE hlk hte hP hS hl.1 (List.mem_of_getElem? (i := 23) rfl) dX5_pass_33 dX5_pass_36 dX5_pass_37 dX5_pass_40 dX5_pass_43 ⟨Nat.le_of_ble_eq_true rfl, Nat.le_of_ble_eq_true rfl, Nat.le_of_ble_eq_true rfl, Nat.le_of_ble_eq_true rfl⟩ (Nat.le_of_ble_eq_true rfl) (Nat.le_of_ble_eq_true rfl) (⟨rfl, Or.inr hov⟩)
  · exact kth_IAEW hl0 F hE hlk hte hP hS hl.1 (List.mem_of_getElem? (i := 22) rfl) dX5_pass_10 dX5_pass_13 dX5_pass_14 dX5_pass_17 dX5_pass_20 ⟨Nat.le_of_ble_eq_true rfl, Nat.le_of_ble_eq_true rfl, Nat.le_of_ble_eq_true rfl, Nat.le_of_ble_eq_true rfl⟩ (Nat.le_of_ble_eq_true rfl) (Nat.le_of_ble_eq_true rfl) (⟨rfl, Or.inl (by rcases hp2 with ⟨h, -, -⟩ | ⟨-, h⟩; exact absurd c3 (by rw [h]; decide); exact h)⟩)
theorem dX5_shippedShare_0 : decode cX5_shippedShare 0 = .ok (.aload_n 0, 1) := by decide +kernel
theorem dX5_shippedShare_1 : decode cX5_shippedShare 1 = .ok (.getfield 36, 3) := by decide +kernel
theorem dX5_shippedShare_4 : decode cX5_shippedShare 4 = .ok (.invokevirtual 65, 3) := by decide +kernel
theorem dX5_shippedShare_7 : decode cX5_shippedShare 7 = .ok (.istore_n 1, 1) := by decide +kernel
theorem dX5_shippedShare_8 : decode cX5_shippedShare 8 = .ok (.iload_n 1, 1) := by decide +kernel
theorem dX5_shippedShare_9 : decode cX5_shippedShare 9 = .ok (.ifCond .ne 14, 3) := by decide +kernel
theorem dX5_shippedShare_12 : decode cX5_shippedShare 12 = .ok (.new 229, 3) := by decide +kernel
theorem dX5_shippedShare_15 : decode cX5_shippedShare 15 = .ok (.dup, 1) := by decide +kernel
theorem dX5_shippedShare_16 : decode cX5_shippedShare 16 = .ok (.ldc_w 287, 3) := by decide +kernel
theorem dX5_shippedShare_19 : decode cX5_shippedShare 19 = .ok (.invokespecial 233, 3) := by decide +kernel
theorem dX5_shippedShare_22 : decode cX5_shippedShare 22 = .ok (.athrow, 1) := by decide +kernel
theorem dX5_shippedShare_23 : decode cX5_shippedShare 23 = .ok (.iconst 0, 1) := by decide +kernel
theorem dX5_shippedShare_24 : decode cX5_shippedShare 24 = .ok (.istore_n 2, 1) := by decide +kernel
theorem dX5_shippedShare_25 : decode cX5_shippedShare 25 = .ok (.iconst 0, 1) := by decide +kernel
theorem dX5_shippedShare_26 : decode cX5_shippedShare 26 = .ok (.istore_n 3, 1) := by decide +kernel
theorem dX5_shippedShare_27 : decode cX5_shippedShare 27 = .ok (.iload_n 3, 1) := by decide +kernel
theorem dX5_shippedShare_28 : decode cX5_shippedShare 28 = .ok (.iload_n 1, 1) := by decide +kernel
theorem dX5_shippedShare_29 : decode cX5_shippedShare 29 = .ok (.if_icmp .ge 31, 3) := by decide +kernel
theorem dX5_shippedShare_32 : decode cX5_shippedShare 32 = .ok (.aload_n 0, 1) := by decide +kernel
theorem dX5_shippedShare_33 : decode cX5_shippedShare 33 = .ok (.getfield 36, 3) := by decide +kernel
theorem dX5_shippedShare_36 : decode cX5_shippedShare 36 = .ok (.iload_n 3, 1) := by decide +kernel
theorem dX5_shippedShare_37 : decode cX5_shippedShare 37 = .ok (.invokevirtual 100, 3) := by decide +kernel
theorem dX5_shippedShare_40 : decode cX5_shippedShare 40 = .ok (.checkcast 104, 3) := by decide +kernel
theorem dX5_shippedShare_43 : decode cX5_shippedShare 43 = .ok (.getfield 173, 3) := by decide +kernel
theorem dX5_shippedShare_46 : decode cX5_shippedShare 46 = .ok (.bipush 115, 2) := by decide +kernel
theorem dX5_shippedShare_48 : decode cX5_shippedShare 48 = .ok (.if_icmp .ne 6, 3) := by decide +kernel
theorem dX5_shippedShare_51 : decode cX5_shippedShare 51 = .ok (.iinc 2 1, 3) := by decide +kernel
theorem dX5_shippedShare_54 : decode cX5_shippedShare 54 = .ok (.iinc 3 1, 3) := by decide +kernel
theorem dX5_shippedShare_57 : decode cX5_shippedShare 57 = .ok (.goto (-30), 3) := by decide +kernel
theorem dX5_shippedShare_60 : decode cX5_shippedShare 60 = .ok (.iload_n 2, 1) := by decide +kernel
theorem dX5_shippedShare_61 : decode cX5_shippedShare 61 = .ok (.i2f, 1) := by decide +kernel
theorem dX5_shippedShare_62 : decode cX5_shippedShare 62 = .ok (.iload_n 1, 1) := by decide +kernel
theorem dX5_shippedShare_63 : decode cX5_shippedShare 63 = .ok (.i2f, 1) := by decide +kernel
theorem dX5_shippedShare_64 : decode cX5_shippedShare 64 = .ok (.fdiv, 1) := by decide +kernel
theorem dX5_shippedShare_65 : decode cX5_shippedShare 65 = .ok (.freturn, 1) := by decide +kernel
set_option maxHeartbeats 4000000 in
set_option maxRecDepth 100000 in
theorem c_X5_shippedShare (l : Launch) (hl0 : l.stackTraces = false) (g : kG) (e0 : Nat) (z : Nat → Nat) (S : wPS) (sz : Nat) (hI : Inv z e0 S)  : kM l g e0 yX5_shippedShare cX5_shippedShare 4 (some .float) 6 82 1 6 [.ref (z 0)] S sz (pFl (fun r T => (∃ k m, k ≤ m ∧ m ≤ 12 ∧ 1 ≤ m ∧ r = FP.fdiv (FP.i2f (nI k)) (FP.i2f (nI m))) ∧ ¬ pF S 72 (z 11) = 0 ∧ T = S)) (fun E => E = xN) := by
  refine kM.of (by decide) (Nat.le_of_ble_eq_true rfl) ?_
  intro p e s m below meth c ls B hin
  obtain ⟨F, hr, hlk, hte, hP, hK, hD, hE, hS, hA, hl, hsz⟩ := B
  subst hsz
  have hx := F.1
  have hb := F.2.1
  have hl : lv_has ls 4 [(0, .ref (z 0))] := hl
  obtain ⟨m1, hm1, hL1⟩ := hI.lines
  refine lv_aload_n hx hb dX5_shippedShare_0 rfl (lv_at hl 0 rfl) ?_
  refine rs_Pickwave_lines (b := z 11) F hK hP (hI.1.1 0 (by decide)) hI.2.1.2.2.2.2.1 kw_28 dX5_shippedShare_1 ?_
  refine kcallI (kV (n := 0) (As := []) (rest := []) (b := (z 11)) (C := RJx4a65c) F hE hK hP hD hS hA (c_Jx4a65c_size_8abf5 l hl0 g e0 S _ (z 11) (hI.1.1 11 (by decide))) (rr_ArrayList hK hP (hI.1.1 11 (by decide))) kw_109 kw_110 kw_111 kw_26 kw_112 (by decide +kernel) ⟨Nat.le_of_ble_eq_true rfl, Nat.le_of_ble_eq_true rfl⟩ rfl hl.1 rfl (Nat.le_of_ble_eq_true rfl) dX5_shippedShare_4 ⟨Nat.le_of_ble_eq_true rfl, Nat.le_of_ble_eq_true rfl⟩) rfl hD hS hA (fun _ _ _ _ _ h => False.elim h) (fun r1 T1 H locs hp hP hD hS => ?_)
  obtain ⟨hT, hp2⟩ := hp
  have hT := hT.symm
  subst hT
  refine lv_istore_n (lv' := [(1, .int r1), (0, .ref (z 0))]) hx hb dX5_shippedShare_7 rfl hl (by decide) rfl (fun ls hl => ?_)
  refine lv_iload_n hx hb dX5_shippedShare_8 rfl (lv_at hl 0 rfl) ?_
  refine lv_if_ne (tgt := 23) hx hb dX5_shippedShare_9 (by decide) (fun c3 => ?_) (fun c3 => ?_)
  · have h0 : ¬ pF S 72 (z 11) = 0 := by rw [← hp2]; exact c3
    have hm0 : 1 ≤ m1 := by rcases Nat.eq_zero_or_pos m1 with q | q; exact absurd (by rw [hL1.1, q]; rfl) h0; exact q
    refine lv_iconst (v := 0) hx hb dX5_shippedShare_23 (by decide) ?_
    refine lv_istore_n (lv' := [(2, .int 0), (1, .int r1), (0, .ref (z 0))]) hx hb dX5_shippedShare_24 rfl hl (by decide) rfl (fun ls hl => ?_)
    refine lv_iconst (v := 0) hx hb dX5_shippedShare_25 (by decide) ?_
    refine lv_istore_n (lv' := [(3, .int 0), (2, .int 0), (1, .int r1), (0, .ref (z 0))]) hx hb dX5_shippedShare_26 rfl hl (by decide) rfl (fun ls hl => ?_)
    have loop : ∀ (fu : Nat) (i : Nat) (xi cn : Int32) (H : Heap) (locs : List Loc) (ls : Array Slot), va_P (kD g) vwCl (kW g S) H → va_D (kA (pL S) s.heap.size) (kW g S) → va_S (kA (pL S) s.heap.size) s.heap H locs → lv_has ls 4 [(3, .int xi), (2, .int cn), (1, .int r1), (0, .ref (z 0))] → m1 - i < fu → (xi = nI i) → (i ≤ m1) → (∃ k, k ≤ i ∧ cn = nI k) → W p l e ({ frames := 6, cells := 1, slots := 6, locals := 82 }) s m ([.ref (z 0)] : List Value).toArray below meth c H locs 0 0 (vx_MQ below (kQ g S s.heap.size (pFl (fun r T => (∃ k m, k ≤ m ∧ m ≤ 12 ∧ 1 ≤ m ∧ r = FP.fdiv (FP.i2f (nI k)) (FP.i2f (nI m))) ∧ ¬ pF S 72 (z 11) = 0 ∧ T = S))) (kX g S s.heap.size (fun E => E = xN)) ([.ref (z 0)] : List Value).toArray s 1 6 (kA (pL S) s.heap.size)) (F0 m 27 ls []) := by
      intro fu
      induction fu with
      | zero => intro i xi cn H locs ls hP hD hS hl hn hi hin hc; exact absurd hn (Nat.not_lt_zero _)
      | succ fu ih =>
        intro i xi cn H locs ls hP hD hS hl hn hi hin hc
        have hLT : LI S e0 (z 11) 2 m1 := hL1
        refine lv_iload_n hx hb dX5_shippedShare_27 rfl (lv_at hl 0 rfl) ?_
        refine lv_iload_n hx hb dX5_shippedShare_28 rfl (lv_at hl 2 rfl) ?_
        refine lv_icmp_ge (tgt := 60) hx hb dX5_shippedShare_29 (by decide) (fun c4 => ?_) (fun c4 => ?_)
        · obtain ⟨k, hk, hkn⟩ := hc
          have hr1 : r1 = nI m1 := (hp2).trans hL1.1
          refine lv_iload_n hx hb dX5_shippedShare_60 rfl (lv_at hl 1 rfl) ?_
          refine lv_i2f hx hb dX5_shippedShare_61 ?_
          refine lv_iload_n hx hb dX5_shippedShare_62 rfl (lv_at hl 2 rfl) ?_
          refine lv_i2f hx hb dX5_shippedShare_63 ?_
          refine lv_fdiv hx hb dX5_shippedShare_64 (by rw [hkn, hr1]; exact (kshare (Nat.le_trans hk hin) hm1 hm0).1) ?_
          exact kEndF F hr hlk hP hD hS (Nat.le_of_ble_eq_true rfl) (Nat.le_of_ble_eq_true rfl) dX5_shippedShare_65 ⟨_, rfl, ⟨⟨k, m1, Nat.le_trans hk hin, hm1, hm0, by rw [hkn, hr1]⟩, h0, rfl⟩⟩
        · obtain ⟨him, hx0, hx1⟩ := klp hLT ⟨hm1, hin⟩ hi hp2 c4
          refine lv_aload_n hx hb dX5_shippedShare_32 rfl (lv_at hl 3 rfl) ?_
          refine rs_Pickwave_lines (b := z 11) F hK hP (hI.1.1 0 (by decide)) hI.2.1.2.2.2.2.1 kw_28 dX5_shippedShare_33 ?_
          refine lv_iload_n hx hb dX5_shippedShare_36 rfl (lv_at hl 0 rfl) ?_
          refine kcallR (kV (n := 1) (As := [.int xi]) (rest := []) (b := (z 11)) (C := RJx4a65c) F hE hK hP hD hS hA (c_Jx4a65c_get_915e3 l hl0 g e0 S _ (z 11) 2 _ xi (hI.1.1 11 (by decide)) hLT hx0 hx1 (by omega)) (rr_ArrayList hK hP (hI.1.1 11 (by decide))) kw_203 kw_204 kw_205 kw_26 kw_206 (by decide +kernel) ⟨Nat.le_of_ble_eq_true rfl, Nat.le_of_ble_eq_true rfl⟩ rfl hl.1 rfl (Nat.le_of_ble_eq_true rfl) dX5_shippedShare_37 ⟨Nat.le_of_ble_eq_true rfl, Nat.le_of_ble_eq_true rfl⟩) rfl hD hS hA (fun _ _ _ _ _ h => False.elim h) (fun b5 T5 H locs hp hP hD hS => ?_)
          obtain ⟨hT, hp6⟩ := hp
          have hT := hT.symm
          subst hT
          refine va_castS hx hb F.2.2.2.1 (F.2.2.2.2 _ kw_283) (hK.1 3 _ rfl).2 (rr_Line hK hP hp6.1) dX5_shippedShare_40 ?_
          refine rg_Line_state F hK hP hp6.1 kw_322 dX5_shippedShare_43 ?_
          refine lv_topi (fun x7 ex7 => ?_)
          refine lv_bipush (v := 115) hx hb dX5_shippedShare_46 (by decide) ?_
          refine lv_icmp_ne (tgt := 54) hx hb dX5_shippedShare_48 (by decide) (fun c8 => ?_) (fun c8 => ?_)
          · obtain ⟨x9, ex9⟩ : ∃ y : Int32, y = xi + 1 := ⟨_, rfl⟩
            refine lv_iinc (v := x9) (lv' := [(3, .int x9), (2, .int cn), (1, .int r1), (0, .ref (z 0))]) hx hb dX5_shippedShare_54 hl (k := 0) rfl (by rw [ex9]; rfl) (by decide) rfl (fun ls hl => ?_)
            refine lv_goto (tgt := 27) hx hb dX5_shippedShare_57 (by decide) ?_
            exact ih (i + 1) x9 cn H locs ls hP hD hS (lv_sub hl [0, 1, 2, 3] rfl) (by omega) (by rw [ex9, hi]; exact nI_1 i) him (hc.elim fun k h => ⟨k, Nat.le_succ_of_le h.1, h.2⟩)
          · obtain ⟨x10, ex10⟩ : ∃ y : Int32, y = cn + 1 := ⟨_, rfl⟩
            refine lv_iinc (v := x10) (lv' := [(2, .int x10), (3, .int xi), (1, .int r1), (0, .ref (z 0))]) hx hb dX5_shippedShare_51 hl (k := 1) rfl (by rw [ex10]; rfl) (by decide) rfl (fun ls hl => ?_)
            obtain ⟨x11, ex11⟩ : ∃ y : Int32, y = xi + 1 := ⟨_, rfl⟩
            refine lv_iinc (v := x11) (lv' := [(3, .int x11), (2, .int x10), (1, .int r1), (0, .ref (z 0))]) hx hb dX5_shippedShare_54 hl (k := 1) rfl (by rw [ex11]; rfl) (by decide) rfl (fun ls hl => ?_)
            refine lv_goto (tgt := 27) hx hb dX5_shippedShare_57 (by decide) ?_
            exact ih (i + 1) x11 x10 H locs ls hP hD hS (lv_sub hl [0, 1, 2, 3] rfl) (by omega) (by rw [ex11, hi]; exact nI_1 i) him (hc.elim fun k h => ⟨k + 1, Nat.succ_le_succ h.1, by rw [ex10, h.2]; exact nI_1 k⟩)
    exact loop 13 0 0 0 _ _ _ hP hD hS (lv_sub hl [0, 1, 2, 3] rfl) (by omega) rfl (Nat.zero_le _) ⟨0, Nat.le_refl _, rfl⟩
  · exact kth_NSEEW hl0 F hE hlk hte hP hS hl.1 (List.mem_of_getElem? (i := 25) rfl) dX5_shippedShare_12 dX5_shippedShare_15 dX5_shippedShare_16 dX5_shippedShare_19 dX5_shippedShare_22 ⟨Nat.le_of_ble_eq_true rfl, Nat.le_of_ble_eq_true rfl, Nat.le_of_ble_eq_true rfl, Nat.le_of_ble_eq_true rfl⟩ (Nat.le_of_ble_eq_true rfl) (Nat.le_of_ble_eq_true rfl) rfl
