theorem dX5_giveBack_0 : decode cX5_giveBack 0 = .ok (.aload_n 0, 1) := by decide +kernel
theorem dX5_giveBack_1 : decode cX5_giveBack 1 = .ok (.iload_n 1, 1) := by decide +kernel
theorem dX5_giveBack_2 : decode cX5_giveBack 2 = .ok (.invokevirtual 83, 3) := by decide +kernel
theorem dX5_giveBack_5 : decode cX5_giveBack 5 = .ok (.astore 4, 2) := by decide +kernel
theorem dX5_giveBack_7 : decode cX5_giveBack 7 = .ok (.iload_n 2, 1) := by decide +kernel
theorem dX5_giveBack_8 : decode cX5_giveBack 8 = .ok (.iconst 0, 1) := by decide +kernel
theorem dX5_giveBack_9 : decode cX5_giveBack 9 = .ok (.bipush 20, 2) := by decide +kernel
theorem dX5_giveBack_11 : decode cX5_giveBack 11 = .ok (.invokestatic 57, 3) := by decide +kernel
theorem dX5_giveBack_14 : decode cX5_giveBack 14 = .ok (.ifCond .eq 13, 3) := by decide +kernel
theorem dX5_giveBack_17 : decode cX5_giveBack 17 = .ok (.iload_n 3, 1) := by decide +kernel
theorem dX5_giveBack_18 : decode cX5_giveBack 18 = .ok (.iconst 0, 1) := by decide +kernel
theorem dX5_giveBack_19 : decode cX5_giveBack 19 = .ok (.bipush 20, 2) := by decide +kernel
theorem dX5_giveBack_21 : decode cX5_giveBack 21 = .ok (.invokestatic 57, 3) := by decide +kernel
theorem dX5_giveBack_24 : decode cX5_giveBack 24 = .ok (.ifCond .ne 13, 3) := by decide +kernel
theorem dX5_giveBack_27 : decode cX5_giveBack 27 = .ok (.new 50, 3) := by decide +kernel
theorem dX5_giveBack_30 : decode cX5_giveBack 30 = .ok (.dup, 1) := by decide +kernel
theorem dX5_giveBack_31 : decode cX5_giveBack 31 = .ok (.ldc 134, 2) := by decide +kernel
theorem dX5_giveBack_33 : decode cX5_giveBack 33 = .ok (.invokespecial 54, 3) := by decide +kernel
theorem dX5_giveBack_36 : decode cX5_giveBack 36 = .ok (.athrow, 1) := by decide +kernel
theorem dX5_giveBack_37 : decode cX5_giveBack 37 = .ok (.iload_n 2, 1) := by decide +kernel
theorem dX5_giveBack_38 : decode cX5_giveBack 38 = .ok (.ifCond .ne 17, 3) := by decide +kernel
theorem dX5_giveBack_41 : decode cX5_giveBack 41 = .ok (.iload_n 3, 1) := by decide +kernel
theorem dX5_giveBack_42 : decode cX5_giveBack 42 = .ok (.ifCond .ne 13, 3) := by decide +kernel
theorem dX5_giveBack_45 : decode cX5_giveBack 45 = .ok (.new 50, 3) := by decide +kernel
theorem dX5_giveBack_48 : decode cX5_giveBack 48 = .ok (.dup, 1) := by decide +kernel
theorem dX5_giveBack_49 : decode cX5_giveBack 49 = .ok (.ldc 136, 2) := by decide +kernel
theorem dX5_giveBack_51 : decode cX5_giveBack 51 = .ok (.invokespecial 54, 3) := by decide +kernel
theorem dX5_giveBack_54 : decode cX5_giveBack 54 = .ok (.athrow, 1) := by decide +kernel
theorem dX5_giveBack_55 : decode cX5_giveBack 55 = .ok (.iconst 0, 1) := by decide +kernel
theorem dX5_giveBack_56 : decode cX5_giveBack 56 = .ok (.iload_n 2, 1) := by decide +kernel
theorem dX5_giveBack_57 : decode cX5_giveBack 57 = .ok (.aload 4, 2) := by decide +kernel
theorem dX5_giveBack_59 : decode cX5_giveBack 59 = .ok (.invokevirtual 138, 3) := by decide +kernel
theorem dX5_giveBack_62 : decode cX5_giveBack 62 = .ok (.isub, 1) := by decide +kernel
theorem dX5_giveBack_63 : decode cX5_giveBack 63 = .ok (.invokestatic 141, 3) := by decide +kernel
theorem dX5_giveBack_66 : decode cX5_giveBack 66 = .ok (.istore 5, 2) := by decide +kernel
theorem dX5_giveBack_68 : decode cX5_giveBack 68 = .ok (.aload 4, 2) := by decide +kernel
theorem dX5_giveBack_70 : decode cX5_giveBack 70 = .ok (.getfield 91, 3) := by decide +kernel
theorem dX5_giveBack_73 : decode cX5_giveBack 73 = .ok (.iload 5, 2) := by decide +kernel
theorem dX5_giveBack_75 : decode cX5_giveBack 75 = .ok (.iadd, 1) := by decide +kernel
theorem dX5_giveBack_76 : decode cX5_giveBack 76 = .ok (.sipush 9999, 3) := by decide +kernel
theorem dX5_giveBack_79 : decode cX5_giveBack 79 = .ok (.if_icmp .le 13, 3) := by decide +kernel
theorem dX5_giveBack_82 : decode cX5_giveBack 82 = .ok (.new 69, 3) := by decide +kernel
theorem dX5_giveBack_85 : decode cX5_giveBack 85 = .ok (.dup, 1) := by decide +kernel
theorem dX5_giveBack_86 : decode cX5_giveBack 86 = .ok (.ldc 147, 2) := by decide +kernel
theorem dX5_giveBack_88 : decode cX5_giveBack 88 = .ok (.invokespecial 73, 3) := by decide +kernel
theorem dX5_giveBack_91 : decode cX5_giveBack 91 = .ok (.athrow, 1) := by decide +kernel
theorem dX5_giveBack_92 : decode cX5_giveBack 92 = .ok (.aload_n 0, 1) := by decide +kernel
theorem dX5_giveBack_93 : decode cX5_giveBack 93 = .ok (.dup, 1) := by decide +kernel
theorem dX5_giveBack_94 : decode cX5_giveBack 94 = .ok (.getfield 149, 3) := by decide +kernel
theorem dX5_giveBack_97 : decode cX5_giveBack 97 = .ok (.iload_n 3, 1) := by decide +kernel
theorem dX5_giveBack_98 : decode cX5_giveBack 98 = .ok (.iadd, 1) := by decide +kernel
theorem dX5_giveBack_99 : decode cX5_giveBack 99 = .ok (.putfield 149, 3) := by decide +kernel
theorem dX5_giveBack_102 : decode cX5_giveBack 102 = .ok (.aload 4, 2) := by decide +kernel
theorem dX5_giveBack_104 : decode cX5_giveBack 104 = .ok (.iload_n 2, 1) := by decide +kernel
theorem dX5_giveBack_105 : decode cX5_giveBack 105 = .ok (.invokevirtual 152, 3) := by decide +kernel
theorem dX5_giveBack_108 : decode cX5_giveBack 108 = .ok (.ireturn, 1) := by decide +kernel
set_option maxHeartbeats 4000000 in
set_option maxRecDepth 100000 in
theorem c_X5_giveBack (l : Launch) (hl0 : l.stackTraces = false) (g : kG) (e0 : Nat) (z : Nat → Nat) (S : wPS) (sz : Nat) (hI : Inv z e0 S) (n go ba : Int32) : kM l g e0 yX5_giveBack cX5_giveBack 6 (some .int) 7 103 2 12 [.ref (z 0), .int n, .int go, .int ba] S sz (pI (fun r T => Kp z S T ∧ (¬ n < 0 ∧ n < pF S 72 (z 10)))) (fun E => (E = xI ∧ (n < 0 ∨ ¬ n < pF S 72 (z 10))) ∨ ((E = xA ∨ E = xS) ∧ (¬ n < 0 ∧ n < pF S 72 (z 10)))) := by
  refine kM.of (by decide) (Nat.le_of_ble_eq_true rfl) ?_
  intro p e s m below meth c ls B hin
  obtain ⟨F, hr, hlk, hte, hP, hK, hD, hE, hS, hA, hl, hsz⟩ := B
  subst hsz
  have hx := F.1
  have hb := F.2.1
  have hl : lv_has ls 6 [(0, .ref (z 0)), (1, .int n), (2, .int go), (3, .int ba)] := hl
  refine lv_aload_n hx hb dX5_giveBack_0 rfl (lv_at hl 0 rfl) ?_
  refine lv_iload_n hx hb dX5_giveBack_1 rfl (lv_at hl 1 rfl) ?_
  refine kcallR (kV (n := 1) (As := [.int n]) (rest := []) (b := (z 0)) (C := RX5) F hE hK hP hD hS hA (c_X5_findArticle l hl0 g e0 z S _ hI n) (rr_Pickwave hK hP (hI.1.1 0 (by decide))) kw_196 kw_197 kw_198 kw_2 kw_199 (by decide +kernel) ⟨Nat.le_of_ble_eq_true rfl, Nat.le_of_ble_eq_true rfl⟩ rfl hl.1 rfl (Nat.le_of_ble_eq_true rfl) dX5_giveBack_2 ⟨Nat.le_of_ble_eq_true rfl, Nat.le_of_ble_eq_true rfl⟩) rfl hD hS hA (fun E ce q9 H1 locs1 hex hP1 hS1 hce hcv hcl => kthru hte hlk (Or.inl hex) hP1 hS1 hce hcv hcl (Nat.le_of_ble_eq_true rfl) (Nat.le_of_ble_eq_true rfl)) (fun b1 T1 H locs hp hP hD hS => ?_)
  obtain ⟨hT, hp2⟩ := hp
  have hT := hT.symm
  subst hT
  refine lv_astore (lv' := [(4, .ref b1), (0, .ref (z 0)), (1, .int n), (2, .int go), (3, .int ba)]) hx hb dX5_giveBack_5 hl (by decide) rfl (fun ls hl => ?_)
  refine lv_iload_n hx hb dX5_giveBack_7 rfl (lv_at hl 3 rfl) ?_
  refine lv_iconst (v := 0) hx hb dX5_giveBack_8 (by decide) ?_
  refine lv_bipush (v := 20) hx hb dX5_giveBack_9 (by decide) ?_
  refine kcallI (kSt (n := 3) (As := [.int go, .int 0, .int 20]) (rest := []) F hE hK hP hD hS hA (c_X5_isBetween l hl0 g e0 S _ go 0 20) kw_106 kw_107 kw_2 kw_108 (by decide +kernel) ⟨Nat.le_of_ble_eq_true rfl, Nat.le_of_ble_eq_true rfl⟩ rfl hl.1 rfl (Nat.le_of_ble_eq_true rfl) dX5_giveBack_11 ⟨Nat.le_of_ble_eq_true rfl, Nat.le_of_ble_eq_true rfl⟩) rfl hD hS hA (fun _ _ _ _ _ h => False.elim h) (fun r3 T3 H locs hp hP hD hS => ?_)
  obtain ⟨hT, hp4⟩ := hp
  have hT := hT.symm
  subst hT
  refine lv_if_eq (tgt := 27) hx hb dX5_giveBack_14 (by decide) (fun c5 => ?_) (fun c5 => ?_)
  · exact kth_IAE hl0 F hE hlk hte hP hS hl.1 (List.mem_of_getElem? (i := 5) rfl) dX5_giveBack_27 dX5_giveBack_30 dX5_giveBack_31 dX5_giveBack_33 dX5_giveBack_36 ⟨Nat.le_of_ble_eq_true rfl, Nat.le_of_ble_eq_true rfl, Nat.le_of_ble_eq_true rfl, Nat.le_of_ble_eq_true rfl⟩ (Nat.le_of_ble_eq_true rfl) (Nat.le_of_ble_eq_true rfl) (Or.inr ⟨Or.inl rfl, hp2.2⟩)
  · refine lv_iload_n hx hb dX5_giveBack_17 rfl (lv_at hl 4 rfl) ?_
    refine lv_iconst (v := 0) hx hb dX5_giveBack_18 (by decide) ?_
    refine lv_bipush (v := 20) hx hb dX5_giveBack_19 (by decide) ?_
    refine kcallI (kSt (n := 3) (As := [.int ba, .int 0, .int 20]) (rest := []) F hE hK hP hD hS hA (c_X5_isBetween l hl0 g e0 S _ ba 0 20) kw_106 kw_107 kw_2 kw_108 (by decide +kernel) ⟨Nat.le_of_ble_eq_true rfl, Nat.le_of_ble_eq_true rfl⟩ rfl hl.1 rfl (Nat.le_of_ble_eq_true rfl) dX5_giveBack_21 ⟨Nat.le_of_ble_eq_true rfl, Nat.le_of_ble_eq_true rfl⟩) rfl hD hS hA (fun _ _ _ _ _ h => False.elim h) (fun r6 T6 H locs hp hP hD hS => ?_)
    obtain ⟨hT, hp7⟩ := hp
    have hT := hT.symm
    subst hT
    refine lv_if_ne (tgt := 37) hx hb dX5_giveBack_24 (by decide) (fun c8 => ?_) (fun c8 => ?_)
    · refine lv_iload_n hx hb dX5_giveBack_37 rfl (lv_at hl 3 rfl) ?_
      refine lv_if_ne (tgt := 55) hx hb dX5_giveBack_38 (by decide) (fun c9 => ?_) (fun c9 => ?_)
      · refine lv_iconst (v := 0) hx hb dX5_giveBack_55 (by decide) ?_
        refine lv_iload_n hx hb dX5_giveBack_56 rfl (lv_at hl 3 rfl) ?_
        refine lv_aload hx hb dX5_giveBack_57 (lv_at hl 0 rfl) ?_
        refine kcallI (kV (n := 0) (As := []) (rest := [.int go, .int 0]) (b := b1) (C := RX1) F hE hK hP hD hS hA (c_X1_roomLeft l hl0 g e0 S _ b1 hp2.1) (rr_Article hK hP hp2.1) kw_369 kw_370 kw_371 kw_101 kw_372 (by decide +kernel) ⟨Nat.le_of_ble_eq_true rfl, Nat.le_of_ble_eq_true rfl⟩ rfl hl.1 rfl (Nat.le_of_ble_eq_true rfl) dX5_giveBack_59 ⟨Nat.le_of_ble_eq_true rfl, Nat.le_of_ble_eq_true rfl⟩) rfl hD hS hA (fun _ _ _ _ _ h => False.elim h) (fun r10 T10 H locs hp hP hD hS => ?_)
        obtain ⟨hT, hp11⟩ := hp
        have hT := hT.symm
        subst hT
        refine lv_isub hx hb dX5_giveBack_62 ?_
        refine lv_topi (fun x12 ex12 => ?_)
        refine va_mmax hx hb (by rw [F.2.2.1]; exact hl.1.symm) F.2.2.2.1 (F.2.2.2.2 _ kw_367) (F.2.2.2.2 _ kw_141) (F.2.2.2.2 _ kw_142) (F.2.2.2.2 _ kw_143) (Nat.le_of_ble_eq_true rfl) (Nat.le_of_ble_eq_true rfl) (Nat.le_of_ble_eq_true rfl) (Nat.le_of_ble_eq_true rfl) dX5_giveBack_63 ?_
        refine lv_topi (fun x13 ex13 => ?_)
        refine lv_istore (lv' := [(5, .int x13), (4, .ref b1), (0, .ref (z 0)), (1, .int n), (2, .int go), (3, .int ba)]) hx hb dX5_giveBack_66 hl (by decide) rfl (fun ls hl => ?_)
        refine lv_aload hx hb dX5_giveBack_68 (lv_at hl 1 rfl) ?_
        refine rg_Article_reserve F hK hP hp2.1 kw_234 dX5_giveBack_70 ?_
        refine lv_topi (fun x14 ex14 => ?_)
        refine lv_iload hx hb dX5_giveBack_73 (lv_at hl 0 rfl) ?_
        refine lv_iadd hx hb dX5_giveBack_75 ?_
        refine lv_topi (fun x15 ex15 => ?_)
        refine lv_sipush (v := 9999) hx hb dX5_giveBack_76 (by decide) ?_
        refine lv_icmp_le (tgt := 92) hx hb dX5_giveBack_79 (by decide) (fun c16 => ?_) (fun c16 => ?_)
        · refine lv_aload_n hx hb dX5_giveBack_92 rfl (lv_at hl 2 rfl) ?_
          refine lv_dup hx hb dX5_giveBack_93 rfl ?_
          refine rg_Pickwave_badUnits F hK hP (hI.1.1 0 (by decide)) kw_368 dX5_giveBack_94 ?_
          refine lv_topi (fun x17 ex17 => ?_)
          refine lv_iload_n hx hb dX5_giveBack_97 rfl (lv_at hl 5 rfl) ?_
          refine lv_iadd hx hb dX5_giveBack_98 ?_
          refine lv_topi (fun x18 ex18 => ?_)
          refine rp_Pickwave_badUnits F hK hP hD hS (hI.1.1 0 (by decide)) kw_368 dX5_giveBack_99 (fun H locs hP hD hS => ?_)
          refine lv_aload hx hb dX5_giveBack_102 (lv_at hl 1 rfl) ?_
          refine lv_iload_n hx hb dX5_giveBack_104 rfl (lv_at hl 4 rfl) ?_
          refine kcallI (kV (n := 1) (As := [.int go]) (rest := []) (b := b1) (C := RX1) F hE hK hP hD hS hA (c_X1_putAway l hl0 g e0 z (setF S 58 (z 0) x18) _ (hI.keep (kp_setF hI.kp (by decide) (by decide)).1) b1 hp2.1 go) (rr_Article hK hP hp2.1) kw_373 kw_374 kw_375 kw_101 kw_376 (by decide +kernel) ⟨Nat.le_of_ble_eq_true rfl, Nat.le_of_ble_eq_true rfl⟩ rfl hl.1 rfl (Nat.le_of_ble_eq_true rfl) dX5_giveBack_105 ⟨Nat.le_of_ble_eq_true rfl, Nat.le_of_ble_eq_true rfl⟩) rfl hD hS hA (fun _ _ _ _ _ h => False.elim h) (fun r19 T19 H locs hp hP hD hS => ?_)
          have N20 : Kp z (setF S 58 (z 0) x18) T19 := hp
          have K20 : Kp z S T19 := Kp.trans (kp_setF hI.kp (by decide) (by decide)) N20
          have I20 : Inv z e0 T19 := hI.keep K20.1
          have o21 : Ob T19 1 b1 := N20.1.ob hp2.1
          exact kEndI F hr rfl hlk hP hD hS (Nat.le_of_ble_eq_true rfl) (Nat.le_of_ble_eq_true rfl) dX5_giveBack_108 ⟨_, rfl, ⟨K20, hp2.2⟩⟩
        · exact kth_ISE hl0 F hE hlk hte hP hS hl.1 (List.mem_of_getElem? (i := 7) rfl) dX5_giveBack_82 dX5_giveBack_85 dX5_giveBack_86 dX5_giveBack_88 dX5_giveBack_91 ⟨Nat.le_of_ble_eq_true rfl, Nat.le_of_ble_eq_true rfl, Nat.le_of_ble_eq_true rfl, Nat.le_of_ble_eq_true rfl⟩ (Nat.le_of_ble_eq_true rfl) (Nat.le_of_ble_eq_true rfl) (Or.inr ⟨Or.inr (rfl), hp2.2⟩)
      · refine lv_iload_n hx hb dX5_giveBack_41 rfl (lv_at hl 4 rfl) ?_
        refine lv_if_ne (tgt := 55) hx hb dX5_giveBack_42 (by decide) (fun c22 => ?_) (fun c22 => ?_)
        · refine lv_iconst (v := 0) hx hb dX5_giveBack_55 (by decide) ?_
          refine lv_iload_n hx hb dX5_giveBack_56 rfl (lv_at hl 3 rfl) ?_
          refine lv_aload hx hb dX5_giveBack_57 (lv_at hl 0 rfl) ?_
          refine kcallI (kV (n := 0) (As := []) (rest := [.int go, .int 0]) (b := b1) (C := RX1) F hE hK hP hD hS hA (c_X1_roomLeft l hl0 g e0 S _ b1 hp2.1) (rr_Article hK hP hp2.1) kw_369 kw_370 kw_371 kw_101 kw_372 (by decide +kernel) ⟨Nat.le_of_ble_eq_true rfl, Nat.le_of_ble_eq_true rfl⟩ rfl hl.1 rfl (Nat.le_of_ble_eq_true rfl) dX5_giveBack_59 ⟨Nat.le_of_ble_eq_true rfl, Nat.le_of_ble_eq_true rfl⟩) rfl hD hS hA (fun _ _ _ _ _ h => False.elim h) (fun r23 T23 H locs hp hP hD hS => ?_)
          obtain ⟨hT, hp24⟩ := hp
          have hT := hT.symm
          subst hT
          refine lv_isub hx hb dX5_giveBack_62 ?_
          refine lv_topi (fun x25 ex25 => ?_)
          refine va_mmax hx hb (by rw [F.2.2.1]; exact hl.1.symm) F.2.2.2.1 (F.2.2.2.2 _ kw_367) (F.2.2.2.2 _ kw_141) (F.2.2.2.2 _ kw_142) (F.2.2.2.2 _ kw_143) (Nat.le_of_ble_eq_true rfl) (Nat.le_of_ble_eq_true rfl) (Nat.le_of_ble_eq_true rfl) (Nat.le_of_ble_eq_true rfl) dX5_giveBack_63 ?_
          refine lv_topi (fun x26 ex26 => ?_)
          refine lv_istore (lv' := [(5, .int x26), (4, .ref b1), (0, .ref (z 0)), (1, .int n), (2, .int go), (3, .int ba)]) hx hb dX5_giveBack_66 hl (by decide) rfl (fun ls hl => ?_)
          refine lv_aload hx hb dX5_giveBack_68 (lv_at hl 1 rfl) ?_
          refine rg_Article_reserve F hK hP hp2.1 kw_234 dX5_giveBack_70 ?_
          refine lv_topi (fun x27 ex27 => ?_)
          refine lv_iload hx hb dX5_giveBack_73 (lv_at hl 0 rfl) ?_
          refine lv_iadd hx hb dX5_giveBack_75 ?_
          refine lv_topi (fun x28 ex28 => ?_)
          refine lv_sipush (v := 9999) hx hb dX5_giveBack_76 (by decide) ?_
          refine lv_icmp_le (tgt := 92) hx hb dX5_giveBack_79 (by decide) (fun c29 => ?_) (fun c29 => ?_)
          · refine lv_aload_n hx hb dX5_giveBack_92 rfl (lv_at hl 2 rfl) ?_
            refine lv_dup hx hb dX5_giveBack_93 rfl ?_
            refine rg_Pickwave_badUnits F hK hP (hI.1.1 0 (by decide)) kw_368 dX5_giveBack_94 ?_
            refine lv_topi (fun x30 ex30 => ?_)
            refine lv_iload_n hx hb dX5_giveBack_97 rfl (lv_at hl 5 rfl) ?_
            refine lv_iadd hx hb dX5_giveBack_98 ?_
            refine lv_topi (fun x31 ex31 => ?_)
            refine rp_Pickwave_badUnits F hK hP hD hS (hI.1.1 0 (by decide)) kw_368 dX5_giveBack_99 (fun H locs hP hD hS => ?_)
            refine lv_aload hx hb dX5_giveBack_102 (lv_at hl 1 rfl) ?_
            refine lv_iload_n hx hb dX5_giveBack_104 rfl (lv_at hl 4 rfl) ?_
            refine kcallI (kV (n := 1) (As := [.int go]) (rest := []) (b := b1) (C := RX1) F hE hK hP hD hS hA (c_X1_putAway l hl0 g e0 z (setF S 58 (z 0) x31) _ (hI.keep (kp_setF hI.kp (by decide) (by decide)).1) b1 hp2.1 go) (rr_Article hK hP hp2.1) kw_373 kw_374 kw_375 kw_101 kw_376 (by decide +kernel) ⟨Nat.le_of_ble_eq_true rfl, Nat.le_of_ble_eq_true rfl⟩ rfl hl.1 rfl (Nat.le_of_ble_eq_true rfl) dX5_giveBack_105 ⟨Nat.le_of_ble_eq_true rfl, Nat.le_of_ble_eq_true rfl⟩) rfl hD hS hA (fun _ _ _ _ _ h => False.elim h) (fun r32 T32 H locs hp hP hD hS => ?_)
            have N33 : Kp z (setF S 58 (z 0) x31) T32 := hp
            have K33 : Kp z S T32 := Kp.trans (kp_setF hI.kp (by decide) (by decide)) N33
            have I33 : Inv z e0 T32 := hI.keep K33.1
            have o34 : Ob T32 1 b1 := N33.1.ob hp2.1
            exact kEndI F hr rfl hlk hP hD hS (Nat.le_of_ble_eq_true rfl) (Nat.le_of_ble_eq_true rfl) dX5_giveBack_108 ⟨_, rfl, ⟨K33, hp2.2⟩⟩
          · exact kth_ISE hl0 F hE hlk hte hP hS hl.1 (List.mem_of_getElem? (i := 7) rfl) dX5_giveBack_82 dX5_giveBack_85 dX5_giveBack_86 dX5_giveBack_88 dX5_giveBack_91 ⟨Nat.le_of_ble_eq_true rfl, Nat.le_of_ble_eq_true rfl, Nat.le_of_ble_eq_true rfl, Nat.le_of_ble_eq_true rfl⟩ (Nat.le_of_ble_eq_true rfl) (Nat.le_of_ble_eq_true rfl) (Or.inr ⟨Or.inr (rfl), hp2.2⟩)
        · exact kth_IAE hl0 F hE hlk hte hP hS hl.1 (List.mem_of_getElem? (i := 6) rfl) dX5_giveBack_45 dX5_giveBack_48 dX5_giveBack_49 dX5_giveBack_51 dX5_giveBack_54 ⟨Nat.le_of_ble_eq_true rfl, Nat.le_of_ble_eq_true rfl, Nat.le_of_ble_eq_true rfl, Nat.le_of_ble_eq_true rfl⟩ (Nat.le_of_ble_eq_true rfl) (Nat.le_of_ble_eq_true rfl) (Or.inr ⟨Or.inl rfl, hp2.2⟩)
    · exact kth_IAE hl0 F hE hlk hte hP hS hl.1 (List.mem_of_getElem? (i := 5) rfl) dX5_giveBack_27 dX5_giveBack_30 dX5_giveBack_31 dX5_giveBack_33 dX5_giveBack_36 ⟨Nat.le_of_ble_eq_true rfl, Nat.le_of_ble_eq_true rfl, Nat.le_of_ble_eq_true rfl, Nat.le_of_ble_eq_true rfl⟩ (Nat.le_of_ble_eq_true rfl) (Nat.le_of_ble_eq_true rfl) (Or.inr ⟨Or.inl rfl, hp2.2⟩)
theorem dX5_order_0 : decode cX5_order 0 = .ok (.aload_n 0, 1) := by decide +kernel
theorem dX5_order_1 : decode cX5_order 1 = .ok (.iload_n 1, 1) := by decide +kernel
theorem dX5_order_2 : decode cX5_order 2 = .ok (.invokevirtual 83, 3) := by decide +kernel
theorem dX5_order_5 : decode cX5_order 5 = .ok (.astore 4, 2) := by decide +kernel
theorem dX5_order_7 : decode cX5_order 7 = .ok (.iload_n 2, 1) := by decide +kernel
theorem dX5_order_8 : decode cX5_order 8 = .ok (.iconst 1, 1) := by decide +kernel
theorem dX5_order_9 : decode cX5_order 9 = .ok (.bipush 20, 2) := by decide +kernel
theorem dX5_order_11 : decode cX5_order 11 = .ok (.invokestatic 57, 3) := by decide +kernel
theorem dX5_order_14 : decode cX5_order 14 = .ok (.ifCond .ne 13, 3) := by decide +kernel
theorem dX5_order_17 : decode cX5_order 17 = .ok (.new 50, 3) := by decide +kernel
theorem dX5_order_20 : decode cX5_order 20 = .ok (.dup, 1) := by decide +kernel
theorem dX5_order_21 : decode cX5_order 21 = .ok (.ldc 156, 2) := by decide +kernel
theorem dX5_order_23 : decode cX5_order 23 = .ok (.invokespecial 54, 3) := by decide +kernel
theorem dX5_order_26 : decode cX5_order 26 = .ok (.athrow, 1) := by decide +kernel
theorem dX5_order_27 : decode cX5_order 27 = .ok (.aload_n 0, 1) := by decide +kernel
theorem dX5_order_28 : decode cX5_order 28 = .ok (.iload_n 3, 1) := by decide +kernel
theorem dX5_order_29 : decode cX5_order 29 = .ok (.invokevirtual 158, 3) := by decide +kernel
theorem dX5_order_32 : decode cX5_order 32 = .ok (.ifCond .ne 13, 3) := by decide +kernel
theorem dX5_order_35 : decode cX5_order 35 = .ok (.new 50, 3) := by decide +kernel
theorem dX5_order_38 : decode cX5_order 38 = .ok (.dup, 1) := by decide +kernel
theorem dX5_order_39 : decode cX5_order 39 = .ok (.ldc 161, 2) := by decide +kernel
theorem dX5_order_41 : decode cX5_order 41 = .ok (.invokespecial 54, 3) := by decide +kernel
theorem dX5_order_44 : decode cX5_order 44 = .ok (.athrow, 1) := by decide +kernel
theorem dX5_order_45 : decode cX5_order 45 = .ok (.aload_n 0, 1) := by decide +kernel
theorem dX5_order_46 : decode cX5_order 46 = .ok (.getfield 36, 3) := by decide +kernel
theorem dX5_order_49 : decode cX5_order 49 = .ok (.invokevirtual 65, 3) := by decide +kernel
theorem dX5_order_52 : decode cX5_order 52 = .ok (.bipush 12, 2) := by decide +kernel
theorem dX5_order_54 : decode cX5_order 54 = .ok (.if_icmp .lt 13, 3) := by decide +kernel
theorem dX5_order_57 : decode cX5_order 57 = .ok (.new 69, 3) := by decide +kernel
theorem dX5_order_60 : decode cX5_order 60 = .ok (.dup, 1) := by decide +kernel
theorem dX5_order_61 : decode cX5_order 61 = .ok (.ldc 163, 2) := by decide +kernel
theorem dX5_order_63 : decode cX5_order 63 = .ok (.invokespecial 73, 3) := by decide +kernel
theorem dX5_order_66 : decode cX5_order 66 = .ok (.athrow, 1) := by decide +kernel
theorem dX5_order_67 : decode cX5_order 67 = .ok (.aload_n 0, 1) := by decide +kernel
theorem dX5_order_68 : decode cX5_order 68 = .ok (.aload 4, 2) := by decide +kernel
theorem dX5_order_70 : decode cX5_order 70 = .ok (.iload_n 2, 1) := by decide +kernel
theorem dX5_order_71 : decode cX5_order 71 = .ok (.iload_n 3, 1) := by decide +kernel
theorem dX5_order_72 : decode cX5_order 72 = .ok (.invokevirtual 165, 3) := by decide +kernel
theorem dX5_order_75 : decode cX5_order 75 = .ok (.ireturn, 1) := by decide +kernel
set_option maxHeartbeats 4000000 in
set_option maxRecDepth 100000 in
theorem c_X5_order (l : Launch) (hl0 : l.stackTraces = false) (g : kG) (e0 : Nat) (z : Nat → Nat) (S : wPS) (sz : Nat) (hI : Inv z e0 S) (n am ca : Int32) : kM l g e0 yX5_order cX5_order 5 (some .int) 8 179 3 27 [.ref (z 0), .int n, .int am, .int ca] S sz (pI (fun r T => (¬ n < 0 ∧ n < pF S 72 (z 10)) ∧ Inv z e0 T ∧ Tk z S T)) (fun E => (E = xI ∧ (n < 0 ∨ ¬ n < pF S 72 (z 10))) ∨ ((E = xA ∨ E = xS) ∧ (¬ n < 0 ∧ n < pF S 72 (z 10)))) := by
  refine kM.of (by decide) (Nat.le_of_ble_eq_true rfl) ?_
  intro p e s m below meth c ls B hin
  obtain ⟨F, hr, hlk, hte, hP, hK, hD, hE, hS, hA, hl, hsz⟩ := B
  subst hsz
  have hx := F.1
  have hb := F.2.1
  have hl : lv_has ls 5 [(0, .ref (z 0)), (1, .int n), (2, .int am), (3, .int ca)] := hl
  refine lv_aload_n hx hb dX5_order_0 rfl (lv_at hl 0 rfl) ?_
  refine lv_iload_n hx hb dX5_order_1 rfl (lv_at hl 1 rfl) ?_
  refine kcallR (kV (n := 1) (As := [.int n]) (rest := []) (b := (z 0)) (C := RX5) F hE hK hP hD hS hA (c_X5_findArticle l hl0 g e0 z S _ hI n) (rr_Pickwave hK hP (hI.1.1 0 (by decide))) kw_196 kw_197 kw_198 kw_2 kw_199 (by decide +kernel) ⟨Nat.le_of_ble_eq_true rfl, Nat.le_of_ble_eq_true rfl⟩ rfl hl.1 rfl (Nat.le_of_ble_eq_true rfl) dX5_order_2 ⟨Nat.le_of_ble_eq_true rfl, Nat.le_of_ble_eq_true rfl⟩) rfl hD hS hA (fun E ce q9 H1 locs1 hex hP1 hS1 hce hcv hcl => kthru hte hlk (Or.inl hex) hP1 hS1 hce hcv hcl (Nat.le_of_ble_eq_true rfl) (Nat.le_of_ble_eq_true rfl)) (fun b1 T1 H locs hp hP hD hS => ?_)
  obtain ⟨hT, hp2⟩ := hp
  have hT := hT.symm
  subst hT
  refine lv_astore (lv' := [(4, .ref b1), (0, .ref (z 0)), (1, .int n), (2, .int am), (3, .int ca)]) hx hb dX5_order_5 hl (by decide) rfl (fun ls hl => ?_)
  refine lv_iload_n hx hb dX5_order_7 rfl (lv_at hl 3 rfl) ?_
  refine lv_iconst (v := 1) hx hb dX5_order_8 (by decide) ?_
  refine lv_bipush (v := 20) hx hb dX5_order_9 (by decide) ?_
  refine kcallI (kSt (n := 3) (As := [.int am, .int 1, .int 20]) (rest := []) F hE hK hP hD hS hA (c_X5_isBetween l hl0 g e0 S _ am 1 20) kw_106 kw_107 kw_2 kw_108 (by decide +kernel) ⟨Nat.le_of_ble_eq_true rfl, Nat.le_of_ble_eq_true rfl⟩ rfl hl.1 rfl (Nat.le_of_ble_eq_true rfl) dX5_order_11 ⟨Nat.le_of_ble_eq_true rfl, Nat.le_of_ble_eq_true rfl⟩) rfl hD hS hA (fun _ _ _ _ _ h => False.elim h) (fun r3 T3 H locs hp hP hD hS => ?_)
  obtain ⟨hT, hp4⟩ := hp
  have hT := hT.symm
  subst hT
  refine lv_if_ne (tgt := 27) hx hb dX5_order_14 (by decide) (fun c5 => ?_) (fun c5 => ?_)
  · refine lv_aload_n hx hb dX5_order_27 rfl (lv_at hl 1 rfl) ?_
    refine lv_iload_n hx hb dX5_order_28 rfl (lv_at hl 4 rfl) ?_
    refine kcallI (kV (n := 1) (As := [.int ca]) (rest := []) (b := (z 0)) (C := RX5) F hE hK hP hD hS hA (c_X5_isCarrier l hl0 g e0 z S _ hI ca) (rr_Pickwave hK hP (hI.1.1 0 (by decide))) kw_403 kw_404 kw_405 kw_2 kw_406 (by decide +kernel) ⟨Nat.le_of_ble_eq_true rfl, Nat.le_of_ble_eq_true rfl⟩ rfl hl.1 rfl (Nat.le_of_ble_eq_true rfl) dX5_order_29 ⟨Nat.le_of_ble_eq_true rfl, Nat.le_of_ble_eq_true rfl⟩) rfl hD hS hA (fun _ _ _ _ _ h => False.elim h) (fun r6 T6 H locs hp hP hD hS => ?_)
    obtain ⟨hT, hp7⟩ := hp
    have hT := hT.symm
    subst hT
    refine lv_if_ne (tgt := 45) hx hb dX5_order_32 (by decide) (fun c8 => ?_) (fun c8 => ?_)
    · refine lv_aload_n hx hb dX5_order_45 rfl (lv_at hl 1 rfl) ?_
      refine rs_Pickwave_lines (b := z 11) F hK hP (hI.1.1 0 (by decide)) hI.2.1.2.2.2.2.1 kw_28 dX5_order_46 ?_
      refine kcallI (kV (n := 0) (As := []) (rest := []) (b := (z 11)) (C := RJx4a65c) F hE hK hP hD hS hA (c_Jx4a65c_size_8abf5 l hl0 g e0 S _ (z 11) (hI.1.1 11 (by decide))) (rr_ArrayList hK hP (hI.1.1 11 (by decide))) kw_109 kw_110 kw_111 kw_26 kw_112 (by decide +kernel) ⟨Nat.le_of_ble_eq_true rfl, Nat.le_of_ble_eq_true rfl⟩ rfl hl.1 rfl (Nat.le_of_ble_eq_true rfl) dX5_order_49 ⟨Nat.le_of_ble_eq_true rfl, Nat.le_of_ble_eq_true rfl⟩) rfl hD hS hA (fun _ _ _ _ _ h => False.elim h) (fun r9 T9 H locs hp hP hD hS => ?_)
      obtain ⟨hT, hp10⟩ := hp
      have hT := hT.symm
      subst hT
      refine lv_bipush (v := 12) hx hb dX5_order_52 (by decide) ?_
      refine lv_icmp_lt (tgt := 67) hx hb dX5_order_54 (by decide) (fun c11 => ?_) (fun c11 => ?_)
      · have hs : pF S 72 (z 11) < 12 := by rw [← hp10]; exact c11
        refine lv_aload_n hx hb dX5_order_67 rfl (lv_at hl 1 rfl) ?_
        refine lv_aload hx hb dX5_order_68 (lv_at hl 0 rfl) ?_
        refine lv_iload_n hx hb dX5_order_70 rfl (lv_at hl 3 rfl) ?_
        refine lv_iload_n hx hb dX5_order_71 rfl (lv_at hl 4 rfl) ?_
        refine kcallI (kV (n := 3) (As := [.ref b1, .int am, .int ca]) (rest := []) (b := (z 0)) (C := RX5) F hE hK hP hD hS hA (c_X5_letCome l hl0 g e0 z S _ hI b1 hp2.1 am ca hs) (rr_Pickwave hK hP (hI.1.1 0 (by decide))) kw_407 kw_408 kw_409 kw_2 kw_410 (by decide +kernel) ⟨Nat.le_of_ble_eq_true rfl, Nat.le_of_ble_eq_true rfl⟩ rfl hl.1 rfl (Nat.le_of_ble_eq_true rfl) dX5_order_72 ⟨Nat.le_of_ble_eq_true rfl, Nat.le_of_ble_eq_true rfl⟩) rfl hD hS hA (fun _ _ _ _ _ h => False.elim h) (fun r12 T12 H locs hp hP hD hS => ?_)
        obtain ⟨I13, t13, m13⟩ := hp
        have u13 : Tk z S T12 := hI.kp.tk.trans t13
        exact kEndI F hr rfl hlk hP hD hS (Nat.le_of_ble_eq_true rfl) (Nat.le_of_ble_eq_true rfl) dX5_order_75 ⟨_, rfl, ⟨hp2.2, I13, u13⟩⟩
      · exact kth_ISE hl0 F hE hlk hte hP hS hl.1 (List.mem_of_getElem? (i := 10) rfl) dX5_order_57 dX5_order_60 dX5_order_61 dX5_order_63 dX5_order_66 ⟨Nat.le_of_ble_eq_true rfl, Nat.le_of_ble_eq_true rfl, Nat.le_of_ble_eq_true rfl, Nat.le_of_ble_eq_true rfl⟩ (Nat.le_of_ble_eq_true rfl) (Nat.le_of_ble_eq_true rfl) (Or.inr ⟨Or.inr (rfl), hp2.2⟩)
    · exact kth_IAE hl0 F hE hlk hte hP hS hl.1 (List.mem_of_getElem? (i := 9) rfl) dX5_order_35 dX5_order_38 dX5_order_39 dX5_order_41 dX5_order_44 ⟨Nat.le_of_ble_eq_true rfl, Nat.le_of_ble_eq_true rfl, Nat.le_of_ble_eq_true rfl, Nat.le_of_ble_eq_true rfl⟩ (Nat.le_of_ble_eq_true rfl) (Nat.le_of_ble_eq_true rfl) (Or.inr ⟨Or.inl rfl, hp2.2⟩)
  · exact kth_IAE hl0 F hE hlk hte hP hS hl.1 (List.mem_of_getElem? (i := 8) rfl) dX5_order_17 dX5_order_20 dX5_order_21 dX5_order_23 dX5_order_26 ⟨Nat.le_of_ble_eq_true rfl, Nat.le_of_ble_eq_true rfl, Nat.le_of_ble_eq_true rfl, Nat.le_of_ble_eq_true rfl⟩ (Nat.le_of_ble_eq_true rfl) (Nat.le_of_ble_eq_true rfl) (Or.inr ⟨Or.inl rfl, hp2.2⟩)
theorem dX5_drop_0 : decode cX5_drop 0 = .ok (.aload_n 0, 1) := by decide +kernel
theorem dX5_drop_1 : decode cX5_drop 1 = .ok (.iload_n 1, 1) := by decide +kernel
theorem dX5_drop_2 : decode cX5_drop 2 = .ok (.invokevirtual 169, 3) := by decide +kernel
theorem dX5_drop_5 : decode cX5_drop 5 = .ok (.astore_n 2, 1) := by decide +kernel
theorem dX5_drop_6 : decode cX5_drop 6 = .ok (.aload_n 2, 1) := by decide +kernel
theorem dX5_drop_7 : decode cX5_drop 7 = .ok (.getfield 173, 3) := by decide +kernel
theorem dX5_drop_10 : decode cX5_drop 10 = .ok (.bipush 111, 2) := by decide +kernel
theorem dX5_drop_12 : decode cX5_drop 12 = .ok (.if_icmp .eq 22, 3) := by decide +kernel
theorem dX5_drop_15 : decode cX5_drop 15 = .ok (.aload_n 2, 1) := by decide +kernel
theorem dX5_drop_16 : decode cX5_drop 16 = .ok (.getfield 173, 3) := by decide +kernel
theorem dX5_drop_19 : decode cX5_drop 19 = .ok (.bipush 112, 2) := by decide +kernel
theorem dX5_drop_21 : decode cX5_drop 21 = .ok (.if_icmp .eq 13, 3) := by decide +kernel
theorem dX5_drop_24 : decode cX5_drop 24 = .ok (.new 69, 3) := by decide +kernel
theorem dX5_drop_27 : decode cX5_drop 27 = .ok (.dup, 1) := by decide +kernel
theorem dX5_drop_28 : decode cX5_drop 28 = .ok (.ldc 177, 2) := by decide +kernel
theorem dX5_drop_30 : decode cX5_drop 30 = .ok (.invokespecial 73, 3) := by decide +kernel
theorem dX5_drop_33 : decode cX5_drop 33 = .ok (.athrow, 1) := by decide +kernel
theorem dX5_drop_34 : decode cX5_drop 34 = .ok (.aload_n 0, 1) := by decide +kernel
theorem dX5_drop_35 : decode cX5_drop 35 = .ok (.aload_n 2, 1) := by decide +kernel
theorem dX5_drop_36 : decode cX5_drop 36 = .ok (.bipush 100, 2) := by decide +kernel
theorem dX5_drop_38 : decode cX5_drop 38 = .ok (.invokevirtual 179, 3) := by decide +kernel
theorem dX5_drop_41 : decode cX5_drop 41 = .ok (.aload_n 2, 1) := by decide +kernel
theorem dX5_drop_42 : decode cX5_drop 42 = .ok (.getfield 106, 3) := by decide +kernel
theorem dX5_drop_45 : decode cX5_drop 45 = .ok (.invokevirtual 94, 3) := by decide +kernel
theorem dX5_drop_48 : decode cX5_drop 48 = .ok (.ireturn, 1) := by decide +kernel
set_option maxHeartbeats 4000000 in
set_option maxRecDepth 100000 in
theorem c_X5_drop (l : Launch) (hl0 : l.stackTraces = false) (g : kG) (e0 : Nat) (z : Nat → Nat) (S : wPS) (sz : Nat) (hI : Inv z e0 S) (n : Int32) : kM l g e0 yX5_drop cX5_drop 3 (some .int) 7 103 2 12 [.ref (z 0), .int n] S sz (pI (fun r T => Kp z S T ∧ (¬ n < 0 ∧ n < pF S 72 (z 11)))) (fun E => (E = xI ∧ (n < 0 ∨ ¬ n < pF S 72 (z 11))) ∨ ((E = xS) ∧ (¬ n < 0 ∧ n < pF S 72 (z 11)))) := by
  refine kM.of (by decide) (Nat.le_of_ble_eq_true rfl) ?_
  intro p e s m below meth c ls B hin
  obtain ⟨F, hr, hlk, hte, hP, hK, hD, hE, hS, hA, hl, hsz⟩ := B
  subst hsz
  have hx := F.1
  have hb := F.2.1
  have hl : lv_has ls 3 [(0, .ref (z 0)), (1, .int n)] := hl
  refine lv_aload_n hx hb dX5_drop_0 rfl (lv_at hl 0 rfl) ?_
  refine lv_iload_n hx hb dX5_drop_1 rfl (lv_at hl 1 rfl) ?_
  refine kcallR (kV (n := 1) (As := [.int n]) (rest := []) (b := (z 0)) (C := RX5) F hE hK hP hD hS hA (c_X5_findLine l hl0 g e0 z S _ hI n) (rr_Pickwave hK hP (hI.1.1 0 (by decide))) kw_439 kw_440 kw_441 kw_2 kw_442 (by decide +kernel) ⟨Nat.le_of_ble_eq_true rfl, Nat.le_of_ble_eq_true rfl⟩ rfl hl.1 rfl (Nat.le_of_ble_eq_true rfl) dX5_drop_2 ⟨Nat.le_of_ble_eq_true rfl, Nat.le_of_ble_eq_true rfl⟩) rfl hD hS hA (fun E ce q9 H1 locs1 hex hP1 hS1 hce hcv hcl => kthru hte hlk (Or.inl hex) hP1 hS1 hce hcv hcl (Nat.le_of_ble_eq_true rfl) (Nat.le_of_ble_eq_true rfl)) (fun b1 T1 H locs hp hP hD hS => ?_)
  obtain ⟨hT, hp2⟩ := hp
  have hT := hT.symm
  subst hT
  refine lv_astore_n (lv' := [(2, .ref b1), (0, .ref (z 0)), (1, .int n)]) hx hb dX5_drop_5 rfl hl (by decide) rfl (fun ls hl => ?_)
  refine lv_aload_n hx hb dX5_drop_6 rfl (lv_at hl 0 rfl) ?_
  refine rg_Line_state F hK hP hp2.1 kw_322 dX5_drop_7 ?_
  refine lv_topi (fun x3 ex3 => ?_)
  refine lv_bipush (v := 111) hx hb dX5_drop_10 (by decide) ?_
  refine lv_icmp_eq (tgt := 34) hx hb dX5_drop_12 (by decide) (fun c4 => ?_) (fun c4 => ?_)
  · refine lv_aload_n hx hb dX5_drop_34 rfl (lv_at hl 1 rfl) ?_
    refine lv_aload_n hx hb dX5_drop_35 rfl (lv_at hl 0 rfl) ?_
    refine lv_bipush (v := 100) hx hb dX5_drop_36 (by decide) ?_
    refine kcallU (kV (n := 2) (As := [.ref b1, .int 100]) (rest := []) (b := (z 0)) (C := RX5) F hE hK hP hD hS hA (c_X5_scan l hl0 g e0 z S _ hI b1 hp2.1 100 ⟨rfl, rfl⟩) (rr_Pickwave hK hP (hI.1.1 0 (by decide))) kw_323 kw_324 kw_325 kw_2 kw_326 (by decide +kernel) ⟨Nat.le_of_ble_eq_true rfl, Nat.le_of_ble_eq_true rfl⟩ rfl hl.1 rfl (Nat.le_of_ble_eq_true rfl) dX5_drop_38 ⟨Nat.le_of_ble_eq_true rfl, Nat.le_of_ble_eq_true rfl⟩) rfl hD hS hA (fun _ _ _ _ _ h => False.elim h) (fun T5 H locs hp hP hD hS => ?_)
    have N6 : Kp z S T5 := hp
    have K6 : Kp z S T5 := Kp.trans hI.kp N6
    have I6 : Inv z e0 T5 := hI.keep K6.1
    have o7 : Ob T5 2 b1 := N6.1.ob hp2.1
    refine lv_aload_n hx hb dX5_drop_41 rfl (lv_at hl 0 rfl) ?_
    obtain ⟨b8, hb8, ob8⟩ := I6.2.2.2.2.2.2.1 b1 o7
    refine rs_Line_article (b := b8) F hK hP o7 hb8 kw_284 dX5_drop_42 ?_
    refine kcallI (kV (n := 0) (As := []) (rest := []) (b := b8) (C := RX1) F hE hK hP hD hS hA (c_X1_freeUnits l hl0 g e0 T5 _ b8 ob8) (rr_Article hK hP ob8) kw_246 kw_247 kw_248 kw_101 kw_249 (by decide +kernel) ⟨Nat.le_of_ble_eq_true rfl, Nat.le_of_ble_eq_true rfl⟩ rfl hl.1 rfl (Nat.le_of_ble_eq_true rfl) dX5_drop_45 ⟨Nat.le_of_ble_eq_true rfl, Nat.le_of_ble_eq_true rfl⟩) rfl hD hS hA (fun _ _ _ _ _ h => False.elim h) (fun r9 T9 H locs hp hP hD hS => ?_)
    obtain ⟨hT, hp10⟩ := hp
    have hT := hT.symm
    subst hT
    exact kEndI F hr rfl hlk hP hD hS (Nat.le_of_ble_eq_true rfl) (Nat.le_of_ble_eq_true rfl) dX5_drop_48 ⟨_, rfl, ⟨K6, hp2.2⟩⟩
  · refine lv_aload_n hx hb dX5_drop_15 rfl (lv_at hl 0 rfl) ?_
    refine rg_Line_state F hK hP hp2.1 kw_322 dX5_drop_16 ?_
    refine lv_topi (fun x11 ex11 => ?_)
    refine lv_bipush (v := 112) hx hb dX5_drop_19 (by decide) ?_
    refine lv_icmp_eq (tgt := 34) hx hb dX5_drop_21 (by decide) (fun c12 => ?_) (fun c12 => ?_)
    · refine lv_aload_n hx hb dX5_drop_34 rfl (lv_at hl 1 rfl) ?_
      refine lv_aload_n hx hb dX5_drop_35 rfl (lv_at hl 0 rfl) ?_
      refine lv_bipush (v := 100) hx hb dX5_drop_36 (by decide) ?_
      refine kcallU (kV (n := 2) (As := [.ref b1, .int 100]) (rest := []) (b := (z 0)) (C := RX5) F hE hK hP hD hS hA (c_X5_scan l hl0 g e0 z S _ hI b1 hp2.1 100 ⟨rfl, rfl⟩) (rr_Pickwave hK hP (hI.1.1 0 (by decide))) kw_323 kw_324 kw_325 kw_2 kw_326 (by decide +kernel) ⟨Nat.le_of_ble_eq_true rfl, Nat.le_of_ble_eq_true rfl⟩ rfl hl.1 rfl (Nat.le_of_ble_eq_true rfl) dX5_drop_38 ⟨Nat.le_of_ble_eq_true rfl, Nat.le_of_ble_eq_true rfl⟩) rfl hD hS hA (fun _ _ _ _ _ h => False.elim h) (fun T13 H locs hp hP hD hS => ?_)
      have N14 : Kp z S T13 := hp
      have K14 : Kp z S T13 := Kp.trans hI.kp N14
      have I14 : Inv z e0 T13 := hI.keep K14.1
      have o15 : Ob T13 2 b1 := N14.1.ob hp2.1
      refine lv_aload_n hx hb dX5_drop_41 rfl (lv_at hl 0 rfl) ?_
      obtain ⟨b16, hb16, ob16⟩ := I14.2.2.2.2.2.2.1 b1 o15
      refine rs_Line_article (b := b16) F hK hP o15 hb16 kw_284 dX5_drop_42 ?_
      refine kcallI (kV (n := 0) (As := []) (rest := []) (b := b16) (C := RX1) F hE hK hP hD hS hA (c_X1_freeUnits l hl0 g e0 T13 _ b16 ob16) (rr_Article hK hP ob16) kw_246 kw_247 kw_248 kw_101 kw_249 (by decide +kernel) ⟨Nat.le_of_ble_eq_true rfl, Nat.le_of_ble_eq_true rfl⟩ rfl hl.1 rfl (Nat.le_of_ble_eq_true rfl) dX5_drop_45 ⟨Nat.le_of_ble_eq_true rfl, Nat.le_of_ble_eq_true rfl⟩) rfl hD hS hA (fun _ _ _ _ _ h => False.elim h) (fun r17 T17 H locs hp hP hD hS => ?_)
      obtain ⟨hT, hp18⟩ := hp
      have hT := hT.symm
      subst hT
      exact kEndI F hr rfl hlk hP hD hS (Nat.le_of_ble_eq_true rfl) (Nat.le_of_ble_eq_true rfl) dX5_drop_48 ⟨_, rfl, ⟨K14, hp2.2⟩⟩
    · exact kth_ISE hl0 F hE hlk hte hP hS hl.1 (List.mem_of_getElem? (i := 11) rfl) dX5_drop_24 dX5_drop_27 dX5_drop_28 dX5_drop_30 dX5_drop_33 ⟨Nat.le_of_ble_eq_true rfl, Nat.le_of_ble_eq_true rfl, Nat.le_of_ble_eq_true rfl, Nat.le_of_ble_eq_true rfl⟩ (Nat.le_of_ble_eq_true rfl) (Nat.le_of_ble_eq_true rfl) (Or.inr ⟨rfl, hp2.2⟩)
theorem dX5_pick_0 : decode cX5_pick 0 = .ok (.aload_n 0, 1) := by decide +kernel
theorem dX5_pick_1 : decode cX5_pick 1 = .ok (.iload_n 1, 1) := by decide +kernel
theorem dX5_pick_2 : decode cX5_pick 2 = .ok (.invokevirtual 169, 3) := by decide +kernel
theorem dX5_pick_5 : decode cX5_pick 5 = .ok (.astore_n 3, 1) := by decide +kernel
theorem dX5_pick_6 : decode cX5_pick 6 = .ok (.iload_n 2, 1) := by decide +kernel
theorem dX5_pick_7 : decode cX5_pick 7 = .ok (.iconst 0, 1) := by decide +kernel
theorem dX5_pick_8 : decode cX5_pick 8 = .ok (.aload_n 3, 1) := by decide +kernel
theorem dX5_pick_9 : decode cX5_pick 9 = .ok (.getfield 114, 3) := by decide +kernel
theorem dX5_pick_12 : decode cX5_pick 12 = .ok (.invokestatic 57, 3) := by decide +kernel
theorem dX5_pick_15 : decode cX5_pick 15 = .ok (.ifCond .ne 13, 3) := by decide +kernel
theorem dX5_pick_18 : decode cX5_pick 18 = .ok (.new 50, 3) := by decide +kernel
theorem dX5_pick_21 : decode cX5_pick 21 = .ok (.dup, 1) := by decide +kernel
theorem dX5_pick_22 : decode cX5_pick 22 = .ok (.ldc 183, 2) := by decide +kernel
theorem dX5_pick_24 : decode cX5_pick 24 = .ok (.invokespecial 54, 3) := by decide +kernel
theorem dX5_pick_27 : decode cX5_pick 27 = .ok (.athrow, 1) := by decide +kernel
theorem dX5_pick_28 : decode cX5_pick 28 = .ok (.aload_n 3, 1) := by decide +kernel
theorem dX5_pick_29 : decode cX5_pick 29 = .ok (.getfield 106, 3) := by decide +kernel
theorem dX5_pick_32 : decode cX5_pick 32 = .ok (.getfield 185, 3) := by decide +kernel
theorem dX5_pick_35 : decode cX5_pick 35 = .ok (.getfield 121, 3) := by decide +kernel
theorem dX5_pick_38 : decode cX5_pick 38 = .ok (.ifCond .eq 13, 3) := by decide +kernel
theorem dX5_pick_41 : decode cX5_pick 41 = .ok (.new 189, 3) := by decide +kernel
theorem dX5_pick_44 : decode cX5_pick 44 = .ok (.dup, 1) := by decide +kernel
theorem dX5_pick_45 : decode cX5_pick 45 = .ok (.ldc 191, 2) := by decide +kernel
theorem dX5_pick_47 : decode cX5_pick 47 = .ok (.invokespecial 193, 3) := by decide +kernel
theorem dX5_pick_50 : decode cX5_pick 50 = .ok (.athrow, 1) := by decide +kernel
theorem dX5_pick_51 : decode cX5_pick 51 = .ok (.aload_n 3, 1) := by decide +kernel
theorem dX5_pick_52 : decode cX5_pick 52 = .ok (.getfield 173, 3) := by decide +kernel
theorem dX5_pick_55 : decode cX5_pick 55 = .ok (.bipush 112, 2) := by decide +kernel
theorem dX5_pick_57 : decode cX5_pick 57 = .ok (.if_icmp .eq 13, 3) := by decide +kernel
theorem dX5_pick_60 : decode cX5_pick 60 = .ok (.new 69, 3) := by decide +kernel
theorem dX5_pick_63 : decode cX5_pick 63 = .ok (.dup, 1) := by decide +kernel
theorem dX5_pick_64 : decode cX5_pick 64 = .ok (.ldc 194, 2) := by decide +kernel
theorem dX5_pick_66 : decode cX5_pick 66 = .ok (.invokespecial 73, 3) := by decide +kernel
theorem dX5_pick_69 : decode cX5_pick 69 = .ok (.athrow, 1) := by decide +kernel
theorem dX5_pick_70 : decode cX5_pick 70 = .ok (.iload_n 2, 1) := by decide +kernel
theorem dX5_pick_71 : decode cX5_pick 71 = .ok (.aload_n 3, 1) := by decide +kernel
theorem dX5_pick_72 : decode cX5_pick 72 = .ok (.getfield 114, 3) := by decide +kernel
theorem dX5_pick_75 : decode cX5_pick 75 = .ok (.if_icmp .ne 25, 3) := by decide +kernel
theorem dX5_pick_78 : decode cX5_pick 78 = .ok (.aload_n 0, 1) := by decide +kernel
theorem dX5_pick_79 : decode cX5_pick 79 = .ok (.aload_n 3, 1) := by decide +kernel
theorem dX5_pick_80 : decode cX5_pick 80 = .ok (.bipush 107, 2) := by decide +kernel
theorem dX5_pick_82 : decode cX5_pick 82 = .ok (.invokevirtual 179, 3) := by decide +kernel
theorem dX5_pick_85 : decode cX5_pick 85 = .ok (.aload_n 3, 1) := by decide +kernel
theorem dX5_pick_86 : decode cX5_pick 86 = .ok (.getfield 106, 3) := by decide +kernel
theorem dX5_pick_89 : decode cX5_pick 89 = .ok (.dup, 1) := by decide +kernel
theorem dX5_pick_90 : decode cX5_pick 90 = .ok (.getfield 87, 3) := by decide +kernel
theorem dX5_pick_93 : decode cX5_pick 93 = .ok (.iload_n 2, 1) := by decide +kernel
theorem dX5_pick_94 : decode cX5_pick 94 = .ok (.isub, 1) := by decide +kernel
theorem dX5_pick_95 : decode cX5_pick 95 = .ok (.putfield 87, 3) := by decide +kernel
theorem dX5_pick_98 : decode cX5_pick 98 = .ok (.iconst (-1), 1) := by decide +kernel
theorem dX5_pick_99 : decode cX5_pick 99 = .ok (.ireturn, 1) := by decide +kernel
theorem dX5_pick_100 : decode cX5_pick 100 = .ok (.aload_n 0, 1) := by decide +kernel
theorem dX5_pick_101 : decode cX5_pick 101 = .ok (.getfield 36, 3) := by decide +kernel
theorem dX5_pick_104 : decode cX5_pick 104 = .ok (.invokevirtual 65, 3) := by decide +kernel
theorem dX5_pick_107 : decode cX5_pick 107 = .ok (.bipush 12, 2) := by decide +kernel
theorem dX5_pick_109 : decode cX5_pick 109 = .ok (.if_icmp .lt 13, 3) := by decide +kernel
theorem dX5_pick_112 : decode cX5_pick 112 = .ok (.new 69, 3) := by decide +kernel
theorem dX5_pick_115 : decode cX5_pick 115 = .ok (.dup, 1) := by decide +kernel
theorem dX5_pick_116 : decode cX5_pick 116 = .ok (.ldc 163, 2) := by decide +kernel
theorem dX5_pick_118 : decode cX5_pick 118 = .ok (.invokespecial 73, 3) := by decide +kernel
theorem dX5_pick_121 : decode cX5_pick 121 = .ok (.athrow, 1) := by decide +kernel
theorem dX5_pick_122 : decode cX5_pick 122 = .ok (.aload_n 0, 1) := by decide +kernel
theorem dX5_pick_123 : decode cX5_pick 123 = .ok (.aload_n 3, 1) := by decide +kernel
theorem dX5_pick_124 : decode cX5_pick 124 = .ok (.iload_n 2, 1) := by decide +kernel
theorem dX5_pick_125 : decode cX5_pick 125 = .ok (.invokevirtual 196, 3) := by decide +kernel
theorem dX5_pick_128 : decode cX5_pick 128 = .ok (.ireturn, 1) := by decide +kernel
set_option maxHeartbeats 4000000 in
set_option maxRecDepth 100000 in
theorem c_X5_pick (l : Launch) (hl0 : l.stackTraces = false) (g : kG) (e0 : Nat) (z : Nat → Nat) (S : wPS) (sz : Nat) (hI : Inv z e0 S) (n fo : Int32) : kM l g e0 yX5_pick cX5_pick 4 (some .int) 9 203 3 27 [.ref (z 0), .int n, .int fo] S sz (pI (fun r T => (¬ n < 0 ∧ n < pF S 72 (z 11)) ∧ Inv z e0 T ∧ Tk z S T)) (fun E => (E = xI ∧ (n < 0 ∨ ¬ n < pF S 72 (z 11))) ∨ ((E = xA ∨ E = xU ∨ E = xS) ∧ (¬ n < 0 ∧ n < pF S 72 (z 11)))) := by
  refine kM.of (by decide) (Nat.le_of_ble_eq_true rfl) ?_
  intro p e s m below meth c ls B hin
  obtain ⟨F, hr, hlk, hte, hP, hK, hD, hE, hS, hA, hl, hsz⟩ := B
  subst hsz
  have hx := F.1
  have hb := F.2.1
  have hl : lv_has ls 4 [(0, .ref (z 0)), (1, .int n), (2, .int fo)] := hl
  refine lv_aload_n hx hb dX5_pick_0 rfl (lv_at hl 0 rfl) ?_
  refine lv_iload_n hx hb dX5_pick_1 rfl (lv_at hl 1 rfl) ?_
  refine kcallR (kV (n := 1) (As := [.int n]) (rest := []) (b := (z 0)) (C := RX5) F hE hK hP hD hS hA (c_X5_findLine l hl0 g e0 z S _ hI n) (rr_Pickwave hK hP (hI.1.1 0 (by decide))) kw_439 kw_440 kw_441 kw_2 kw_442 (by decide +kernel) ⟨Nat.le_of_ble_eq_true rfl, Nat.le_of_ble_eq_true rfl⟩ rfl hl.1 rfl (Nat.le_of_ble_eq_true rfl) dX5_pick_2 ⟨Nat.le_of_ble_eq_true rfl, Nat.le_of_ble_eq_true rfl⟩) rfl hD hS hA (fun E ce q9 H1 locs1 hex hP1 hS1 hce hcv hcl => kthru hte hlk (Or.inl hex) hP1 hS1 hce hcv hcl (Nat.le_of_ble_eq_true rfl) (Nat.le_of_ble_eq_true rfl)) (fun b1 T1 H locs hp hP hD hS => ?_)
  obtain ⟨hT, hp2⟩ := hp
  have hT := hT.symm
  subst hT
  refine lv_astore_n (lv' := [(3, .ref b1), (0, .ref (z 0)), (1, .int n), (2, .int fo)]) hx hb dX5_pick_5 rfl hl (by decide) rfl (fun ls hl => ?_)
  refine lv_iload_n hx hb dX5_pick_6 rfl (lv_at hl 3 rfl) ?_
  refine lv_iconst (v := 0) hx hb dX5_pick_7 (by decide) ?_
  refine lv_aload_n hx hb dX5_pick_8 rfl (lv_at hl 0 rfl) ?_
  refine rg_Line_amount F hK hP hp2.1 kw_285 dX5_pick_9 ?_
  refine lv_topi (fun x3 ex3 => ?_)
  refine kcallI (kSt (n := 3) (As := [.int fo, .int 0, .int x3]) (rest := []) F hE hK hP hD hS hA (c_X5_isBetween l hl0 g e0 S _ fo 0 x3) kw_106 kw_107 kw_2 kw_108 (by decide +kernel) ⟨Nat.le_of_ble_eq_true rfl, Nat.le_of_ble_eq_true rfl⟩ rfl hl.1 rfl (Nat.le_of_ble_eq_true rfl) dX5_pick_12 ⟨Nat.le_of_ble_eq_true rfl, Nat.le_of_ble_eq_true rfl⟩) rfl hD hS hA (fun _ _ _ _ _ h => False.elim h) (fun r4 T4 H locs hp hP hD hS => ?_)
  obtain ⟨hT, hp5⟩ := hp
  have hT := hT.symm
  subst hT
  refine lv_if_ne (tgt := 28) hx hb dX5_pick_15 (by decide) (fun c6 => ?_) (fun c6 => ?_)
  · refine lv_aload_n hx hb dX5_pick_28 rfl (lv_at hl 0 rfl) ?_
    obtain ⟨b7, hb7, ob7⟩ := hI.2.2.2.2.2.2.1 b1 hp2.1
    refine rs_Line_article (b := b7) F hK hP hp2.1 hb7 kw_284 dX5_pick_29 ?_
    obtain ⟨j8, hj8, hb8⟩ := hI.2.2.2.2.2.1 b7 ob7
    refine rs_Article_aisle (b := z (2 + j8)) F hK hP ob7 hb8 kw_321 dX5_pick_32 ?_
    refine rg_Aisle_blocked F hK hP (hI.oa hj8) kw_312 dX5_pick_35 ?_
    refine lv_topi (fun x9 ex9 => ?_)
    refine lv_if_eq (tgt := 51) hx hb dX5_pick_38 (by decide) (fun c10 => ?_) (fun c10 => ?_)
    · refine lv_aload_n hx hb dX5_pick_51 rfl (lv_at hl 0 rfl) ?_
      refine rg_Line_state F hK hP hp2.1 kw_322 dX5_pick_52 ?_
      refine lv_topi (fun x11 ex11 => ?_)
      refine lv_bipush (v := 112) hx hb dX5_pick_55 (by decide) ?_
      refine lv_icmp_eq (tgt := 70) hx hb dX5_pick_57 (by decide) (fun c12 => ?_) (fun c12 => ?_)
      · refine lv_iload_n hx hb dX5_pick_70 rfl (lv_at hl 3 rfl) ?_
        refine lv_aload_n hx hb dX5_pick_71 rfl (lv_at hl 0 rfl) ?_
        refine rg_Line_amount F hK hP hp2.1 kw_285 dX5_pick_72 ?_
        refine lv_topi (fun x13 ex13 => ?_)
        refine lv_icmp_ne (tgt := 100) hx hb dX5_pick_75 (by decide) (fun c14 => ?_) (fun c14 => ?_)
        · refine lv_aload_n hx hb dX5_pick_100 rfl (lv_at hl 1 rfl) ?_
          refine rs_Pickwave_lines (b := z 11) F hK hP (hI.1.1 0 (by decide)) hI.2.1.2.2.2.2.1 kw_28 dX5_pick_101 ?_
          refine kcallI (kV (n := 0) (As := []) (rest := []) (b := (z 11)) (C := RJx4a65c) F hE hK hP hD hS hA (c_Jx4a65c_size_8abf5 l hl0 g e0 S _ (z 11) (hI.1.1 11 (by decide))) (rr_ArrayList hK hP (hI.1.1 11 (by decide))) kw_109 kw_110 kw_111 kw_26 kw_112 (by decide +kernel) ⟨Nat.le_of_ble_eq_true rfl, Nat.le_of_ble_eq_true rfl⟩ rfl hl.1 rfl (Nat.le_of_ble_eq_true rfl) dX5_pick_104 ⟨Nat.le_of_ble_eq_true rfl, Nat.le_of_ble_eq_true rfl⟩) rfl hD hS hA (fun _ _ _ _ _ h => False.elim h) (fun r15 T15 H locs hp hP hD hS => ?_)
          obtain ⟨hT, hp16⟩ := hp
          have hT := hT.symm
          subst hT
          refine lv_bipush (v := 12) hx hb dX5_pick_107 (by decide) ?_
          refine lv_icmp_lt (tgt := 122) hx hb dX5_pick_109 (by decide) (fun c17 => ?_) (fun c17 => ?_)
          · have hs : pF S 72 (z 11) < 12 := by rw [← hp16]; exact c17
            refine lv_aload_n hx hb dX5_pick_122 rfl (lv_at hl 1 rfl) ?_
            refine lv_aload_n hx hb dX5_pick_123 rfl (lv_at hl 0 rfl) ?_
            refine lv_iload_n hx hb dX5_pick_124 rfl (lv_at hl 3 rfl) ?_
            refine kcallI (kV (n := 2) (As := [.ref b1, .int fo]) (rest := []) (b := (z 0)) (C := RX5) F hE hK hP hD hS hA (c_X5_split l hl0 g e0 z S _ hI b1 hp2.1 fo hs) (rr_Pickwave hK hP (hI.1.1 0 (by decide))) kw_503 kw_504 kw_505 kw_2 kw_506 (by decide +kernel) ⟨Nat.le_of_ble_eq_true rfl, Nat.le_of_ble_eq_true rfl⟩ rfl hl.1 rfl (Nat.le_of_ble_eq_true rfl) dX5_pick_125 ⟨Nat.le_of_ble_eq_true rfl, Nat.le_of_ble_eq_true rfl⟩) rfl hD hS hA (fun _ _ _ _ _ h => False.elim h) (fun r18 T18 H locs hp hP hD hS => ?_)
            obtain ⟨I19, t19⟩ := hp
            exact kEndI F hr rfl hlk hP hD hS (Nat.le_of_ble_eq_true rfl) (Nat.le_of_ble_eq_true rfl) dX5_pick_128 ⟨_, rfl, ⟨hp2.2, I19, (hI.kp.tk.trans t19)⟩⟩
          · exact kth_ISE hl0 F hE hlk hte hP hS hl.1 (List.mem_of_getElem? (i := 10) rfl) dX5_pick_112 dX5_pick_115 dX5_pick_116 dX5_pick_118 dX5_pick_121 ⟨Nat.le_of_ble_eq_true rfl, Nat.le_of_ble_eq_true rfl, Nat.le_of_ble_eq_true rfl, Nat.le_of_ble_eq_true rfl⟩ (Nat.le_of_ble_eq_true rfl) (Nat.le_of_ble_eq_true rfl) (Or.inr ⟨Or.inr (Or.inr (rfl)), hp2.2⟩)
        · refine lv_aload_n hx hb dX5_pick_78 rfl (lv_at hl 1 rfl) ?_
          refine lv_aload_n hx hb dX5_pick_79 rfl (lv_at hl 0 rfl) ?_
          refine lv_bipush (v := 107) hx hb dX5_pick_80 (by decide) ?_
          refine kcallU (kV (n := 2) (As := [.ref b1, .int 107]) (rest := []) (b := (z 0)) (C := RX5) F hE hK hP hD hS hA (c_X5_scan l hl0 g e0 z S _ hI b1 hp2.1 107 ⟨rfl, rfl⟩) (rr_Pickwave hK hP (hI.1.1 0 (by decide))) kw_323 kw_324 kw_325 kw_2 kw_326 (by decide +kernel) ⟨Nat.le_of_ble_eq_true rfl, Nat.le_of_ble_eq_true rfl⟩ rfl hl.1 rfl (Nat.le_of_ble_eq_true rfl) dX5_pick_82 ⟨Nat.le_of_ble_eq_true rfl, Nat.le_of_ble_eq_true rfl⟩) rfl hD hS hA (fun _ _ _ _ _ h => False.elim h) (fun T20 H locs hp hP hD hS => ?_)
          have N21 : Kp z S T20 := hp
          have K21 : Kp z S T20 := Kp.trans hI.kp N21
          have I21 : Inv z e0 T20 := hI.keep K21.1
          have o22 : Ob T20 2 b1 := N21.1.ob hp2.1
          have o23 : Ob T20 1 b7 := N21.1.ob ob7
          have o24 : Ob T20 0 (z (2 + j8)) := N21.1.ob (hI.oa hj8)
          have g25 : pG T20 21 b1 = some b7 := (congrFun (N21.1.2.2.1 21 (by decide)) b1).trans hb7
          have g26 : pG T20 10 b7 = some (z (2 + j8)) := (congrFun (N21.1.2.2.1 10 (by decide)) b7).trans hb8
          refine lv_aload_n hx hb dX5_pick_85 rfl (lv_at hl 0 rfl) ?_
          refine rs_Line_article (b := b7) F hK hP o22 g25 kw_284 dX5_pick_86 ?_
          refine lv_dup hx hb dX5_pick_89 rfl ?_
          refine rg_Article_stock F hK hP o23 kw_195 dX5_pick_90 ?_
          refine lv_topi (fun x27 ex27 => ?_)
          refine lv_iload_n hx hb dX5_pick_93 rfl (lv_at hl 3 rfl) ?_
          refine lv_isub hx hb dX5_pick_94 ?_
          refine lv_topi (fun x28 ex28 => ?_)
          refine rp_Article_stock F hK hP hD hS o23 kw_195 dX5_pick_95 (fun H locs hP hD hS => ?_)
          refine lv_iconst (v := (-1)) hx hb dX5_pick_98 (by decide) ?_
          exact kEndI F hr rfl hlk hP hD hS (Nat.le_of_ble_eq_true rfl) (Nat.le_of_ble_eq_true rfl) dX5_pick_99 ⟨_, rfl, ⟨hp2.2, hI.keep (kp_setF K21 (by decide) (by decide)).1, (kp_setF K21 (by decide) (by decide)).tk⟩⟩
      · exact kth_ISE hl0 F hE hlk hte hP hS hl.1 (List.mem_of_getElem? (i := 14) rfl) dX5_pick_60 dX5_pick_63 dX5_pick_64 dX5_pick_66 dX5_pick_69 ⟨Nat.le_of_ble_eq_true rfl, Nat.le_of_ble_eq_true rfl, Nat.le_of_ble_eq_true rfl, Nat.le_of_ble_eq_true rfl⟩ (Nat.le_of_ble_eq_true rfl) (Nat.le_of_ble_eq_true rfl) (Or.inr ⟨Or.inr (Or.inr (rfl)), hp2.2⟩)
    · exact kth_UOE hl0 F hE hlk hte hP hS hl.1 (List.mem_of_getElem? (i := 13) rfl) dX5_pick_41 dX5_pick_44 dX5_pick_45 dX5_pick_47 dX5_pick_50 ⟨Nat.le_of_ble_eq_true rfl, Nat.le_of_ble_eq_true rfl, Nat.le_of_ble_eq_true rfl, Nat.le_of_ble_eq_true rfl⟩ (Nat.le_of_ble_eq_true rfl) (Nat.le_of_ble_eq_true rfl) (Or.inr ⟨Or.inr (Or.inl rfl), hp2.2⟩)
  · exact kth_IAE hl0 F hE hlk hte hP hS hl.1 (List.mem_of_getElem? (i := 12) rfl) dX5_pick_18 dX5_pick_21 dX5_pick_22 dX5_pick_24 dX5_pick_27 ⟨Nat.le_of_ble_eq_true rfl, Nat.le_of_ble_eq_true rfl, Nat.le_of_ble_eq_true rfl, Nat.le_of_ble_eq_true rfl⟩ (Nat.le_of_ble_eq_true rfl) (Nat.le_of_ble_eq_true rfl) (Or.inr ⟨Or.inl rfl, hp2.2⟩)
theorem dX5_wave_0 : decode cX5_wave 0 = .ok (.aload_n 0, 1) := by decide +kernel
theorem dX5_wave_1 : decode cX5_wave 1 = .ok (.iload_n 1, 1) := by decide +kernel
theorem dX5_wave_2 : decode cX5_wave 2 = .ok (.invokevirtual 200, 3) := by decide +kernel
theorem dX5_wave_5 : decode cX5_wave 5 = .ok (.aload_n 0, 1) := by decide +kernel
theorem dX5_wave_6 : decode cX5_wave 6 = .ok (.getfield 212, 3) := by decide +kernel
theorem dX5_wave_9 : decode cX5_wave 9 = .ok (.aload_n 0, 1) := by decide +kernel
theorem dX5_wave_10 : decode cX5_wave 10 = .ok (.getfield 18, 3) := by decide +kernel
theorem dX5_wave_13 : decode cX5_wave 13 = .ok (.iload_n 1, 1) := by decide +kernel
theorem dX5_wave_14 : decode cX5_wave 14 = .ok (.iaload, 1) := by decide +kernel
theorem dX5_wave_15 : decode cX5_wave 15 = .ok (.if_icmp .le 13, 3) := by decide +kernel
theorem dX5_wave_18 : decode cX5_wave 18 = .ok (.new 189, 3) := by decide +kernel
theorem dX5_wave_21 : decode cX5_wave 21 = .ok (.dup, 1) := by decide +kernel
theorem dX5_wave_22 : decode cX5_wave 22 = .ok (.ldc 215, 2) := by decide +kernel
theorem dX5_wave_24 : decode cX5_wave 24 = .ok (.invokespecial 193, 3) := by decide +kernel
theorem dX5_wave_27 : decode cX5_wave 27 = .ok (.athrow, 1) := by decide +kernel
theorem dX5_wave_28 : decode cX5_wave 28 = .ok (.aload_n 0, 1) := by decide +kernel
theorem dX5_wave_29 : decode cX5_wave 29 = .ok (.getfield 217, 3) := by decide +kernel
theorem dX5_wave_32 : decode cX5_wave 32 = .ok (.bipush 20, 2) := by decide +kernel
theorem dX5_wave_34 : decode cX5_wave 34 = .ok (.if_icmp .lt 13, 3) := by decide +kernel
theorem dX5_wave_37 : decode cX5_wave 37 = .ok (.new 69, 3) := by decide +kernel
theorem dX5_wave_40 : decode cX5_wave 40 = .ok (.dup, 1) := by decide +kernel
theorem dX5_wave_41 : decode cX5_wave 41 = .ok (.ldc 220, 2) := by decide +kernel
theorem dX5_wave_43 : decode cX5_wave 43 = .ok (.invokespecial 73, 3) := by decide +kernel
theorem dX5_wave_46 : decode cX5_wave 46 = .ok (.athrow, 1) := by decide +kernel
theorem dX5_wave_47 : decode cX5_wave 47 = .ok (.aload_n 0, 1) := by decide +kernel
theorem dX5_wave_48 : decode cX5_wave 48 = .ok (.getfield 217, 3) := by decide +kernel
theorem dX5_wave_51 : decode cX5_wave 51 = .ok (.istore_n 2, 1) := by decide +kernel
theorem dX5_wave_52 : decode cX5_wave 52 = .ok (.aload_n 0, 1) := by decide +kernel
theorem dX5_wave_53 : decode cX5_wave 53 = .ok (.dup, 1) := by decide +kernel
theorem dX5_wave_54 : decode cX5_wave 54 = .ok (.getfield 217, 3) := by decide +kernel
theorem dX5_wave_57 : decode cX5_wave 57 = .ok (.iconst 1, 1) := by decide +kernel
theorem dX5_wave_58 : decode cX5_wave 58 = .ok (.iadd, 1) := by decide +kernel
theorem dX5_wave_59 : decode cX5_wave 59 = .ok (.putfield 217, 3) := by decide +kernel
theorem dX5_wave_62 : decode cX5_wave 62 = .ok (.iconst 0, 1) := by decide +kernel
theorem dX5_wave_63 : decode cX5_wave 63 = .ok (.istore_n 3, 1) := by decide +kernel
theorem dX5_wave_64 : decode cX5_wave 64 = .ok (.iconst 1, 1) := by decide +kernel
theorem dX5_wave_65 : decode cX5_wave 65 = .ok (.istore 4, 2) := by decide +kernel
theorem dX5_wave_67 : decode cX5_wave 67 = .ok (.iload 4, 2) := by decide +kernel
theorem dX5_wave_69 : decode cX5_wave 69 = .ok (.bipush 20, 2) := by decide +kernel
theorem dX5_wave_71 : decode cX5_wave 71 = .ok (.if_icmp .gt 20, 3) := by decide +kernel
theorem dX5_wave_74 : decode cX5_wave 74 = .ok (.iload_n 3, 1) := by decide +kernel
theorem dX5_wave_75 : decode cX5_wave 75 = .ok (.aload_n 0, 1) := by decide +kernel
theorem dX5_wave_76 : decode cX5_wave 76 = .ok (.iload_n 1, 1) := by decide +kernel
theorem dX5_wave_77 : decode cX5_wave 77 = .ok (.iload 4, 2) := by decide +kernel
theorem dX5_wave_79 : decode cX5_wave 79 = .ok (.iload_n 2, 1) := by decide +kernel
theorem dX5_wave_80 : decode cX5_wave 80 = .ok (.invokevirtual 222, 3) := by decide +kernel
theorem dX5_wave_83 : decode cX5_wave 83 = .ok (.iadd, 1) := by decide +kernel
theorem dX5_wave_84 : decode cX5_wave 84 = .ok (.istore_n 3, 1) := by decide +kernel
theorem dX5_wave_85 : decode cX5_wave 85 = .ok (.iinc 4 1, 3) := by decide +kernel
theorem dX5_wave_88 : decode cX5_wave 88 = .ok (.goto (-21), 3) := by decide +kernel
theorem dX5_wave_91 : decode cX5_wave 91 = .ok (.iload_n 3, 1) := by decide +kernel
theorem dX5_wave_92 : decode cX5_wave 92 = .ok (.ireturn, 1) := by decide +kernel
set_option maxHeartbeats 4000000 in
set_option maxRecDepth 100000 in
theorem c_X5_wave (l : Launch) (hl0 : l.stackTraces = false) (g : kG) (e0 : Nat) (z : Nat → Nat) (S : wPS) (sz : Nat) (hI : Inv z e0 S) (n : Int32) : kM l g e0 yX5_wave cX5_wave 5 (some .int) 7 103 2 12 [.ref (z 0), .int n] S sz (pI (fun r T => ∃ j, j < 3 ∧ n = nI j ∧ ¬ pX S (z 6) j < pF S 56 (z 0) ∧ pF S 57 (z 0) < 20 ∧ Inv z e0 T ∧ Tk z (setF S 57 (z 0) (pF S 57 (z 0) + 1)) T ∧ (pF S 72 (z 11) = 0 → r = 0))) (fun E => (E = xI ∧ (n < 0 ∨ 3 ≤ n)) ∨ (∃ j, j < 3 ∧ n = nI j ∧ ((E = xU ∧ pX S (z 6) j < pF S 56 (z 0)) ∨ (E = xS ∧ ¬ pX S (z 6) j < pF S 56 (z 0) ∧ ¬ pF S 57 (z 0) < 20)))) := by
  refine kM.of (by decide) (Nat.le_of_ble_eq_true rfl) ?_
  intro p e s m below meth c ls B hin
  obtain ⟨F, hr, hlk, hte, hP, hK, hD, hE, hS, hA, hl, hsz⟩ := B
  subst hsz
  have hx := F.1
  have hb := F.2.1
  have hl : lv_has ls 5 [(0, .ref (z 0)), (1, .int n)] := hl
  refine lv_aload_n hx hb dX5_wave_0 rfl (lv_at hl 0 rfl) ?_
  refine lv_iload_n hx hb dX5_wave_1 rfl (lv_at hl 1 rfl) ?_
  refine kcallU (kV (n := 1) (As := [.int n]) (rest := []) (b := (z 0)) (C := RX5) F hE hK hP hD hS hA (c_X5_checkCarrier l hl0 g e0 z S _ hI n) (rr_Pickwave hK hP (hI.1.1 0 (by decide))) kw_524 kw_525 kw_526 kw_2 kw_527 (by decide +kernel) ⟨Nat.le_of_ble_eq_true rfl, Nat.le_of_ble_eq_true rfl⟩ rfl hl.1 rfl (Nat.le_of_ble_eq_true rfl) dX5_wave_2 ⟨Nat.le_of_ble_eq_true rfl, Nat.le_of_ble_eq_true rfl⟩) rfl hD hS hA (fun E ce q9 H1 locs1 hex hP1 hS1 hce hcv hcl => kthru hte hlk (Or.inl hex) hP1 hS1 hce hcv hcl (Nat.le_of_ble_eq_true rfl) (Nat.le_of_ble_eq_true rfl)) (fun T1 H locs hp hP hD hS => ?_)
  obtain ⟨hT, hp2⟩ := hp
  have hT := hT.symm
  subst hT
  obtain ⟨j, hj, hnj⟩ := kix (M := 3) (N := 3) rfl (by decide) hp2.1 hp2.2
  have hcl : n.toNatClampNeg = j := by rw [hnj, nI_clamp (by omega)]
  refine lv_aload_n hx hb dX5_wave_5 rfl (lv_at hl 0 rfl) ?_
  refine rg_Pickwave_presentMinute F hK hP (hI.1.1 0 (by decide)) kw_554 dX5_wave_6 ?_
  refine lv_topi (fun x3 ex3 => ?_)
  refine lv_aload_n hx hb dX5_wave_9 rfl (lv_at hl 0 rfl) ?_
  refine rs_Pickwave_cutOffs (b := z 6) F hK hP (hI.1.1 0 (by decide)) hI.2.1.2.1 kw_19 dX5_wave_10 ?_
  refine lv_iload_n hx hb dX5_wave_13 rfl (lv_at hl 1 rfl) ?_
  refine rd_I F hK hP (hI.1.1 6 (by decide)) (by show vp_in n (pN S (z 6)); rw [hnj, hI.2.2.1.2.2.1]; exact vp_in_nI hj (by decide)) dX5_wave_14 ?_
  refine lv_topi (fun x4 ex4 => ?_)
  refine lv_icmp_le (tgt := 28) hx hb dX5_wave_15 (by decide) (fun c5 => ?_) (fun c5 => ?_)
  · have hcn : ¬ pX S (z 6) j < pF S 56 (z 0) := by rw [hcl] at ex4; rw [← ex4, ← ex3]; exact Int32.not_lt.mpr c5
    refine lv_aload_n hx hb dX5_wave_28 rfl (lv_at hl 0 rfl) ?_
    refine rg_Pickwave_waveCount F hK hP (hI.1.1 0 (by decide)) kw_555 dX5_wave_29 ?_
    refine lv_topi (fun x6 ex6 => ?_)
    refine lv_bipush (v := 20) hx hb dX5_wave_32 (by decide) ?_
    refine lv_icmp_lt (tgt := 47) hx hb dX5_wave_34 (by decide) (fun c7 => ?_) (fun c7 => ?_)
    · have hwc : pF S 57 (z 0) < 20 := by rw [← ex6]; exact c7
      refine lv_aload_n hx hb dX5_wave_47 rfl (lv_at hl 0 rfl) ?_
      refine rg_Pickwave_waveCount F hK hP (hI.1.1 0 (by decide)) kw_555 dX5_wave_48 ?_
      refine lv_topi (fun x8 ex8 => ?_)
      refine lv_istore_n (lv' := [(2, .int x8), (0, .ref (z 0)), (1, .int n)]) hx hb dX5_wave_51 rfl hl (by decide) rfl (fun ls hl => ?_)
      refine lv_aload_n hx hb dX5_wave_52 rfl (lv_at hl 1 rfl) ?_
      refine lv_dup hx hb dX5_wave_53 rfl ?_
      refine rg_Pickwave_waveCount F hK hP (hI.1.1 0 (by decide)) kw_555 dX5_wave_54 ?_
      refine lv_topi (fun x9 ex9 => ?_)
      refine lv_iconst (v := 1) hx hb dX5_wave_57 (by decide) ?_
      refine lv_iadd hx hb dX5_wave_58 ?_
      refine lv_topi (fun x10 ex10 => ?_)
      refine rp_Pickwave_waveCount F hK hP hD hS (hI.1.1 0 (by decide)) kw_555 dX5_wave_59 (fun H locs hP hD hS => ?_)
      obtain ⟨S2, hS2⟩ : ∃ x : wPS, x = setF S 57 (z 0) x10 := ⟨_, rfl⟩
      rw [← hS2] at hP hD
      have hI2 : Inv z e0 S2 := by rw [hS2]; exact hI.setU (by decide)
      have hS3 : S2 = setF S 57 (z 0) (pF S 57 (z 0) + 1) := by rw [hS2, ex10, ex9]
      have h721 : pF S2 72 (z 11) = pF S 72 (z 11) := by rw [hS2]; exact uF_of (Or.inl (by decide))
      refine lv_iconst (v := 0) hx hb dX5_wave_62 (by decide) ?_
      refine lv_istore_n (lv' := [(3, .int 0), (2, .int x8), (0, .ref (z 0)), (1, .int n)]) hx hb dX5_wave_63 rfl hl (by decide) rfl (fun ls hl => ?_)
      refine lv_iconst (v := 1) hx hb dX5_wave_64 (by decide) ?_
      refine lv_istore (lv' := [(4, .int 1), (3, .int 0), (2, .int x8), (0, .ref (z 0)), (1, .int n)]) hx hb dX5_wave_65 hl (by decide) rfl (fun ls hl => ?_)
      have loop : ∀ (fu : Nat) (T0 : wPS) (i : Nat) (xi cn : Int32) (H : Heap) (locs : List Loc) (ls : Array Slot), va_P (kD g) vwCl (kW g T0) H → va_D (kA (pL S) s.heap.size) (kW g T0) → va_S (kA (pL S) s.heap.size) s.heap H locs → lv_has ls 5 [(4, .int xi), (3, .int cn), (0, .ref (z 0)), (1, .int n), (2, .int x8)] → 20 - i < fu → (Kp z S2 T0) → (xi = nI (i + 1)) → (i ≤ 20) → (pF S 72 (z 11) = 0 → cn = 0) → W p l e ({ frames := 7, cells := 2, slots := 12, locals := 103 }) s m ([.ref (z 0), .int n] : List Value).toArray below meth c H locs 1 6 (vx_MQ below (kQ g S s.heap.size (pI (fun r T => ∃ j, j < 3 ∧ n = nI j ∧ ¬ pX S (z 6) j < pF S 56 (z 0) ∧ pF S 57 (z 0) < 20 ∧ Inv z e0 T ∧ Tk z (setF S 57 (z 0) (pF S 57 (z 0) + 1)) T ∧ (pF S 72 (z 11) = 0 → r = 0)))) (kX g S s.heap.size (fun E => (E = xI ∧ (n < 0 ∨ 3 ≤ n)) ∨ (∃ j, j < 3 ∧ n = nI j ∧ ((E = xU ∧ pX S (z 6) j < pF S 56 (z 0)) ∨ (E = xS ∧ ¬ pX S (z 6) j < pF S 56 (z 0) ∧ ¬ pF S 57 (z 0) < 20))))) ([.ref (z 0), .int n] : List Value).toArray s 2 12 (kA (pL S) s.heap.size)) (F0 m 67 ls []) := by
        intro fu
        induction fu with
        | zero => intro T0 i xi cn H locs ls hP hD hS hl hn hKp hi hin hc; exact absurd hn (Nat.not_lt_zero _)
        | succ fu ih =>
          intro T0 i xi cn H locs ls hP hD hS hl hn hKp hi hin hc
          refine lv_iload hx hb dX5_wave_67 (lv_at hl 0 rfl) ?_
          refine lv_bipush (v := 20) hx hb dX5_wave_69 (by decide) ?_
          refine lv_icmp_gt (tgt := 91) hx hb dX5_wave_71 (by decide) (fun c11 => ?_) (fun c11 => ?_)
          · refine lv_iload_n hx hb dX5_wave_91 rfl (lv_at hl 1 rfl) ?_
            exact kEndI F hr rfl hlk hP hD hS (Nat.le_of_ble_eq_true rfl) (Nat.le_of_ble_eq_true rfl) dX5_wave_92 ⟨_, rfl, ⟨j, hj, hnj, hcn, hwc, hI2.keep hKp.1, by rw [← hS3]; exact hKp.tk, hc⟩⟩
          · have hi20 : i < 20 := by rcases Nat.lt_or_ge i 20 with q | q; exact q; exact absurd (by rw [hi]; exact nI_lt (a := 20) (by omega) (by omega)) c11
            refine lv_iload_n hx hb dX5_wave_74 rfl (lv_at hl 1 rfl) ?_
            refine lv_aload_n hx hb dX5_wave_75 rfl (lv_at hl 2 rfl) ?_
            refine lv_iload_n hx hb dX5_wave_76 rfl (lv_at hl 3 rfl) ?_
            refine lv_iload hx hb dX5_wave_77 (lv_at hl 0 rfl) ?_
            refine lv_iload_n hx hb dX5_wave_79 rfl (lv_at hl 4 rfl) ?_
            refine kcallI (kV (n := 3) (As := [.int n, .int xi, .int x8]) (rest := [.int cn]) (b := (z 0)) (C := RX5) F hE hK hP hD hS hA (c_X5_promiseAll l hl0 g e0 z T0 _ (hI2.keep hKp.1) n xi x8) (rr_Pickwave hK hP ((hI2.keep hKp.1).1.1 0 (by decide))) kw_556 kw_557 kw_558 kw_2 kw_559 (by decide +kernel) ⟨Nat.le_of_ble_eq_true rfl, Nat.le_of_ble_eq_true rfl⟩ rfl hl.1 rfl (Nat.le_of_ble_eq_true rfl) dX5_wave_80 ⟨Nat.le_of_ble_eq_true rfl, Nat.le_of_ble_eq_true rfl⟩) rfl hD hS hA (fun _ _ _ _ _ h => False.elim h) (fun r12 T12 H locs hp hP hD hS => ?_)
            obtain ⟨hk13, hr13⟩ := hp
            have N13 : Kp z T0 T12 := hk13
            have K13 : Kp z S2 T12 := Kp.trans hKp N13
            have I13 : Inv z e0 T12 := hI2.keep K13.1
            refine lv_iadd hx hb dX5_wave_83 ?_
            refine lv_topi (fun x14 ex14 => ?_)
            refine lv_istore_n (lv' := [(3, .int x14), (4, .int xi), (0, .ref (z 0)), (1, .int n), (2, .int x8)]) hx hb dX5_wave_84 rfl hl (by decide) rfl (fun ls hl => ?_)
            obtain ⟨x15, ex15⟩ : ∃ y : Int32, y = xi + 1 := ⟨_, rfl⟩
            refine lv_iinc (v := x15) (lv' := [(4, .int x15), (3, .int x14), (0, .ref (z 0)), (1, .int n), (2, .int x8)]) hx hb dX5_wave_85 hl (k := 1) rfl (by rw [ex15]; rfl) (by decide) rfl (fun ls hl => ?_)
            refine lv_goto (tgt := 67) hx hb dX5_wave_88 (by decide) ?_
            exact ih _ (i + 1) x15 x14 H locs ls hP hD hS (lv_sub hl [0, 1, 2, 3, 4] rfl) (by omega) K13 (by rw [ex15, hi]; exact nI_1 (i + 1)) (by omega) (fun h => by rw [ex14, hc h, hr13 (by rw [Kp.sz hKp, h721]; exact h)]; rfl)
      exact loop 21 _ 0 1 0 _ _ _ hP hD hS (lv_sub hl [0, 1, 3, 4, 2] rfl) (by decide) hI2.kp rfl (by decide) (fun _ => rfl)
    · have hwn : ¬ pF S 57 (z 0) < 20 := by rw [← ex6]; exact c7
      exact kth_ISE hl0 F hE hlk hte hP hS hl.1 (List.mem_of_getElem? (i := 17) rfl) dX5_wave_37 dX5_wave_40 dX5_wave_41 dX5_wave_43 dX5_wave_46 ⟨Nat.le_of_ble_eq_true rfl, Nat.le_of_ble_eq_true rfl, Nat.le_of_ble_eq_true rfl, Nat.le_of_ble_eq_true rfl⟩ (Nat.le_of_ble_eq_true rfl) (Nat.le_of_ble_eq_true rfl) (Or.inr ⟨j, hj, hnj, Or.inr ⟨rfl, hcn, hwn⟩⟩)
  · have hcu : pX S (z 6) j < pF S 56 (z 0) := by rw [hcl] at ex4; rw [← ex4, ← ex3]; exact Int32.not_le.mp c5
    exact kth_UOE hl0 F hE hlk hte hP hS hl.1 (List.mem_of_getElem? (i := 16) rfl) dX5_wave_18 dX5_wave_21 dX5_wave_22 dX5_wave_24 dX5_wave_27 ⟨Nat.le_of_ble_eq_true rfl, Nat.le_of_ble_eq_true rfl, Nat.le_of_ble_eq_true rfl, Nat.le_of_ble_eq_true rfl⟩ (Nat.le_of_ble_eq_true rfl) (Nat.le_of_ble_eq_true rfl) (Or.inr ⟨j, hj, hnj, Or.inl ⟨rfl, hcu⟩⟩)
theorem dX5_send_0 : decode cX5_send 0 = .ok (.aload_n 0, 1) := by decide +kernel
theorem dX5_send_1 : decode cX5_send 1 = .ok (.iload_n 1, 1) := by decide +kernel
theorem dX5_send_2 : decode cX5_send 2 = .ok (.invokevirtual 234, 3) := by decide +kernel
theorem dX5_send_5 : decode cX5_send 5 = .ok (.astore_n 3, 1) := by decide +kernel
theorem dX5_send_6 : decode cX5_send 6 = .ok (.aload_n 0, 1) := by decide +kernel
theorem dX5_send_7 : decode cX5_send 7 = .ok (.iload_n 2, 1) := by decide +kernel
theorem dX5_send_8 : decode cX5_send 8 = .ok (.invokevirtual 83, 3) := by decide +kernel
theorem dX5_send_11 : decode cX5_send 11 = .ok (.astore 4, 2) := by decide +kernel
theorem dX5_send_13 : decode cX5_send 13 = .ok (.aload 4, 2) := by decide +kernel
theorem dX5_send_15 : decode cX5_send 15 = .ok (.getfield 185, 3) := by decide +kernel
theorem dX5_send_18 : decode cX5_send 18 = .ok (.getfield 121, 3) := by decide +kernel
theorem dX5_send_21 : decode cX5_send 21 = .ok (.ifCond .eq 13, 3) := by decide +kernel
theorem dX5_send_24 : decode cX5_send 24 = .ok (.new 189, 3) := by decide +kernel
theorem dX5_send_27 : decode cX5_send 27 = .ok (.dup, 1) := by decide +kernel
theorem dX5_send_28 : decode cX5_send 28 = .ok (.ldc 191, 2) := by decide +kernel
theorem dX5_send_30 : decode cX5_send 30 = .ok (.invokespecial 193, 3) := by decide +kernel
theorem dX5_send_33 : decode cX5_send 33 = .ok (.athrow, 1) := by decide +kernel
theorem dX5_send_34 : decode cX5_send 34 = .ok (.aload_n 3, 1) := by decide +kernel
theorem dX5_send_35 : decode cX5_send 35 = .ok (.getfield 238, 3) := by decide +kernel
theorem dX5_send_38 : decode cX5_send 38 = .ok (.ifnull 13, 3) := by decide +kernel
theorem dX5_send_41 : decode cX5_send 41 = .ok (.new 69, 3) := by decide +kernel
theorem dX5_send_44 : decode cX5_send 44 = .ok (.dup, 1) := by decide +kernel
theorem dX5_send_45 : decode cX5_send 45 = .ok (.ldc 239, 2) := by decide +kernel
theorem dX5_send_47 : decode cX5_send 47 = .ok (.invokespecial 73, 3) := by decide +kernel
theorem dX5_send_50 : decode cX5_send 50 = .ok (.athrow, 1) := by decide +kernel
theorem dX5_send_51 : decode cX5_send 51 = .ok (.bipush 10, 2) := by decide +kernel
theorem dX5_send_53 : decode cX5_send 53 = .ok (.aload 4, 2) := by decide +kernel
theorem dX5_send_55 : decode cX5_send 55 = .ok (.getfield 91, 3) := by decide +kernel
theorem dX5_send_58 : decode cX5_send 58 = .ok (.aload 4, 2) := by decide +kernel
theorem dX5_send_60 : decode cX5_send 60 = .ok (.invokevirtual 138, 3) := by decide +kernel
theorem dX5_send_63 : decode cX5_send 63 = .ok (.invokestatic 241, 3) := by decide +kernel
theorem dX5_send_66 : decode cX5_send 66 = .ok (.invokestatic 241, 3) := by decide +kernel
theorem dX5_send_69 : decode cX5_send 69 = .ok (.istore 5, 2) := by decide +kernel
theorem dX5_send_71 : decode cX5_send 71 = .ok (.iload 5, 2) := by decide +kernel
theorem dX5_send_73 : decode cX5_send 73 = .ok (.ifCond .gt 13, 3) := by decide +kernel
theorem dX5_send_76 : decode cX5_send 76 = .ok (.new 229, 3) := by decide +kernel
theorem dX5_send_79 : decode cX5_send 79 = .ok (.dup, 1) := by decide +kernel
theorem dX5_send_80 : decode cX5_send 80 = .ok (.ldc 244, 2) := by decide +kernel
theorem dX5_send_82 : decode cX5_send 82 = .ok (.invokespecial 233, 3) := by decide +kernel
theorem dX5_send_85 : decode cX5_send 85 = .ok (.athrow, 1) := by decide +kernel
theorem dX5_send_86 : decode cX5_send 86 = .ok (.aload_n 3, 1) := by decide +kernel
theorem dX5_send_87 : decode cX5_send 87 = .ok (.aload_n 0, 1) := by decide +kernel
theorem dX5_send_88 : decode cX5_send 88 = .ok (.aload 4, 2) := by decide +kernel
theorem dX5_send_90 : decode cX5_send 90 = .ok (.getfield 185, 3) := by decide +kernel
theorem dX5_send_93 : decode cX5_send 93 = .ok (.invokevirtual 246, 3) := by decide +kernel
theorem dX5_send_96 : decode cX5_send 96 = .ok (.putfield 250, 3) := by decide +kernel
theorem dX5_send_99 : decode cX5_send 99 = .ok (.aload_n 3, 1) := by decide +kernel
theorem dX5_send_100 : decode cX5_send 100 = .ok (.aload 4, 2) := by decide +kernel
theorem dX5_send_102 : decode cX5_send 102 = .ok (.putfield 238, 3) := by decide +kernel
theorem dX5_send_105 : decode cX5_send 105 = .ok (.aload_n 3, 1) := by decide +kernel
theorem dX5_send_106 : decode cX5_send 106 = .ok (.iload 5, 2) := by decide +kernel
theorem dX5_send_108 : decode cX5_send 108 = .ok (.putfield 253, 3) := by decide +kernel
theorem dX5_send_111 : decode cX5_send 111 = .ok (.aload 4, 2) := by decide +kernel
theorem dX5_send_113 : decode cX5_send 113 = .ok (.dup, 1) := by decide +kernel
theorem dX5_send_114 : decode cX5_send 114 = .ok (.getfield 91, 3) := by decide +kernel
theorem dX5_send_117 : decode cX5_send 117 = .ok (.iload 5, 2) := by decide +kernel
theorem dX5_send_119 : decode cX5_send 119 = .ok (.isub, 1) := by decide +kernel
theorem dX5_send_120 : decode cX5_send 120 = .ok (.putfield 91, 3) := by decide +kernel
theorem dX5_send_123 : decode cX5_send 123 = .ok (.aload_n 3, 1) := by decide +kernel
theorem dX5_send_124 : decode cX5_send 124 = .ok (.getfield 250, 3) := by decide +kernel
theorem dX5_send_127 : decode cX5_send 127 = .ok (.ireturn, 1) := by decide +kernel
set_option maxHeartbeats 4000000 in
set_option maxRecDepth 100000 in
theorem c_X5_send (l : Launch) (hl0 : l.stackTraces = false) (g : kG) (e0 : Nat) (z : Nat → Nat) (S : wPS) (sz : Nat) (hI : Inv z e0 S) (n a : Int32) : kM l g e0 yX5_send cX5_send 6 (some .int) 7 103 3 18 [.ref (z 0), .int n, .int a] S sz (pI (fun r T => (¬ a < 0 ∧ a < pF S 72 (z 10)) ∧ Inv z e0 T ∧ Tk z S T)) (fun E => (E = xI) ∨ ((E = xU ∨ E = xS ∨ E = xN) ∧ (¬ a < 0 ∧ a < pF S 72 (z 10)))) := by
  refine kM.of (by decide) (Nat.le_of_ble_eq_true rfl) ?_
  intro p e s m below meth c ls B hin
  obtain ⟨F, hr, hlk, hte, hP, hK, hD, hE, hS, hA, hl, hsz⟩ := B
  subst hsz
  have hx := F.1
  have hb := F.2.1
  have hl : lv_has ls 6 [(0, .ref (z 0)), (1, .int n), (2, .int a)] := hl
  refine lv_aload_n hx hb dX5_send_0 rfl (lv_at hl 0 rfl) ?_
  refine lv_iload_n hx hb dX5_send_1 rfl (lv_at hl 1 rfl) ?_
  refine kcallR (kV (n := 1) (As := [.int n]) (rest := []) (b := (z 0)) (C := RX5) F hE hK hP hD hS hA (c_X5_findRobot l hl0 g e0 z S _ hI n) (rr_Pickwave hK hP (hI.1.1 0 (by decide))) kw_614 kw_615 kw_616 kw_2 kw_617 (by decide +kernel) ⟨Nat.le_of_ble_eq_true rfl, Nat.le_of_ble_eq_true rfl⟩ rfl hl.1 rfl (Nat.le_of_ble_eq_true rfl) dX5_send_2 ⟨Nat.le_of_ble_eq_true rfl, Nat.le_of_ble_eq_true rfl⟩) rfl hD hS hA (fun E ce q9 H1 locs1 hex hP1 hS1 hce hcv hcl => kthru hte hlk (Or.inl hex.1) hP1 hS1 hce hcv hcl (Nat.le_of_ble_eq_true rfl) (Nat.le_of_ble_eq_true rfl)) (fun b1 T1 H locs hp hP hD hS => ?_)
  obtain ⟨hT, hp2⟩ := hp
  have hT := hT.symm
  subst hT
  obtain ⟨j3, hj3, hn3, rfl⟩ := hp2
  refine lv_astore_n (lv' := [(3, .ref (z (8 + j3))), (0, .ref (z 0)), (1, .int n), (2, .int a)]) hx hb dX5_send_5 rfl hl (by decide) rfl (fun ls hl => ?_)
  refine lv_aload_n hx hb dX5_send_6 rfl (lv_at hl 1 rfl) ?_
  refine lv_iload_n hx hb dX5_send_7 rfl (lv_at hl 3 rfl) ?_
  refine kcallR (kV (n := 1) (As := [.int a]) (rest := []) (b := (z 0)) (C := RX5) F hE hK hP hD hS hA (c_X5_findArticle l hl0 g e0 z S _ hI a) (rr_Pickwave hK hP (hI.1.1 0 (by decide))) kw_196 kw_197 kw_198 kw_2 kw_199 (by decide +kernel) ⟨Nat.le_of_ble_eq_true rfl, Nat.le_of_ble_eq_true rfl⟩ rfl hl.1 rfl (Nat.le_of_ble_eq_true rfl) dX5_send_8 ⟨Nat.le_of_ble_eq_true rfl, Nat.le_of_ble_eq_true rfl⟩) rfl hD hS hA (fun E ce q9 H1 locs1 hex hP1 hS1 hce hcv hcl => kthru hte hlk (Or.inl hex.1) hP1 hS1 hce hcv hcl (Nat.le_of_ble_eq_true rfl) (Nat.le_of_ble_eq_true rfl)) (fun b4 T4 H locs hp hP hD hS => ?_)
  obtain ⟨hT, hp5⟩ := hp
  have hT := hT.symm
  subst hT
  refine lv_astore (lv' := [(4, .ref b4), (3, .ref (z (8 + j3))), (0, .ref (z 0)), (1, .int n), (2, .int a)]) hx hb dX5_send_11 hl (by decide) rfl (fun ls hl => ?_)
  refine lv_aload hx hb dX5_send_13 (lv_at hl 0 rfl) ?_
  obtain ⟨j6, hj6, hb6⟩ := hI.2.2.2.2.2.1 b4 hp5.1
  refine rs_Article_aisle (b := z (2 + j6)) F hK hP hp5.1 hb6 kw_321 dX5_send_15 ?_
  refine rg_Aisle_blocked F hK hP (hI.oa hj6) kw_312 dX5_send_18 ?_
  refine lv_topi (fun x7 ex7 => ?_)
  refine lv_if_eq (tgt := 34) hx hb dX5_send_21 (by decide) (fun c8 => ?_) (fun c8 => ?_)
  · refine lv_aload_n hx hb dX5_send_34 rfl (lv_at hl 1 rfl) ?_
    rcases (hI.2.2.2.2.2.2.2 _ (hI.or hj3)) with ha | ⟨b, ha, ob⟩
    · refine rz_Robot_article F hK hP (hI.or hj3) ha kw_610 dX5_send_35 ?_
      refine lv_ifnullN (tgt := 51) hx hb dX5_send_38 (by decide) ?_
      refine lv_bipush (v := 10) hx hb dX5_send_51 (by decide) ?_
      refine lv_aload hx hb dX5_send_53 (lv_at hl 0 rfl) ?_
      refine rg_Article_reserve F hK hP hp5.1 kw_234 dX5_send_55 ?_
      refine lv_topi (fun x10 ex10 => ?_)
      refine lv_aload hx hb dX5_send_58 (lv_at hl 0 rfl) ?_
      refine kcallI (kV (n := 0) (As := []) (rest := [.int x10, .int 10]) (b := b4) (C := RX1) F hE hK hP hD hS hA (c_X1_roomLeft l hl0 g e0 S _ b4 hp5.1) (rr_Article hK hP hp5.1) kw_369 kw_370 kw_371 kw_101 kw_372 (by decide +kernel) ⟨Nat.le_of_ble_eq_true rfl, Nat.le_of_ble_eq_true rfl⟩ rfl hl.1 rfl (Nat.le_of_ble_eq_true rfl) dX5_send_60 ⟨Nat.le_of_ble_eq_true rfl, Nat.le_of_ble_eq_true rfl⟩) rfl hD hS hA (fun _ _ _ _ _ h => False.elim h) (fun r11 T11 H locs hp hP hD hS => ?_)
      obtain ⟨hT, hp12⟩ := hp
      have hT := hT.symm
      subst hT
      refine va_mmin hx hb (by rw [F.2.2.1]; exact hl.1.symm) F.2.2.2.1 (F.2.2.2.2 _ kw_611) (F.2.2.2.2 _ kw_168) (F.2.2.2.2 _ kw_142) (F.2.2.2.2 _ kw_169) (Nat.le_of_ble_eq_true rfl) (Nat.le_of_ble_eq_true rfl) (Nat.le_of_ble_eq_true rfl) (Nat.le_of_ble_eq_true rfl) dX5_send_63 ?_
      refine lv_topi (fun x13 ex13 => ?_)
      refine va_mmin hx hb (by rw [F.2.2.1]; exact hl.1.symm) F.2.2.2.1 (F.2.2.2.2 _ kw_611) (F.2.2.2.2 _ kw_168) (F.2.2.2.2 _ kw_142) (F.2.2.2.2 _ kw_169) (Nat.le_of_ble_eq_true rfl) (Nat.le_of_ble_eq_true rfl) (Nat.le_of_ble_eq_true rfl) (Nat.le_of_ble_eq_true rfl) dX5_send_66 ?_
      refine lv_topi (fun x14 ex14 => ?_)
      refine lv_istore (lv' := [(5, .int x14), (4, .ref b4), (3, .ref (z (8 + j3))), (0, .ref (z 0)), (1, .int n), (2, .int a)]) hx hb dX5_send_69 hl (by decide) rfl (fun ls hl => ?_)
      refine lv_iload hx hb dX5_send_71 (lv_at hl 0 rfl) ?_
      refine lv_if_gt (tgt := 86) hx hb dX5_send_73 (by decide) (fun c15 => ?_) (fun c15 => ?_)
      · refine lv_aload_n hx hb dX5_send_86 rfl (lv_at hl 2 rfl) ?_
        refine lv_aload_n hx hb dX5_send_87 rfl (lv_at hl 3 rfl) ?_
        refine lv_aload hx hb dX5_send_88 (lv_at hl 1 rfl) ?_
        refine rs_Article_aisle (b := z (2 + j6)) F hK hP hp5.1 hb6 kw_321 dX5_send_90 ?_
        refine kcallI (kV (n := 1) (As := [.ref (z (2 + j6))]) (rest := [.ref (z (8 + j3))]) (b := (z 0)) (C := RX5) F hE hK hP hD hS hA (c_X5_minutesOfAWay l hl0 g e0 z S _ hI (z (2 + j6)) (hI.oa hj6)) (rr_Pickwave hK hP (hI.1.1 0 (by decide))) kw_618 kw_619 kw_620 kw_2 kw_621 (by decide +kernel) ⟨Nat.le_of_ble_eq_true rfl, Nat.le_of_ble_eq_true rfl⟩ rfl hl.1 rfl (Nat.le_of_ble_eq_true rfl) dX5_send_93 ⟨Nat.le_of_ble_eq_true rfl, Nat.le_of_ble_eq_true rfl⟩) rfl hD hS hA (fun _ _ _ _ _ h => False.elim h) (fun r16 T16 H locs hp hP hD hS => ?_)
        obtain ⟨hT, hp17⟩ := hp
        have hT := hT.symm
        subst hT
        refine rp_Robot_minutes F hK hP hD hS (hI.or hj3) kw_612 dX5_send_96 (fun H locs hP hD hS => ?_)
        refine lv_aload_n hx hb dX5_send_99 rfl (lv_at hl 2 rfl) ?_
        refine lv_aload hx hb dX5_send_100 (lv_at hl 1 rfl) ?_
        refine rps_Robot_article F hK hP hD hS (hI.or hj3) kw_610 dX5_send_102 (fun H locs hP hD hS => ?_)
        have hI2 : Inv z e0 (setG (setF S 32 (z (8 + j3)) r16) 30 (z (8 + j3)) (some b4)) := Inv.setRob (hI.keep (kp_setF hI.kp (by decide) (by decide)).1) hp5.1
        have tk2 : Tk z S (setG (setF S 32 (z (8 + j3)) r16) 30 (z (8 + j3)) (some b4)) := ((kp_setF hI.kp (by decide) (by decide)).tk.trans tk_setG)
        refine lv_aload_n hx hb dX5_send_105 rfl (lv_at hl 2 rfl) ?_
        refine lv_iload hx hb dX5_send_106 (lv_at hl 0 rfl) ?_
        refine rp_Robot_load F hK hP hD hS (hI.or hj3) kw_613 dX5_send_108 (fun H locs hP hD hS => ?_)
        refine lv_aload hx hb dX5_send_111 (lv_at hl 1 rfl) ?_
        refine lv_dup hx hb dX5_send_113 rfl ?_
        refine rg_Article_reserve F hK hP hp5.1 kw_234 dX5_send_114 ?_
        refine lv_topi (fun x18 ex18 => ?_)
        refine lv_iload hx hb dX5_send_117 (lv_at hl 0 rfl) ?_
        refine lv_isub hx hb dX5_send_119 ?_
        refine lv_topi (fun x19 ex19 => ?_)
        refine rp_Article_reserve F hK hP hD hS hp5.1 kw_234 dX5_send_120 (fun H locs hP hD hS => ?_)
        refine lv_aload_n hx hb dX5_send_123 rfl (lv_at hl 2 rfl) ?_
        refine rg_Robot_minutes F hK hP (hI.or hj3) kw_612 dX5_send_124 ?_
        refine lv_topi (fun x20 ex20 => ?_)
        exact kEndI F hr rfl hlk hP hD hS (Nat.le_of_ble_eq_true rfl) (Nat.le_of_ble_eq_true rfl) dX5_send_127 ⟨_, rfl, ⟨hp5.2, hI2.keep (kp_setF (kp_setF hI2.kp (by decide) (by decide)) (by decide) (by decide)).1, tk2.trans (kp_setF (kp_setF hI2.kp (by decide) (by decide)) (by decide) (by decide)).tk⟩⟩
      · exact kth_NSEE hl0 F hE hlk hte hP hS hl.1 (List.mem_of_getElem? (i := 20) rfl) dX5_send_76 dX5_send_79 dX5_send_80 dX5_send_82 dX5_send_85 ⟨Nat.le_of_ble_eq_true rfl, Nat.le_of_ble_eq_true rfl, Nat.le_of_ble_eq_true rfl, Nat.le_of_ble_eq_true rfl⟩ (Nat.le_of_ble_eq_true rfl) (Nat.le_of_ble_eq_true rfl) (Or.inr ⟨Or.inr (Or.inr (rfl)), hp5.2⟩)
    · refine rs_Robot_article (b := b) F hK hP (hI.or hj3) ha kw_610 dX5_send_35 ?_
      refine lv_ifnull hx hb dX5_send_38 ?_
      exact kth_ISE hl0 F hE hlk hte hP hS hl.1 (List.mem_of_getElem? (i := 19) rfl) dX5_send_41 dX5_send_44 dX5_send_45 dX5_send_47 dX5_send_50 ⟨Nat.le_of_ble_eq_true rfl, Nat.le_of_ble_eq_true rfl, Nat.le_of_ble_eq_true rfl, Nat.le_of_ble_eq_true rfl⟩ (Nat.le_of_ble_eq_true rfl) (Nat.le_of_ble_eq_true rfl) (Or.inr ⟨Or.inr (Or.inl rfl), hp5.2⟩)
  · exact kth_UOE hl0 F hE hlk hte hP hS hl.1 (List.mem_of_getElem? (i := 13) rfl) dX5_send_24 dX5_send_27 dX5_send_28 dX5_send_30 dX5_send_33 ⟨Nat.le_of_ble_eq_true rfl, Nat.le_of_ble_eq_true rfl, Nat.le_of_ble_eq_true rfl, Nat.le_of_ble_eq_true rfl⟩ (Nat.le_of_ble_eq_true rfl) (Nat.le_of_ble_eq_true rfl) (Or.inr ⟨Or.inl rfl, hp5.2⟩)
