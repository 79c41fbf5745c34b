theorem dX6_addArticle_0 : decode cX6_addArticle 0 = .ok (.iload_n 1, 1) := by decide +kernel
theorem dX6_addArticle_1 : decode cX6_addArticle 1 = .ok (.iconst 0, 1) := by decide +kernel
theorem dX6_addArticle_2 : decode cX6_addArticle 2 = .ok (.iconst 3, 1) := by decide +kernel
theorem dX6_addArticle_3 : decode cX6_addArticle 3 = .ok (.invokestatic 69, 3) := by decide +kernel
theorem dX6_addArticle_6 : decode cX6_addArticle 6 = .ok (.ifCond .eq 35, 3) := by decide +kernel
theorem dX6_addArticle_9 : decode cX6_addArticle 9 = .ok (.iload 4, 2) := by decide +kernel
theorem dX6_addArticle_11 : decode cX6_addArticle 11 = .ok (.iconst 1, 1) := by decide +kernel
theorem dX6_addArticle_12 : decode cX6_addArticle 12 = .ok (.bipush 99, 2) := by decide +kernel
theorem dX6_addArticle_14 : decode cX6_addArticle 14 = .ok (.invokestatic 69, 3) := by decide +kernel
theorem dX6_addArticle_17 : decode cX6_addArticle 17 = .ok (.ifCond .eq 24, 3) := by decide +kernel
theorem dX6_addArticle_20 : decode cX6_addArticle 20 = .ok (.iload_n 2, 1) := by decide +kernel
theorem dX6_addArticle_21 : decode cX6_addArticle 21 = .ok (.iconst 0, 1) := by decide +kernel
theorem dX6_addArticle_22 : decode cX6_addArticle 22 = .ok (.iload 4, 2) := by decide +kernel
theorem dX6_addArticle_24 : decode cX6_addArticle 24 = .ok (.invokestatic 69, 3) := by decide +kernel
theorem dX6_addArticle_27 : decode cX6_addArticle 27 = .ok (.ifCond .eq 14, 3) := by decide +kernel
theorem dX6_addArticle_30 : decode cX6_addArticle 30 = .ok (.iload_n 3, 1) := by decide +kernel
theorem dX6_addArticle_31 : decode cX6_addArticle 31 = .ok (.iconst 0, 1) := by decide +kernel
theorem dX6_addArticle_32 : decode cX6_addArticle 32 = .ok (.sipush 999, 3) := by decide +kernel
theorem dX6_addArticle_35 : decode cX6_addArticle 35 = .ok (.invokestatic 69, 3) := by decide +kernel
theorem dX6_addArticle_38 : decode cX6_addArticle 38 = .ok (.ifCond .ne 9, 3) := by decide +kernel
theorem dX6_addArticle_41 : decode cX6_addArticle 41 = .ok (.aload_n 0, 1) := by decide +kernel
theorem dX6_addArticle_42 : decode cX6_addArticle 42 = .ok (.iconst 1, 1) := by decide +kernel
theorem dX6_addArticle_43 : decode cX6_addArticle 43 = .ok (.invokevirtual 87, 3) := by decide +kernel
theorem dX6_addArticle_46 : decode cX6_addArticle 46 = .ok (.ireturn, 1) := by decide +kernel
theorem dX6_addArticle_47 : decode cX6_addArticle 47 = .ok (.aload_n 0, 1) := by decide +kernel
theorem dX6_addArticle_48 : decode cX6_addArticle 48 = .ok (.getfield 66, 3) := by decide +kernel
theorem dX6_addArticle_51 : decode cX6_addArticle 51 = .ok (.bipush 6, 2) := by decide +kernel
theorem dX6_addArticle_53 : decode cX6_addArticle 53 = .ok (.if_icmp .ne 9, 3) := by decide +kernel
theorem dX6_addArticle_56 : decode cX6_addArticle 56 = .ok (.aload_n 0, 1) := by decide +kernel
theorem dX6_addArticle_57 : decode cX6_addArticle 57 = .ok (.iconst 2, 1) := by decide +kernel
theorem dX6_addArticle_58 : decode cX6_addArticle 58 = .ok (.invokevirtual 87, 3) := by decide +kernel
theorem dX6_addArticle_61 : decode cX6_addArticle 61 = .ok (.ireturn, 1) := by decide +kernel
theorem dX6_addArticle_62 : decode cX6_addArticle 62 = .ok (.aload_n 0, 1) := by decide +kernel
theorem dX6_addArticle_63 : decode cX6_addArticle 63 = .ok (.iconst 0, 1) := by decide +kernel
theorem dX6_addArticle_64 : decode cX6_addArticle 64 = .ok (.putfield 62, 3) := by decide +kernel
theorem dX6_addArticle_67 : decode cX6_addArticle 67 = .ok (.aload_n 0, 1) := by decide +kernel
theorem dX6_addArticle_68 : decode cX6_addArticle 68 = .ok (.getfield 7, 3) := by decide +kernel
theorem dX6_addArticle_71 : decode cX6_addArticle 71 = .ok (.aload_n 0, 1) := by decide +kernel
theorem dX6_addArticle_72 : decode cX6_addArticle 72 = .ok (.getfield 66, 3) := by decide +kernel
theorem dX6_addArticle_75 : decode cX6_addArticle 75 = .ok (.iload_n 1, 1) := by decide +kernel
theorem dX6_addArticle_76 : decode cX6_addArticle 76 = .ok (.iastore, 1) := by decide +kernel
theorem dX6_addArticle_77 : decode cX6_addArticle 77 = .ok (.aload_n 0, 1) := by decide +kernel
theorem dX6_addArticle_78 : decode cX6_addArticle 78 = .ok (.getfield 13, 3) := by decide +kernel
theorem dX6_addArticle_81 : decode cX6_addArticle 81 = .ok (.aload_n 0, 1) := by decide +kernel
theorem dX6_addArticle_82 : decode cX6_addArticle 82 = .ok (.getfield 66, 3) := by decide +kernel
theorem dX6_addArticle_85 : decode cX6_addArticle 85 = .ok (.iload_n 2, 1) := by decide +kernel
theorem dX6_addArticle_86 : decode cX6_addArticle 86 = .ok (.iastore, 1) := by decide +kernel
theorem dX6_addArticle_87 : decode cX6_addArticle 87 = .ok (.aload_n 0, 1) := by decide +kernel
theorem dX6_addArticle_88 : decode cX6_addArticle 88 = .ok (.getfield 16, 3) := by decide +kernel
theorem dX6_addArticle_91 : decode cX6_addArticle 91 = .ok (.aload_n 0, 1) := by decide +kernel
theorem dX6_addArticle_92 : decode cX6_addArticle 92 = .ok (.getfield 66, 3) := by decide +kernel
theorem dX6_addArticle_95 : decode cX6_addArticle 95 = .ok (.iload_n 3, 1) := by decide +kernel
theorem dX6_addArticle_96 : decode cX6_addArticle 96 = .ok (.iastore, 1) := by decide +kernel
theorem dX6_addArticle_97 : decode cX6_addArticle 97 = .ok (.aload_n 0, 1) := by decide +kernel
theorem dX6_addArticle_98 : decode cX6_addArticle 98 = .ok (.getfield 19, 3) := by decide +kernel
theorem dX6_addArticle_101 : decode cX6_addArticle 101 = .ok (.aload_n 0, 1) := by decide +kernel
theorem dX6_addArticle_102 : decode cX6_addArticle 102 = .ok (.getfield 66, 3) := by decide +kernel
theorem dX6_addArticle_105 : decode cX6_addArticle 105 = .ok (.iload 4, 2) := by decide +kernel
theorem dX6_addArticle_107 : decode cX6_addArticle 107 = .ok (.iastore, 1) := by decide +kernel
theorem dX6_addArticle_108 : decode cX6_addArticle 108 = .ok (.aload_n 0, 1) := by decide +kernel
theorem dX6_addArticle_109 : decode cX6_addArticle 109 = .ok (.dup, 1) := by decide +kernel
theorem dX6_addArticle_110 : decode cX6_addArticle 110 = .ok (.getfield 66, 3) := by decide +kernel
theorem dX6_addArticle_113 : decode cX6_addArticle 113 = .ok (.iconst 1, 1) := by decide +kernel
theorem dX6_addArticle_114 : decode cX6_addArticle 114 = .ok (.iadd, 1) := by decide +kernel
theorem dX6_addArticle_115 : decode cX6_addArticle 115 = .ok (.putfield 66, 3) := by decide +kernel
theorem dX6_addArticle_118 : decode cX6_addArticle 118 = .ok (.aload_n 0, 1) := by decide +kernel
theorem dX6_addArticle_119 : decode cX6_addArticle 119 = .ok (.getfield 66, 3) := by decide +kernel
theorem dX6_addArticle_122 : decode cX6_addArticle 122 = .ok (.iconst 1, 1) := by decide +kernel
theorem dX6_addArticle_123 : decode cX6_addArticle 123 = .ok (.isub, 1) := by decide +kernel
theorem dX6_addArticle_124 : decode cX6_addArticle 124 = .ok (.ireturn, 1) := by decide +kernel
set_option maxHeartbeats 4000000 in
set_option maxRecDepth 100000 in
theorem c_X6_addArticle (l : Launch) (hl0 : l.stackTraces = false) (g : kG) (e0 : Nat) (w : Nat → Nat) (S : wPS) (sz : Nat) (hI : MI w S) (ai st re ro : Int32) : kM l g e0 yX6_addArticle cX6_addArticle 5 (some .int) 1 22 0 0 [.ref (w 0), .int ai, .int st, .int re, .int ro] S sz (pI (fun r T => pF T 106 (w 0) = pF S 106 (w 0) ∧ ((aOut ai st re ro ∧ pF T 100 (w 0) = 1 ∧ Mr w S T) ∨ (¬ aOut ai st re ro ∧ pF S 101 (w 0) = 6 ∧ pF T 100 (w 0) = 2 ∧ Mr w S T) ∨ (¬ aOut ai st re ro ∧ pF T 100 (w 0) = 0 ∧ ∃ n, n < 6 ∧ pF S 101 (w 0) = nI n ∧ r = nI n ∧ pF T 101 (w 0) = nI (n + 1) ∧ Mq w S T)))) (fun E => False) := by
  refine kM.of (by decide) (Nat.le_of_ble_eq_true rfl) ?_
  intro p e s m below meth c ls B hin
  obtain ⟨F, hr, hlk, hte, hP, hK, hD, hE, hS, hA, hl, hsz⟩ := B
  subst hsz
  have hx := F.1
  have hb := F.2.1
  have hl : lv_has ls 5 [(0, .ref (w 0)), (1, .int ai), (2, .int st), (3, .int re), (4, .int ro)] := hl
  obtain ⟨m9, hm9, hm8⟩ := hI.2.2.1.1
  refine lv_iload_n hx hb dX6_addArticle_0 rfl (lv_at hl 1 rfl) ?_
  refine lv_iconst (v := 0) hx hb dX6_addArticle_1 (by decide) ?_
  refine lv_iconst (v := 3) hx hb dX6_addArticle_2 (by decide) ?_
  refine kcallI (kSt (n := 3) (As := [.int ai, .int 0, .int 3]) (rest := []) F hE hK hP hD hS hA (c_X6_in l hl0 g e0 S _ ai 0 3) kw_180 kw_181 kw_5 kw_182 (by decide +kernel) ⟨Nat.le_of_ble_eq_true rfl, Nat.le_of_ble_eq_true rfl⟩ rfl hl.1 rfl (Nat.le_of_ble_eq_true rfl) dX6_addArticle_3 ⟨Nat.le_of_ble_eq_true rfl, Nat.le_of_ble_eq_true rfl⟩) rfl hD hS hA (fun _ _ _ _ _ h => False.elim h) (fun r1 T1 H locs hp hP hD hS => ?_)
  obtain ⟨hT, hp2⟩ := hp
  have hT := hT.symm
  subst hT
  refine lv_if_eq (tgt := 41) hx hb dX6_addArticle_6 (by decide) (fun c3 => ?_) (fun c3 => ?_)
  · refine lv_aload_n hx hb dX6_addArticle_41 rfl (lv_at hl 0 rfl) ?_
    refine lv_iconst (v := 1) hx hb dX6_addArticle_42 (by decide) ?_
    refine kcallI (kV (n := 1) (As := [.int 1]) (rest := []) (b := (w 0)) (C := RX6) F hE hK hP hD hS hA (c_X6_fails l hl0 g e0 S _ (w 0) 1 (hI.1.1 0 (by decide))) (rr_Model hK hP (hI.1.1 0 (by decide))) kw_183 kw_184 kw_185 kw_5 kw_186 (by decide +kernel) ⟨Nat.le_of_ble_eq_true rfl, Nat.le_of_ble_eq_true rfl⟩ rfl hl.1 rfl (Nat.le_of_ble_eq_true rfl) dX6_addArticle_43 ⟨Nat.le_of_ble_eq_true rfl, Nat.le_of_ble_eq_true rfl⟩) rfl hD hS hA (fun _ _ _ _ _ h => False.elim h) (fun r4 T4 H locs hp hP hD hS => ?_)
    obtain ⟨hT, hr5⟩ := hp
    subst hT
    have m5 : Mr w S (setF S 100 (w 0) 1) := (Mr.rf hI).thr
    subst hr5
    exact kEndI F hr rfl hlk hP hD hS (Nat.le_of_ble_eq_true rfl) (Nat.le_of_ble_eq_true rfl) dX6_addArticle_46 ⟨_, rfl, ⟨((uF_of (Or.inl (by decide))).trans rfl), Or.inl ⟨Or.inl ((show ai < 0 ∨ 3 < ai from by rcases hp2 with ⟨h, -, -⟩ | ⟨-, h⟩; exact absurd c3 (by rw [h]; decide); exact h).elim Or.inl (fun h => Or.inr (k34.mp h))), uF_at, m5⟩⟩⟩
  · have h_ai := (show _ ∧ _ from by rcases hp2 with ⟨-, h1, h2⟩ | ⟨h, -⟩; exact ⟨h1, h2⟩; exact absurd c3 (by rw [h]; decide))
    refine lv_iload hx hb dX6_addArticle_9 (lv_at hl 4 rfl) ?_
    refine lv_iconst (v := 1) hx hb dX6_addArticle_11 (by decide) ?_
    refine lv_bipush (v := 99) hx hb dX6_addArticle_12 (by decide) ?_
    refine kcallI (kSt (n := 3) (As := [.int ro, .int 1, .int 99]) (rest := []) F hE hK hP hD hS hA (c_X6_in l hl0 g e0 S _ ro 1 99) kw_180 kw_181 kw_5 kw_182 (by decide +kernel) ⟨Nat.le_of_ble_eq_true rfl, Nat.le_of_ble_eq_true rfl⟩ rfl hl.1 rfl (Nat.le_of_ble_eq_true rfl) dX6_addArticle_14 ⟨Nat.le_of_ble_eq_true rfl, Nat.le_of_ble_eq_true rfl⟩) rfl hD hS hA (fun _ _ _ _ _ h => False.elim h) (fun r6 T6 H locs hp hP hD hS => ?_)
    obtain ⟨hT, hp7⟩ := hp
    have hT := hT.symm
    subst hT
    refine lv_if_eq (tgt := 41) hx hb dX6_addArticle_17 (by decide) (fun c8 => ?_) (fun c8 => ?_)
    · refine lv_aload_n hx hb dX6_addArticle_41 rfl (lv_at hl 0 rfl) ?_
      refine lv_iconst (v := 1) hx hb dX6_addArticle_42 (by decide) ?_
      refine kcallI (kV (n := 1) (As := [.int 1]) (rest := []) (b := (w 0)) (C := RX6) F hE hK hP hD hS hA (c_X6_fails l hl0 g e0 S _ (w 0) 1 (hI.1.1 0 (by decide))) (rr_Model hK hP (hI.1.1 0 (by decide))) kw_183 kw_184 kw_185 kw_5 kw_186 (by decide +kernel) ⟨Nat.le_of_ble_eq_true rfl, Nat.le_of_ble_eq_true rfl⟩ rfl hl.1 rfl (Nat.le_of_ble_eq_true rfl) dX6_addArticle_43 ⟨Nat.le_of_ble_eq_true rfl, Nat.le_of_ble_eq_true rfl⟩) rfl hD hS hA (fun _ _ _ _ _ h => False.elim h) (fun r9 T9 H locs hp hP hD hS => ?_)
      obtain ⟨hT, hr10⟩ := hp
      subst hT
      have m10 : Mr w S (setF S 100 (w 0) 1) := (Mr.rf hI).thr
      subst hr10
      exact kEndI F hr rfl hlk hP hD hS (Nat.le_of_ble_eq_true rfl) (Nat.le_of_ble_eq_true rfl) dX6_addArticle_46 ⟨_, rfl, ⟨((uF_of (Or.inl (by decide))).trans rfl), Or.inl ⟨Or.inr (Or.inl (by rcases hp7 with ⟨h, -, -⟩ | ⟨-, h⟩; exact absurd c8 (by rw [h]; decide); exact h)), uF_at, m10⟩⟩⟩
    · have h_ro := (show _ ∧ _ from by rcases hp7 with ⟨-, h1, h2⟩ | ⟨h, -⟩; exact ⟨h1, h2⟩; exact absurd c8 (by rw [h]; decide))
      refine lv_iload_n hx hb dX6_addArticle_20 rfl (lv_at hl 2 rfl) ?_
      refine lv_iconst (v := 0) hx hb dX6_addArticle_21 (by decide) ?_
      refine lv_iload hx hb dX6_addArticle_22 (lv_at hl 4 rfl) ?_
      refine kcallI (kSt (n := 3) (As := [.int st, .int 0, .int ro]) (rest := []) F hE hK hP hD hS hA (c_X6_in l hl0 g e0 S _ st 0 ro) kw_180 kw_181 kw_5 kw_182 (by decide +kernel) ⟨Nat.le_of_ble_eq_true rfl, Nat.le_of_ble_eq_true rfl⟩ rfl hl.1 rfl (Nat.le_of_ble_eq_true rfl) dX6_addArticle_24 ⟨Nat.le_of_ble_eq_true rfl, Nat.le_of_ble_eq_true rfl⟩) rfl hD hS hA (fun _ _ _ _ _ h => False.elim h) (fun r11 T11 H locs hp hP hD hS => ?_)
      obtain ⟨hT, hp12⟩ := hp
      have hT := hT.symm
      subst hT
      refine lv_if_eq (tgt := 41) hx hb dX6_addArticle_27 (by decide) (fun c13 => ?_) (fun c13 => ?_)
      · refine lv_aload_n hx hb dX6_addArticle_41 rfl (lv_at hl 0 rfl) ?_
        refine lv_iconst (v := 1) hx hb dX6_addArticle_42 (by decide) ?_
        refine kcallI (kV (n := 1) (As := [.int 1]) (rest := []) (b := (w 0)) (C := RX6) F hE hK hP hD hS hA (c_X6_fails l hl0 g e0 S _ (w 0) 1 (hI.1.1 0 (by decide))) (rr_Model hK hP (hI.1.1 0 (by decide))) kw_183 kw_184 kw_185 kw_5 kw_186 (by decide +kernel) ⟨Nat.le_of_ble_eq_true rfl, Nat.le_of_ble_eq_true rfl⟩ rfl hl.1 rfl (Nat.le_of_ble_eq_true rfl) dX6_addArticle_43 ⟨Nat.le_of_ble_eq_true rfl, Nat.le_of_ble_eq_true rfl⟩) rfl hD hS hA (fun _ _ _ _ _ h => False.elim h) (fun r14 T14 H locs hp hP hD hS => ?_)
        obtain ⟨hT, hr15⟩ := hp
        subst hT
        have m15 : Mr w S (setF S 100 (w 0) 1) := (Mr.rf hI).thr
        subst hr15
        exact kEndI F hr rfl hlk hP hD hS (Nat.le_of_ble_eq_true rfl) (Nat.le_of_ble_eq_true rfl) dX6_addArticle_46 ⟨_, rfl, ⟨((uF_of (Or.inl (by decide))).trans rfl), Or.inl ⟨Or.inr (Or.inr (Or.inl (by rcases hp12 with ⟨h, -, -⟩ | ⟨-, h⟩; exact absurd c13 (by rw [h]; decide); exact h))), uF_at, m15⟩⟩⟩
      · have h_st := (show _ ∧ _ from by rcases hp12 with ⟨-, h1, h2⟩ | ⟨h, -⟩; exact ⟨h1, h2⟩; exact absurd c13 (by rw [h]; decide))
        refine lv_iload_n hx hb dX6_addArticle_30 rfl (lv_at hl 3 rfl) ?_
        refine lv_iconst (v := 0) hx hb dX6_addArticle_31 (by decide) ?_
        refine lv_sipush (v := 999) hx hb dX6_addArticle_32 (by decide) ?_
        refine kcallI (kSt (n := 3) (As := [.int re, .int 0, .int 999]) (rest := []) F hE hK hP hD hS hA (c_X6_in l hl0 g e0 S _ re 0 999) kw_180 kw_181 kw_5 kw_182 (by decide +kernel) ⟨Nat.le_of_ble_eq_true rfl, Nat.le_of_ble_eq_true rfl⟩ rfl hl.1 rfl (Nat.le_of_ble_eq_true rfl) dX6_addArticle_35 ⟨Nat.le_of_ble_eq_true rfl, Nat.le_of_ble_eq_true rfl⟩) rfl hD hS hA (fun _ _ _ _ _ h => False.elim h) (fun r16 T16 H locs hp hP hD hS => ?_)
        obtain ⟨hT, hp17⟩ := hp
        have hT := hT.symm
        subst hT
        refine lv_if_ne (tgt := 47) hx hb dX6_addArticle_38 (by decide) (fun c18 => ?_) (fun c18 => ?_)
        · have h_re := (show _ ∧ _ from by rcases hp17 with ⟨-, h1, h2⟩ | ⟨h, -⟩; exact ⟨h1, h2⟩; exact absurd c18 (by rw [h]; decide))
          have haO : ¬ aOut ai st re ro := aIn ⟨h_ai.1, fun h => h_ai.2 (k34.mpr h)⟩ h_ro h_st h_re
          refine lv_aload_n hx hb dX6_addArticle_47 rfl (lv_at hl 0 rfl) ?_
          refine rg_Model_articles F hK hP (hI.1.1 0 (by decide)) kw_178 dX6_addArticle_48 ?_
          refine lv_topi (fun x19 ex19 => ?_)
          refine lv_bipush (v := 6) hx hb dX6_addArticle_51 (by decide) ?_
          refine lv_icmp_ne (tgt := 62) hx hb dX6_addArticle_53 (by decide) (fun c20 => ?_) (fun c20 => ?_)
          · have hm6 : m9 < 6 := by rcases Nat.lt_or_ge m9 6 with q | q; exact q; exact absurd (by rw [ex19, hm8, show m9 = 6 by omega]; rfl) c20
            refine lv_aload_n hx hb dX6_addArticle_62 rfl (lv_at hl 0 rfl) ?_
            refine lv_iconst (v := 0) hx hb dX6_addArticle_63 (by decide) ?_
            obtain ⟨jj, hjj, hjn⟩ := kix (n := ai) (M := 4) (N := 4) rfl (by decide) h_ai.1 (fun h => h_ai.2 (k34.mpr h))
            refine rp_Model_thrown F hK hP hD hS (hI.1.1 0 (by decide)) kw_179 dX6_addArticle_64 (fun H locs hP hD hS => ?_)
            have m21 : Mr w S (setF S 100 (w 0) 0) := (Mr.rf hI).thr
            refine lv_aload_n hx hb dX6_addArticle_67 rfl (lv_at hl 0 rfl) ?_
            refine rs_Model_aisle (b := w 1) F hK hP (m21.1.1.1 0 (by decide)) ((m21.1.2.1 1 (by decide) (by decide)).1) kw_67 dX6_addArticle_68 ?_
            refine lv_aload_n hx hb dX6_addArticle_71 rfl (lv_at hl 0 rfl) ?_
            refine rg_Model_articles F hK hP (m21.1.1.1 0 (by decide)) kw_178 dX6_addArticle_72 ?_
            refine lv_topi (fun x22 ex22 => ?_)
            have hx22 : x22 = nI m9 := ex22.trans (show pF (setF S 100 (w 0) 0) 101 (w 0) = nI m9 from (uF_of (Or.inl (by decide))).trans hm8)
            refine lv_iload_n hx hb dX6_addArticle_75 rfl (lv_at hl 1 rfl) ?_
            refine rt_I F hK hP hD hS (m21.1.1.1 1 (by decide)) (by rw [show pN (setF S 100 (w 0) 0) (w 1) = 6 from (m21.1.2.1 1 (by decide) (by decide)).2, hx22]; exact vp_in_nI (by omega) (by decide)) dX6_addArticle_76 (fun H locs hP hD hS => ?_)
            refine lv_aload_n hx hb dX6_addArticle_77 rfl (lv_at hl 0 rfl) ?_
            refine rs_Model_stock (b := w 2) F hK hP (m21.1.1.1 0 (by decide)) ((m21.1.2.1 2 (by decide) (by decide)).1) kw_68 dX6_addArticle_78 ?_
            refine lv_aload_n hx hb dX6_addArticle_81 rfl (lv_at hl 0 rfl) ?_
            refine rg_Model_articles F hK hP (m21.1.1.1 0 (by decide)) kw_178 dX6_addArticle_82 ?_
            refine lv_topi (fun x23 ex23 => ?_)
            have hx23 : x23 = nI m9 := ex23.trans (show pF (setF S 100 (w 0) 0) 101 (w 0) = nI m9 from (uF_of (Or.inl (by decide))).trans hm8)
            refine lv_iload_n hx hb dX6_addArticle_85 rfl (lv_at hl 2 rfl) ?_
            refine rt_I F hK hP hD hS (m21.1.1.1 2 (by decide)) (by rw [show pN (setX (setF S 100 (w 0) 0) (w 1) (upd (pX (setF S 100 (w 0) 0) (w 1)) x22.toNatClampNeg ai)) (w 2) = 6 from (m21.1.2.1 2 (by decide) (by decide)).2, hx23]; exact vp_in_nI (by omega) (by decide)) dX6_addArticle_86 (fun H locs hP hD hS => ?_)
            refine lv_aload_n hx hb dX6_addArticle_87 rfl (lv_at hl 0 rfl) ?_
            refine rs_Model_reserve (b := w 3) F hK hP (m21.1.1.1 0 (by decide)) ((m21.1.2.1 3 (by decide) (by decide)).1) kw_69 dX6_addArticle_88 ?_
            refine lv_aload_n hx hb dX6_addArticle_91 rfl (lv_at hl 0 rfl) ?_
            refine rg_Model_articles F hK hP (m21.1.1.1 0 (by decide)) kw_178 dX6_addArticle_92 ?_
            refine lv_topi (fun x24 ex24 => ?_)
            have hx24 : x24 = nI m9 := ex24.trans (show pF (setF S 100 (w 0) 0) 101 (w 0) = nI m9 from (uF_of (Or.inl (by decide))).trans hm8)
            refine lv_iload_n hx hb dX6_addArticle_95 rfl (lv_at hl 3 rfl) ?_
            refine rt_I F hK hP hD hS (m21.1.1.1 3 (by decide)) (by rw [show pN (setX (setX (setF S 100 (w 0) 0) (w 1) (upd (pX (setF S 100 (w 0) 0) (w 1)) x22.toNatClampNeg ai)) (w 2) (upd (pX (setX (setF S 100 (w 0) 0) (w 1) (upd (pX (setF S 100 (w 0) 0) (w 1)) x22.toNatClampNeg ai)) (w 2)) x23.toNatClampNeg st)) (w 3) = 6 from (m21.1.2.1 3 (by decide) (by decide)).2, hx24]; exact vp_in_nI (by omega) (by decide)) dX6_addArticle_96 (fun H locs hP hD hS => ?_)
            refine lv_aload_n hx hb dX6_addArticle_97 rfl (lv_at hl 0 rfl) ?_
            refine rs_Model_room (b := w 4) F hK hP (m21.1.1.1 0 (by decide)) ((m21.1.2.1 4 (by decide) (by decide)).1) kw_70 dX6_addArticle_98 ?_
            refine lv_aload_n hx hb dX6_addArticle_101 rfl (lv_at hl 0 rfl) ?_
            refine rg_Model_articles F hK hP (m21.1.1.1 0 (by decide)) kw_178 dX6_addArticle_102 ?_
            refine lv_topi (fun x25 ex25 => ?_)
            have hx25 : x25 = nI m9 := ex25.trans (show pF (setF S 100 (w 0) 0) 101 (w 0) = nI m9 from (uF_of (Or.inl (by decide))).trans hm8)
            refine lv_iload hx hb dX6_addArticle_105 (lv_at hl 4 rfl) ?_
            refine rt_I F hK hP hD hS (m21.1.1.1 4 (by decide)) (by rw [show pN (setX (setX (setX (setF S 100 (w 0) 0) (w 1) (upd (pX (setF S 100 (w 0) 0) (w 1)) x22.toNatClampNeg ai)) (w 2) (upd (pX (setX (setF S 100 (w 0) 0) (w 1) (upd (pX (setF S 100 (w 0) 0) (w 1)) x22.toNatClampNeg ai)) (w 2)) x23.toNatClampNeg st)) (w 3) (upd (pX (setX (setX (setF S 100 (w 0) 0) (w 1) (upd (pX (setF S 100 (w 0) 0) (w 1)) x22.toNatClampNeg ai)) (w 2) (upd (pX (setX (setF S 100 (w 0) 0) (w 1) (upd (pX (setF S 100 (w 0) 0) (w 1)) x22.toNatClampNeg ai)) (w 2)) x23.toNatClampNeg st)) (w 3)) x24.toNatClampNeg re)) (w 4) = 6 from (m21.1.2.1 4 (by decide) (by decide)).2, hx25]; exact vp_in_nI (by omega) (by decide)) dX6_addArticle_107 (fun H locs hP hD hS => ?_)
            refine lv_aload_n hx hb dX6_addArticle_108 rfl (lv_at hl 0 rfl) ?_
            refine lv_dup hx hb dX6_addArticle_109 rfl ?_
            refine rg_Model_articles F hK hP (m21.1.1.1 0 (by decide)) kw_178 dX6_addArticle_110 ?_
            refine lv_topi (fun x26 ex26 => ?_)
            refine lv_iconst (v := 1) hx hb dX6_addArticle_113 (by decide) ?_
            refine lv_iadd hx hb dX6_addArticle_114 ?_
            refine lv_topi (fun x27 ex27 => ?_)
            refine rp_Model_articles F hK hP hD hS (m21.1.1.1 0 (by decide)) kw_178 dX6_addArticle_115 (fun H locs hP hD hS => ?_)
            refine lv_aload_n hx hb dX6_addArticle_118 rfl (lv_at hl 0 rfl) ?_
            refine rg_Model_articles F hK hP (m21.1.1.1 0 (by decide)) kw_178 dX6_addArticle_119 ?_
            refine lv_topi (fun x28 ex28 => ?_)
            refine lv_iconst (v := 1) hx hb dX6_addArticle_122 (by decide) ?_
            refine lv_isub hx hb dX6_addArticle_123 ?_
            refine lv_topi (fun x29 ex29 => ?_)
            have hv9 : x27 = nI (m9 + 1) := by rw [ex27, show x26 = nI m9 from ex26.trans (show pF (setF S 100 (w 0) 0) 101 (w 0) = nI m9 from (uF_of (Or.inl (by decide))).trans hm8)]; exact nI_1 m9
            have hq9 := Mk.a (N := setX (setX (setX (setX (setF S 100 (w 0) 0) (w 1) (upd (pX (setF S 100 (w 0) 0) (w 1)) x22.toNatClampNeg ai)) (w 2) (upd (pX (setX (setF S 100 (w 0) 0) (w 1) (upd (pX (setF S 100 (w 0) 0) (w 1)) x22.toNatClampNeg ai)) (w 2)) x23.toNatClampNeg st)) (w 3) (upd (pX (setX (setX (setF S 100 (w 0) 0) (w 1) (upd (pX (setF S 100 (w 0) 0) (w 1)) x22.toNatClampNeg ai)) (w 2) (upd (pX (setX (setF S 100 (w 0) 0) (w 1) (upd (pX (setF S 100 (w 0) 0) (w 1)) x22.toNatClampNeg ai)) (w 2)) x23.toNatClampNeg st)) (w 3)) x24.toNatClampNeg re)) (w 4) (upd (pX (setX (setX (setX (setF S 100 (w 0) 0) (w 1) (upd (pX (setF S 100 (w 0) 0) (w 1)) x22.toNatClampNeg ai)) (w 2) (upd (pX (setX (setF S 100 (w 0) 0) (w 1) (upd (pX (setF S 100 (w 0) 0) (w 1)) x22.toNatClampNeg ai)) (w 2)) x23.toNatClampNeg st)) (w 3) (upd (pX (setX (setX (setF S 100 (w 0) 0) (w 1) (upd (pX (setF S 100 (w 0) 0) (w 1)) x22.toNatClampNeg ai)) (w 2) (upd (pX (setX (setF S 100 (w 0) 0) (w 1) (upd (pX (setF S 100 (w 0) 0) (w 1)) x22.toNatClampNeg ai)) (w 2)) x23.toNatClampNeg st)) (w 3)) x24.toNatClampNeg re)) (w 4)) x25.toNatClampNeg ro)) (q := m9 + 1) (m21.trans (Mk.x (i := 4) (Mk.x (i := 3) (Mk.x (i := 2) (Mk.v (i := 1) (Mk.rf m21.1) (by decide) ⟨jj, hjj, hjn⟩) (by decide) (by decide) (by decide)) (by decide) (by decide) (by decide)) (by decide) (by decide) (by decide)).1) hv9 (by omega)
            exact kEndI F hr rfl hlk hP hD hS (Nat.le_of_ble_eq_true rfl) (Nat.le_of_ble_eq_true rfl) dX6_addArticle_124 ⟨_, rfl, ⟨(uF_of (Or.inl (by decide))).trans (show pF (setF S 100 (w 0) 0) 106 (w 0) = pF S 106 (w 0) from uF_of (Or.inl (by decide))), Or.inr (Or.inr ⟨haO, (uF_of (Or.inl (by decide))).trans (show pF (setF S 100 (w 0) 0) 100 (w 0) = 0 from uF_at), m9, hm6, hm8, by rw [ex29, show x28 = nI (m9 + 1) from ex28.trans (uF_at.trans hv9), ← nI_1]; exact Int32.add_sub_cancel _ _, uF_at.trans hv9, hq9⟩)⟩⟩
          · have h66 : pF S 101 (w 0) = 6 := by rw [← ex19]; exact c20
            refine lv_aload_n hx hb dX6_addArticle_56 rfl (lv_at hl 0 rfl) ?_
            refine lv_iconst (v := 2) hx hb dX6_addArticle_57 (by decide) ?_
            refine kcallI (kV (n := 1) (As := [.int 2]) (rest := []) (b := (w 0)) (C := RX6) F hE hK hP hD hS hA (c_X6_fails l hl0 g e0 S _ (w 0) 2 (hI.1.1 0 (by decide))) (rr_Model hK hP (hI.1.1 0 (by decide))) kw_183 kw_184 kw_185 kw_5 kw_186 (by decide +kernel) ⟨Nat.le_of_ble_eq_true rfl, Nat.le_of_ble_eq_true rfl⟩ rfl hl.1 rfl (Nat.le_of_ble_eq_true rfl) dX6_addArticle_58 ⟨Nat.le_of_ble_eq_true rfl, Nat.le_of_ble_eq_true rfl⟩) rfl hD hS hA (fun _ _ _ _ _ h => False.elim h) (fun r30 T30 H locs hp hP hD hS => ?_)
            obtain ⟨hT, hr31⟩ := hp
            subst hT
            have m31 : Mr w S (setF S 100 (w 0) 2) := (Mr.rf hI).thr
            subst hr31
            exact kEndI F hr rfl hlk hP hD hS (Nat.le_of_ble_eq_true rfl) (Nat.le_of_ble_eq_true rfl) dX6_addArticle_61 ⟨_, rfl, ⟨((uF_of (Or.inl (by decide))).trans rfl), Or.inr (Or.inl ⟨haO, h66, uF_at, m31⟩)⟩⟩
        · refine lv_aload_n hx hb dX6_addArticle_41 rfl (lv_at hl 0 rfl) ?_
          refine lv_iconst (v := 1) hx hb dX6_addArticle_42 (by decide) ?_
          refine kcallI (kV (n := 1) (As := [.int 1]) (rest := []) (b := (w 0)) (C := RX6) F hE hK hP hD hS hA (c_X6_fails l hl0 g e0 S _ (w 0) 1 (hI.1.1 0 (by decide))) (rr_Model hK hP (hI.1.1 0 (by decide))) kw_183 kw_184 kw_185 kw_5 kw_186 (by decide +kernel) ⟨Nat.le_of_ble_eq_true rfl, Nat.le_of_ble_eq_true rfl⟩ rfl hl.1 rfl (Nat.le_of_ble_eq_true rfl) dX6_addArticle_43 ⟨Nat.le_of_ble_eq_true rfl, Nat.le_of_ble_eq_true rfl⟩) rfl hD hS hA (fun _ _ _ _ _ h => False.elim h) (fun r32 T32 H locs hp hP hD hS => ?_)
          obtain ⟨hT, hr33⟩ := hp
          subst hT
          have m33 : Mr w S (setF S 100 (w 0) 1) := (Mr.rf hI).thr
          subst hr33
          exact kEndI F hr rfl hlk hP hD hS (Nat.le_of_ble_eq_true rfl) (Nat.le_of_ble_eq_true rfl) dX6_addArticle_46 ⟨_, rfl, ⟨((uF_of (Or.inl (by decide))).trans rfl), Or.inl ⟨Or.inr (Or.inr (Or.inr (by rcases hp17 with ⟨h, -, -⟩ | ⟨-, h⟩; exact absurd c18 (by rw [h]; decide); exact h))), uF_at, m33⟩⟩⟩
theorem dX6_giveBack_0 : decode cX6_giveBack 0 = .ok (.aload_n 0, 1) := by decide +kernel
theorem dX6_giveBack_1 : decode cX6_giveBack 1 = .ok (.iload_n 1, 1) := by decide +kernel
theorem dX6_giveBack_2 : decode cX6_giveBack 2 = .ok (.invokevirtual 90, 3) := by decide +kernel
theorem dX6_giveBack_5 : decode cX6_giveBack 5 = .ok (.ifCond .ne 5, 3) := by decide +kernel
theorem dX6_giveBack_8 : decode cX6_giveBack 8 = .ok (.iconst 0, 1) := by decide +kernel
theorem dX6_giveBack_9 : decode cX6_giveBack 9 = .ok (.ireturn, 1) := by decide +kernel
theorem dX6_giveBack_10 : decode cX6_giveBack 10 = .ok (.iload_n 2, 1) := by decide +kernel
theorem dX6_giveBack_11 : decode cX6_giveBack 11 = .ok (.iconst 0, 1) := by decide +kernel
theorem dX6_giveBack_12 : decode cX6_giveBack 12 = .ok (.bipush 20, 2) := by decide +kernel
theorem dX6_giveBack_14 : decode cX6_giveBack 14 = .ok (.invokestatic 69, 3) := by decide +kernel
theorem dX6_giveBack_17 : decode cX6_giveBack 17 = .ok (.ifCond .eq 19, 3) := by decide +kernel
theorem dX6_giveBack_20 : decode cX6_giveBack 20 = .ok (.iload_n 3, 1) := by decide +kernel
theorem dX6_giveBack_21 : decode cX6_giveBack 21 = .ok (.iconst 0, 1) := by decide +kernel
theorem dX6_giveBack_22 : decode cX6_giveBack 22 = .ok (.bipush 20, 2) := by decide +kernel
theorem dX6_giveBack_24 : decode cX6_giveBack 24 = .ok (.invokestatic 69, 3) := by decide +kernel
theorem dX6_giveBack_27 : decode cX6_giveBack 27 = .ok (.ifCond .eq 9, 3) := by decide +kernel
theorem dX6_giveBack_30 : decode cX6_giveBack 30 = .ok (.iload_n 2, 1) := by decide +kernel
theorem dX6_giveBack_31 : decode cX6_giveBack 31 = .ok (.iload_n 3, 1) := by decide +kernel
theorem dX6_giveBack_32 : decode cX6_giveBack 32 = .ok (.iadd, 1) := by decide +kernel
theorem dX6_giveBack_33 : decode cX6_giveBack 33 = .ok (.ifCond .ne 9, 3) := by decide +kernel
theorem dX6_giveBack_36 : decode cX6_giveBack 36 = .ok (.aload_n 0, 1) := by decide +kernel
theorem dX6_giveBack_37 : decode cX6_giveBack 37 = .ok (.iconst 2, 1) := by decide +kernel
theorem dX6_giveBack_38 : decode cX6_giveBack 38 = .ok (.invokevirtual 87, 3) := by decide +kernel
theorem dX6_giveBack_41 : decode cX6_giveBack 41 = .ok (.ireturn, 1) := by decide +kernel
theorem dX6_giveBack_42 : decode cX6_giveBack 42 = .ok (.aload_n 0, 1) := by decide +kernel
theorem dX6_giveBack_43 : decode cX6_giveBack 43 = .ok (.getfield 19, 3) := by decide +kernel
theorem dX6_giveBack_46 : decode cX6_giveBack 46 = .ok (.iload_n 1, 1) := by decide +kernel
theorem dX6_giveBack_47 : decode cX6_giveBack 47 = .ok (.iaload, 1) := by decide +kernel
theorem dX6_giveBack_48 : decode cX6_giveBack 48 = .ok (.aload_n 0, 1) := by decide +kernel
theorem dX6_giveBack_49 : decode cX6_giveBack 49 = .ok (.getfield 13, 3) := by decide +kernel
theorem dX6_giveBack_52 : decode cX6_giveBack 52 = .ok (.iload_n 1, 1) := by decide +kernel
theorem dX6_giveBack_53 : decode cX6_giveBack 53 = .ok (.iaload, 1) := by decide +kernel
theorem dX6_giveBack_54 : decode cX6_giveBack 54 = .ok (.isub, 1) := by decide +kernel
theorem dX6_giveBack_55 : decode cX6_giveBack 55 = .ok (.istore 4, 2) := by decide +kernel
theorem dX6_giveBack_57 : decode cX6_giveBack 57 = .ok (.iload_n 2, 1) := by decide +kernel
theorem dX6_giveBack_58 : decode cX6_giveBack 58 = .ok (.iload 4, 2) := by decide +kernel
theorem dX6_giveBack_60 : decode cX6_giveBack 60 = .ok (.if_icmp .le 26, 3) := by decide +kernel
theorem dX6_giveBack_63 : decode cX6_giveBack 63 = .ok (.aload_n 0, 1) := by decide +kernel
theorem dX6_giveBack_64 : decode cX6_giveBack 64 = .ok (.getfield 16, 3) := by decide +kernel
theorem dX6_giveBack_67 : decode cX6_giveBack 67 = .ok (.iload_n 1, 1) := by decide +kernel
theorem dX6_giveBack_68 : decode cX6_giveBack 68 = .ok (.iaload, 1) := by decide +kernel
theorem dX6_giveBack_69 : decode cX6_giveBack 69 = .ok (.iload_n 2, 1) := by decide +kernel
theorem dX6_giveBack_70 : decode cX6_giveBack 70 = .ok (.iadd, 1) := by decide +kernel
theorem dX6_giveBack_71 : decode cX6_giveBack 71 = .ok (.iload 4, 2) := by decide +kernel
theorem dX6_giveBack_73 : decode cX6_giveBack 73 = .ok (.isub, 1) := by decide +kernel
theorem dX6_giveBack_74 : decode cX6_giveBack 74 = .ok (.sipush 9999, 3) := by decide +kernel
theorem dX6_giveBack_77 : decode cX6_giveBack 77 = .ok (.if_icmp .le 9, 3) := by decide +kernel
theorem dX6_giveBack_80 : decode cX6_giveBack 80 = .ok (.aload_n 0, 1) := by decide +kernel
theorem dX6_giveBack_81 : decode cX6_giveBack 81 = .ok (.iconst 3, 1) := by decide +kernel
theorem dX6_giveBack_82 : decode cX6_giveBack 82 = .ok (.invokevirtual 87, 3) := by decide +kernel
theorem dX6_giveBack_85 : decode cX6_giveBack 85 = .ok (.ireturn, 1) := by decide +kernel
theorem dX6_giveBack_86 : decode cX6_giveBack 86 = .ok (.aload_n 0, 1) := by decide +kernel
theorem dX6_giveBack_87 : decode cX6_giveBack 87 = .ok (.dup, 1) := by decide +kernel
theorem dX6_giveBack_88 : decode cX6_giveBack 88 = .ok (.getfield 107, 3) := by decide +kernel
theorem dX6_giveBack_91 : decode cX6_giveBack 91 = .ok (.iload_n 3, 1) := by decide +kernel
theorem dX6_giveBack_92 : decode cX6_giveBack 92 = .ok (.iadd, 1) := by decide +kernel
theorem dX6_giveBack_93 : decode cX6_giveBack 93 = .ok (.putfield 107, 3) := by decide +kernel
theorem dX6_giveBack_96 : decode cX6_giveBack 96 = .ok (.aload_n 0, 1) := by decide +kernel
theorem dX6_giveBack_97 : decode cX6_giveBack 97 = .ok (.iload_n 1, 1) := by decide +kernel
theorem dX6_giveBack_98 : decode cX6_giveBack 98 = .ok (.iload_n 2, 1) := by decide +kernel
theorem dX6_giveBack_99 : decode cX6_giveBack 99 = .ok (.invokevirtual 110, 3) := by decide +kernel
theorem dX6_giveBack_102 : decode cX6_giveBack 102 = .ok (.ireturn, 1) := by decide +kernel
set_option maxHeartbeats 4000000 in
set_option maxRecDepth 100000 in
theorem c_X6_giveBack (l : Launch) (hl0 : l.stackTraces = false) (g : kG) (e0 : Nat) (w : Nat → Nat) (S : wPS) (sz : Nat) (hI : MI w S) (n go ba : Int32) : kM l g e0 yX6_giveBack cX6_giveBack 5 (some .int) 2 43 0 0 [.ref (w 0), .int n, .int go, .int ba] S sz (pI (fun r T => Mr w S T ∧ pF T 106 (w 0) = pF S 106 (w 0) ∧ (pF T 100 (w 0) = 1 ∨ (∃ m, m ≤ 6 ∧ pF S 101 (w 0) = nI m ∧ ∃ j, j < m ∧ n = nI j)))) (fun E => False) := by
  refine kM.of (by decide) (Nat.le_of_ble_eq_true rfl) ?_
  intro p e s m below meth c ls B hin
  obtain ⟨F, hr, hlk, hte, hP, hK, hD, hE, hS, hA, hl, hsz⟩ := B
  subst hsz
  have hx := F.1
  have hb := F.2.1
  have hl : lv_has ls 5 [(0, .ref (w 0)), (1, .int n), (2, .int go), (3, .int ba)] := hl
  refine lv_aload_n hx hb dX6_giveBack_0 rfl (lv_at hl 0 rfl) ?_
  refine lv_iload_n hx hb dX6_giveBack_1 rfl (lv_at hl 1 rfl) ?_
  refine kcallI (kV (n := 1) (As := [.int n]) (rest := []) (b := (w 0)) (C := RX6) F hE hK hP hD hS hA (c_X6_isArticle l hl0 g e0 w S _ hI n) (rr_Model hK hP (hI.1.1 0 (by decide))) kw_223 kw_224 kw_225 kw_5 kw_226 (by decide +kernel) ⟨Nat.le_of_ble_eq_true rfl, Nat.le_of_ble_eq_true rfl⟩ rfl hl.1 rfl (Nat.le_of_ble_eq_true rfl) dX6_giveBack_2 ⟨Nat.le_of_ble_eq_true rfl, Nat.le_of_ble_eq_true rfl⟩) rfl hD hS hA (fun _ _ _ _ _ h => False.elim h) (fun r1 T1 H locs hp hP hD hS => ?_)
  have hp := hp
  rcases hp with ⟨hr, hT, m2_, hm2, hmM2, j2, hj2, hn2⟩ | ⟨hr, hT, ho2⟩
  · subst hT
    subst hr
    have m2 : Mr w S (setF S 100 (w 0) 0) := (Mr.rf hI).thr
    refine lv_if_ne (tgt := 10) hx hb dX6_giveBack_5 (by decide) (fun c3 => ?_) (fun c3 => ?_)
    · refine lv_iload_n hx hb dX6_giveBack_10 rfl (lv_at hl 2 rfl) ?_
      refine lv_iconst (v := 0) hx hb dX6_giveBack_11 (by decide) ?_
      refine lv_bipush (v := 20) hx hb dX6_giveBack_12 (by decide) ?_
      refine kcallI (kSt (n := 3) (As := [.int go, .int 0, .int 20]) (rest := []) F hE hK hP hD hS hA (c_X6_in l hl0 g e0 (setF S 100 (w 0) 0) _ go 0 20) kw_180 kw_181 kw_5 kw_182 (by decide +kernel) ⟨Nat.le_of_ble_eq_true rfl, Nat.le_of_ble_eq_true rfl⟩ rfl hl.1 rfl (Nat.le_of_ble_eq_true rfl) dX6_giveBack_14 ⟨Nat.le_of_ble_eq_true rfl, Nat.le_of_ble_eq_true rfl⟩) rfl hD hS hA (fun _ _ _ _ _ h => False.elim h) (fun r4 T4 H locs hp hP hD hS => ?_)
      obtain ⟨hT, hp5⟩ := hp
      have hT := hT.symm
      subst hT
      refine lv_if_eq (tgt := 36) hx hb dX6_giveBack_17 (by decide) (fun c6 => ?_) (fun c6 => ?_)
      · refine lv_aload_n hx hb dX6_giveBack_36 rfl (lv_at hl 0 rfl) ?_
        refine lv_iconst (v := 2) hx hb dX6_giveBack_37 (by decide) ?_
        refine kcallI (kV (n := 1) (As := [.int 2]) (rest := []) (b := (w 0)) (C := RX6) F hE hK hP hD hS hA (c_X6_fails l hl0 g e0 (setF S 100 (w 0) 0) _ (w 0) 2 (m2.1.1.1 0 (by decide))) (rr_Model hK hP (m2.1.1.1 0 (by decide))) kw_183 kw_184 kw_185 kw_5 kw_186 (by decide +kernel) ⟨Nat.le_of_ble_eq_true rfl, Nat.le_of_ble_eq_true rfl⟩ rfl hl.1 rfl (Nat.le_of_ble_eq_true rfl) dX6_giveBack_38 ⟨Nat.le_of_ble_eq_true rfl, Nat.le_of_ble_eq_true rfl⟩) rfl hD hS hA (fun _ _ _ _ _ h => False.elim h) (fun r7 T7 H locs hp hP hD hS => ?_)
        obtain ⟨hT, hr8⟩ := hp
        subst hT
        have m8 : Mr w S (setF (setF S 100 (w 0) 0) 100 (w 0) 2) := m2.thr
        subst hr8
        exact kEndI F hr rfl hlk hP hD hS (Nat.le_of_ble_eq_true rfl) (Nat.le_of_ble_eq_true rfl) dX6_giveBack_41 ⟨_, rfl, ⟨m8, ((uF_of (Or.inl (by decide))).trans ((uF_of (Or.inl (by decide))).trans rfl)), Or.inr ⟨m2_, hm2, hmM2, j2, hj2, hn2⟩⟩⟩
      · refine lv_iload_n hx hb dX6_giveBack_20 rfl (lv_at hl 3 rfl) ?_
        refine lv_iconst (v := 0) hx hb dX6_giveBack_21 (by decide) ?_
        refine lv_bipush (v := 20) hx hb dX6_giveBack_22 (by decide) ?_
        refine kcallI (kSt (n := 3) (As := [.int ba, .int 0, .int 20]) (rest := []) F hE hK hP hD hS hA (c_X6_in l hl0 g e0 (setF S 100 (w 0) 0) _ ba 0 20) kw_180 kw_181 kw_5 kw_182 (by decide +kernel) ⟨Nat.le_of_ble_eq_true rfl, Nat.le_of_ble_eq_true rfl⟩ rfl hl.1 rfl (Nat.le_of_ble_eq_true rfl) dX6_giveBack_24 ⟨Nat.le_of_ble_eq_true rfl, Nat.le_of_ble_eq_true rfl⟩) rfl hD hS hA (fun _ _ _ _ _ h => False.elim h) (fun r9 T9 H locs hp hP hD hS => ?_)
        obtain ⟨hT, hp10⟩ := hp
        have hT := hT.symm
        subst hT
        refine lv_if_eq (tgt := 36) hx hb dX6_giveBack_27 (by decide) (fun c11 => ?_) (fun c11 => ?_)
        · refine lv_aload_n hx hb dX6_giveBack_36 rfl (lv_at hl 0 rfl) ?_
          refine lv_iconst (v := 2) hx hb dX6_giveBack_37 (by decide) ?_
          refine kcallI (kV (n := 1) (As := [.int 2]) (rest := []) (b := (w 0)) (C := RX6) F hE hK hP hD hS hA (c_X6_fails l hl0 g e0 (setF S 100 (w 0) 0) _ (w 0) 2 (m2.1.1.1 0 (by decide))) (rr_Model hK hP (m2.1.1.1 0 (by decide))) kw_183 kw_184 kw_185 kw_5 kw_186 (by decide +kernel) ⟨Nat.le_of_ble_eq_true rfl, Nat.le_of_ble_eq_true rfl⟩ rfl hl.1 rfl (Nat.le_of_ble_eq_true rfl) dX6_giveBack_38 ⟨Nat.le_of_ble_eq_true rfl, Nat.le_of_ble_eq_true rfl⟩) rfl hD hS hA (fun _ _ _ _ _ h => False.elim h) (fun r12 T12 H locs hp hP hD hS => ?_)
          obtain ⟨hT, hr13⟩ := hp
          subst hT
          have m13 : Mr w S (setF (setF S 100 (w 0) 0) 100 (w 0) 2) := m2.thr
          subst hr13
          exact kEndI F hr rfl hlk hP hD hS (Nat.le_of_ble_eq_true rfl) (Nat.le_of_ble_eq_true rfl) dX6_giveBack_41 ⟨_, rfl, ⟨m13, ((uF_of (Or.inl (by decide))).trans ((uF_of (Or.inl (by decide))).trans rfl)), Or.inr ⟨m2_, hm2, hmM2, j2, hj2, hn2⟩⟩⟩
        · refine lv_iload_n hx hb dX6_giveBack_30 rfl (lv_at hl 2 rfl) ?_
          refine lv_iload_n hx hb dX6_giveBack_31 rfl (lv_at hl 3 rfl) ?_
          refine lv_iadd hx hb dX6_giveBack_32 ?_
          refine lv_topi (fun x14 ex14 => ?_)
          refine lv_if_ne (tgt := 42) hx hb dX6_giveBack_33 (by decide) (fun c15 => ?_) (fun c15 => ?_)
          · refine lv_aload_n hx hb dX6_giveBack_42 rfl (lv_at hl 0 rfl) ?_
            refine rs_Model_room (b := w 4) F hK hP (m2.1.1.1 0 (by decide)) ((m2.1.2.1 4 (by decide) (by decide)).1) kw_70 dX6_giveBack_43 ?_
            refine lv_iload_n hx hb dX6_giveBack_46 rfl (lv_at hl 1 rfl) ?_
            refine rd_I F hK hP (m2.1.1.1 4 (by decide)) (by rw [show pN (setF S 100 (w 0) 0) (w 4) = 6 from (m2.1.2.1 4 (by decide) (by decide)).2, hn2]; exact vp_in_nI (by omega) (by decide)) dX6_giveBack_47 ?_
            refine lv_topi (fun x16 ex16 => ?_)
            refine lv_aload_n hx hb dX6_giveBack_48 rfl (lv_at hl 0 rfl) ?_
            refine rs_Model_stock (b := w 2) F hK hP (m2.1.1.1 0 (by decide)) ((m2.1.2.1 2 (by decide) (by decide)).1) kw_68 dX6_giveBack_49 ?_
            refine lv_iload_n hx hb dX6_giveBack_52 rfl (lv_at hl 1 rfl) ?_
            refine rd_I F hK hP (m2.1.1.1 2 (by decide)) (by rw [show pN (setF S 100 (w 0) 0) (w 2) = 6 from (m2.1.2.1 2 (by decide) (by decide)).2, hn2]; exact vp_in_nI (by omega) (by decide)) dX6_giveBack_53 ?_
            refine lv_topi (fun x17 ex17 => ?_)
            refine lv_isub hx hb dX6_giveBack_54 ?_
            refine lv_topi (fun x18 ex18 => ?_)
            refine lv_istore (lv' := [(4, .int x18), (0, .ref (w 0)), (1, .int n), (2, .int go), (3, .int ba)]) hx hb dX6_giveBack_55 hl (by decide) rfl (fun ls hl => ?_)
            refine lv_iload_n hx hb dX6_giveBack_57 rfl (lv_at hl 3 rfl) ?_
            refine lv_iload hx hb dX6_giveBack_58 (lv_at hl 0 rfl) ?_
            refine lv_icmp_le (tgt := 86) hx hb dX6_giveBack_60 (by decide) (fun c19 => ?_) (fun c19 => ?_)
            · refine lv_aload_n hx hb dX6_giveBack_86 rfl (lv_at hl 1 rfl) ?_
              refine lv_dup hx hb dX6_giveBack_87 rfl ?_
              refine rg_Model_bad F hK hP (m2.1.1.1 0 (by decide)) kw_383 dX6_giveBack_88 ?_
              refine lv_topi (fun x20 ex20 => ?_)
              refine lv_iload_n hx hb dX6_giveBack_91 rfl (lv_at hl 4 rfl) ?_
              refine lv_iadd hx hb dX6_giveBack_92 ?_
              refine lv_topi (fun x21 ex21 => ?_)
              refine rp_Model_bad F hK hP hD hS (m2.1.1.1 0 (by decide)) kw_383 dX6_giveBack_93 (fun H locs hP hD hS => ?_)
              refine lv_aload_n hx hb dX6_giveBack_96 rfl (lv_at hl 1 rfl) ?_
              refine lv_iload_n hx hb dX6_giveBack_97 rfl (lv_at hl 2 rfl) ?_
              refine lv_iload_n hx hb dX6_giveBack_98 rfl (lv_at hl 3 rfl) ?_
              refine kcallI (kV (n := 2) (As := [.int n, .int go]) (rest := []) (b := (w 0)) (C := RX6) F hE hK hP hD hS hA (c_X6_shelves l hl0 g e0 w (setF (setF S 100 (w 0) 0) 105 (w 0) x21) _ ((Mk.f (Mk.rf m2.1) (by decide) (by decide)).1.1) n go j2 (by omega) hn2) (rr_Model hK hP (m2.1.1.1 0 (by decide))) kw_384 kw_385 kw_386 kw_5 kw_387 (by decide +kernel) ⟨Nat.le_of_ble_eq_true rfl, Nat.le_of_ble_eq_true rfl⟩ rfl hl.1 rfl (Nat.le_of_ble_eq_true rfl) dX6_giveBack_99 ⟨Nat.le_of_ble_eq_true rfl, Nat.le_of_ble_eq_true rfl⟩) rfl hD hS hA (fun _ _ _ _ _ h => False.elim h) (fun r22 T22 H locs hp hP hD hS => ?_)
              exact kEndI F hr rfl hlk hP hD hS (Nat.le_of_ble_eq_true rfl) (Nat.le_of_ble_eq_true rfl) dX6_giveBack_102 ⟨_, rfl, ⟨(m2.trans (Mk.f (Mk.rf m2.1) (by decide) (by decide)).1).trans hp.1.1, hp.2.trans ((uF_of (Or.inl (by decide))).trans (show pF (setF S 100 (w 0) 0) 106 (w 0) = pF S 106 (w 0) from ((uF_of (Or.inl (by decide))).trans rfl))), Or.inr ⟨m2_, hm2, hmM2, j2, hj2, hn2⟩⟩⟩
            · refine lv_aload_n hx hb dX6_giveBack_63 rfl (lv_at hl 1 rfl) ?_
              refine rs_Model_reserve (b := w 3) F hK hP (m2.1.1.1 0 (by decide)) ((m2.1.2.1 3 (by decide) (by decide)).1) kw_69 dX6_giveBack_64 ?_
              refine lv_iload_n hx hb dX6_giveBack_67 rfl (lv_at hl 2 rfl) ?_
              refine rd_I F hK hP (m2.1.1.1 3 (by decide)) (by rw [show pN (setF S 100 (w 0) 0) (w 3) = 6 from (m2.1.2.1 3 (by decide) (by decide)).2, hn2]; exact vp_in_nI (by omega) (by decide)) dX6_giveBack_68 ?_
              refine lv_topi (fun x23 ex23 => ?_)
              refine lv_iload_n hx hb dX6_giveBack_69 rfl (lv_at hl 3 rfl) ?_
              refine lv_iadd hx hb dX6_giveBack_70 ?_
              refine lv_topi (fun x24 ex24 => ?_)
              refine lv_iload hx hb dX6_giveBack_71 (lv_at hl 0 rfl) ?_
              refine lv_isub hx hb dX6_giveBack_73 ?_
              refine lv_topi (fun x25 ex25 => ?_)
              refine lv_sipush (v := 9999) hx hb dX6_giveBack_74 (by decide) ?_
              refine lv_icmp_le (tgt := 86) hx hb dX6_giveBack_77 (by decide) (fun c26 => ?_) (fun c26 => ?_)
              · refine lv_aload_n hx hb dX6_giveBack_86 rfl (lv_at hl 1 rfl) ?_
                refine lv_dup hx hb dX6_giveBack_87 rfl ?_
                refine rg_Model_bad F hK hP (m2.1.1.1 0 (by decide)) kw_383 dX6_giveBack_88 ?_
                refine lv_topi (fun x27 ex27 => ?_)
                refine lv_iload_n hx hb dX6_giveBack_91 rfl (lv_at hl 4 rfl) ?_
                refine lv_iadd hx hb dX6_giveBack_92 ?_
                refine lv_topi (fun x28 ex28 => ?_)
                refine rp_Model_bad F hK hP hD hS (m2.1.1.1 0 (by decide)) kw_383 dX6_giveBack_93 (fun H locs hP hD hS => ?_)
                refine lv_aload_n hx hb dX6_giveBack_96 rfl (lv_at hl 1 rfl) ?_
                refine lv_iload_n hx hb dX6_giveBack_97 rfl (lv_at hl 2 rfl) ?_
                refine lv_iload_n hx hb dX6_giveBack_98 rfl (lv_at hl 3 rfl) ?_
                refine kcallI (kV (n := 2) (As := [.int n, .int go]) (rest := []) (b := (w 0)) (C := RX6) F hE hK hP hD hS hA (c_X6_shelves l hl0 g e0 w (setF (setF S 100 (w 0) 0) 105 (w 0) x28) _ ((Mk.f (Mk.rf m2.1) (by decide) (by decide)).1.1) n go j2 (by omega) hn2) (rr_Model hK hP (m2.1.1.1 0 (by decide))) kw_384 kw_385 kw_386 kw_5 kw_387 (by decide +kernel) ⟨Nat.le_of_ble_eq_true rfl, Nat.le_of_ble_eq_true rfl⟩ rfl hl.1 rfl (Nat.le_of_ble_eq_true rfl) dX6_giveBack_99 ⟨Nat.le_of_ble_eq_true rfl, Nat.le_of_ble_eq_true rfl⟩) rfl hD hS hA (fun _ _ _ _ _ h => False.elim h) (fun r29 T29 H locs hp hP hD hS => ?_)
                exact kEndI F hr rfl hlk hP hD hS (Nat.le_of_ble_eq_true rfl) (Nat.le_of_ble_eq_true rfl) dX6_giveBack_102 ⟨_, rfl, ⟨(m2.trans (Mk.f (Mk.rf m2.1) (by decide) (by decide)).1).trans hp.1.1, hp.2.trans ((uF_of (Or.inl (by decide))).trans (show pF (setF S 100 (w 0) 0) 106 (w 0) = pF S 106 (w 0) from ((uF_of (Or.inl (by decide))).trans rfl))), Or.inr ⟨m2_, hm2, hmM2, j2, hj2, hn2⟩⟩⟩
              · refine lv_aload_n hx hb dX6_giveBack_80 rfl (lv_at hl 1 rfl) ?_
                refine lv_iconst (v := 3) hx hb dX6_giveBack_81 (by decide) ?_
                refine kcallI (kV (n := 1) (As := [.int 3]) (rest := []) (b := (w 0)) (C := RX6) F hE hK hP hD hS hA (c_X6_fails l hl0 g e0 (setF S 100 (w 0) 0) _ (w 0) 3 (m2.1.1.1 0 (by decide))) (rr_Model hK hP (m2.1.1.1 0 (by decide))) kw_183 kw_184 kw_185 kw_5 kw_186 (by decide +kernel) ⟨Nat.le_of_ble_eq_true rfl, Nat.le_of_ble_eq_true rfl⟩ rfl hl.1 rfl (Nat.le_of_ble_eq_true rfl) dX6_giveBack_82 ⟨Nat.le_of_ble_eq_true rfl, Nat.le_of_ble_eq_true rfl⟩) rfl hD hS hA (fun _ _ _ _ _ h => False.elim h) (fun r30 T30 H locs hp hP hD hS => ?_)
                obtain ⟨hT, hr31⟩ := hp
                subst hT
                have m31 : Mr w S (setF (setF S 100 (w 0) 0) 100 (w 0) 3) := m2.thr
                subst hr31
                exact kEndI F hr rfl hlk hP hD hS (Nat.le_of_ble_eq_true rfl) (Nat.le_of_ble_eq_true rfl) dX6_giveBack_85 ⟨_, rfl, ⟨m31, ((uF_of (Or.inl (by decide))).trans ((uF_of (Or.inl (by decide))).trans rfl)), Or.inr ⟨m2_, hm2, hmM2, j2, hj2, hn2⟩⟩⟩
          · refine lv_aload_n hx hb dX6_giveBack_36 rfl (lv_at hl 0 rfl) ?_
            refine lv_iconst (v := 2) hx hb dX6_giveBack_37 (by decide) ?_
            refine kcallI (kV (n := 1) (As := [.int 2]) (rest := []) (b := (w 0)) (C := RX6) F hE hK hP hD hS hA (c_X6_fails l hl0 g e0 (setF S 100 (w 0) 0) _ (w 0) 2 (m2.1.1.1 0 (by decide))) (rr_Model hK hP (m2.1.1.1 0 (by decide))) kw_183 kw_184 kw_185 kw_5 kw_186 (by decide +kernel) ⟨Nat.le_of_ble_eq_true rfl, Nat.le_of_ble_eq_true rfl⟩ rfl hl.1 rfl (Nat.le_of_ble_eq_true rfl) dX6_giveBack_38 ⟨Nat.le_of_ble_eq_true rfl, Nat.le_of_ble_eq_true rfl⟩) rfl hD hS hA (fun _ _ _ _ _ h => False.elim h) (fun r32 T32 H locs hp hP hD hS => ?_)
            obtain ⟨hT, hr33⟩ := hp
            subst hT
            have m33 : Mr w S (setF (setF S 100 (w 0) 0) 100 (w 0) 2) := m2.thr
            subst hr33
            exact kEndI F hr rfl hlk hP hD hS (Nat.le_of_ble_eq_true rfl) (Nat.le_of_ble_eq_true rfl) dX6_giveBack_41 ⟨_, rfl, ⟨m33, ((uF_of (Or.inl (by decide))).trans ((uF_of (Or.inl (by decide))).trans rfl)), Or.inr ⟨m2_, hm2, hmM2, j2, hj2, hn2⟩⟩⟩
    · exact absurd c3 (by decide)
  · subst hT
    subst hr
    have m2 : Mr w S (setF S 100 (w 0) 1) := (Mr.rf hI).thr
    refine lv_if_ne (tgt := 10) hx hb dX6_giveBack_5 (by decide) (fun c34 => ?_) (fun c34 => ?_)
    · exact absurd c34 (by decide)
    · refine lv_iconst (v := 0) hx hb dX6_giveBack_8 (by decide) ?_
      exact kEndI F hr rfl hlk hP hD hS (Nat.le_of_ble_eq_true rfl) (Nat.le_of_ble_eq_true rfl) dX6_giveBack_9 ⟨_, rfl, ⟨m2, ((uF_of (Or.inl (by decide))).trans rfl), Or.inl uF_at⟩⟩
theorem dX6_order_0 : decode cX6_order 0 = .ok (.aload_n 0, 1) := by decide +kernel
theorem dX6_order_1 : decode cX6_order 1 = .ok (.iload_n 1, 1) := by decide +kernel
theorem dX6_order_2 : decode cX6_order 2 = .ok (.invokevirtual 90, 3) := by decide +kernel
theorem dX6_order_5 : decode cX6_order 5 = .ok (.ifCond .ne 5, 3) := by decide +kernel
theorem dX6_order_8 : decode cX6_order 8 = .ok (.iconst 0, 1) := by decide +kernel
theorem dX6_order_9 : decode cX6_order 9 = .ok (.ireturn, 1) := by decide +kernel
theorem dX6_order_10 : decode cX6_order 10 = .ok (.iload_n 2, 1) := by decide +kernel
theorem dX6_order_11 : decode cX6_order 11 = .ok (.iconst 1, 1) := by decide +kernel
theorem dX6_order_12 : decode cX6_order 12 = .ok (.bipush 20, 2) := by decide +kernel
theorem dX6_order_14 : decode cX6_order 14 = .ok (.invokestatic 69, 3) := by decide +kernel
theorem dX6_order_17 : decode cX6_order 17 = .ok (.ifCond .eq 12, 3) := by decide +kernel
theorem dX6_order_20 : decode cX6_order 20 = .ok (.iload_n 3, 1) := by decide +kernel
theorem dX6_order_21 : decode cX6_order 21 = .ok (.iconst 0, 1) := by decide +kernel
theorem dX6_order_22 : decode cX6_order 22 = .ok (.iconst 2, 1) := by decide +kernel
theorem dX6_order_23 : decode cX6_order 23 = .ok (.invokestatic 69, 3) := by decide +kernel
theorem dX6_order_26 : decode cX6_order 26 = .ok (.ifCond .ne 9, 3) := by decide +kernel
theorem dX6_order_29 : decode cX6_order 29 = .ok (.aload_n 0, 1) := by decide +kernel
theorem dX6_order_30 : decode cX6_order 30 = .ok (.iconst 2, 1) := by decide +kernel
theorem dX6_order_31 : decode cX6_order 31 = .ok (.invokevirtual 87, 3) := by decide +kernel
theorem dX6_order_34 : decode cX6_order 34 = .ok (.ireturn, 1) := by decide +kernel
theorem dX6_order_35 : decode cX6_order 35 = .ok (.aload_n 0, 1) := by decide +kernel
theorem dX6_order_36 : decode cX6_order 36 = .ok (.getfield 73, 3) := by decide +kernel
theorem dX6_order_39 : decode cX6_order 39 = .ok (.bipush 12, 2) := by decide +kernel
theorem dX6_order_41 : decode cX6_order 41 = .ok (.if_icmp .ne 11, 3) := by decide +kernel
theorem dX6_order_44 : decode cX6_order 44 = .ok (.aload_n 0, 1) := by decide +kernel
theorem dX6_order_45 : decode cX6_order 45 = .ok (.iconst 3, 1) := by decide +kernel
theorem dX6_order_46 : decode cX6_order 46 = .ok (.invokevirtual 87, 3) := by decide +kernel
theorem dX6_order_49 : decode cX6_order 49 = .ok (.goto 10, 3) := by decide +kernel
theorem dX6_order_52 : decode cX6_order 52 = .ok (.aload_n 0, 1) := by decide +kernel
theorem dX6_order_53 : decode cX6_order 53 = .ok (.iload_n 1, 1) := by decide +kernel
theorem dX6_order_54 : decode cX6_order 54 = .ok (.iload_n 2, 1) := by decide +kernel
theorem dX6_order_55 : decode cX6_order 55 = .ok (.iload_n 3, 1) := by decide +kernel
theorem dX6_order_56 : decode cX6_order 56 = .ok (.invokevirtual 114, 3) := by decide +kernel
theorem dX6_order_59 : decode cX6_order 59 = .ok (.ireturn, 1) := by decide +kernel
set_option maxHeartbeats 4000000 in
set_option maxRecDepth 100000 in
theorem c_X6_order (l : Launch) (hl0 : l.stackTraces = false) (g : kG) (e0 : Nat) (w : Nat → Nat) (S : wPS) (sz : Nat) (hI : MI w S) (n am bw : Int32) (cn : Nat) (hc : pF S 106 (w 0) = nI cn) (hc7 : cn + 13 ≤ 7000) : kM l g e0 yX6_order cX6_order 4 (some .int) 2 45 0 0 [.ref (w 0), .int n, .int am, .int bw] S sz (pI (fun r T => Mr w S T ∧ (∃ c9, c9 ≤ cn + 13 ∧ pF T 106 (w 0) = nI c9) ∧ (pF T 100 (w 0) = 1 ∨ (∃ m, m ≤ 6 ∧ pF S 101 (w 0) = nI m ∧ ∃ j, j < m ∧ n = nI j)))) (fun E => False) := by
  refine kM.of (by decide) (Nat.le_of_ble_eq_true rfl) ?_
  intro p e s m below meth c ls B hin
  obtain ⟨F, hr, hlk, hte, hP, hK, hD, hE, hS, hA, hl, hsz⟩ := B
  subst hsz
  have hx := F.1
  have hb := F.2.1
  have hl : lv_has ls 4 [(0, .ref (w 0)), (1, .int n), (2, .int am), (3, .int bw)] := hl
  obtain ⟨m9, hm9, hm8⟩ := hI.2.2.1.2
  refine lv_aload_n hx hb dX6_order_0 rfl (lv_at hl 0 rfl) ?_
  refine lv_iload_n hx hb dX6_order_1 rfl (lv_at hl 1 rfl) ?_
  refine kcallI (kV (n := 1) (As := [.int n]) (rest := []) (b := (w 0)) (C := RX6) F hE hK hP hD hS hA (c_X6_isArticle l hl0 g e0 w S _ hI n) (rr_Model hK hP (hI.1.1 0 (by decide))) kw_223 kw_224 kw_225 kw_5 kw_226 (by decide +kernel) ⟨Nat.le_of_ble_eq_true rfl, Nat.le_of_ble_eq_true rfl⟩ rfl hl.1 rfl (Nat.le_of_ble_eq_true rfl) dX6_order_2 ⟨Nat.le_of_ble_eq_true rfl, Nat.le_of_ble_eq_true rfl⟩) rfl hD hS hA (fun _ _ _ _ _ h => False.elim h) (fun r1 T1 H locs hp hP hD hS => ?_)
  have hp := hp
  rcases hp with ⟨hr, hT, m2_, hm2, hmM2, j2, hj2, hn2⟩ | ⟨hr, hT, ho2⟩
  · subst hT
    subst hr
    have m2 : Mr w S (setF S 100 (w 0) 0) := (Mr.rf hI).thr
    refine lv_if_ne (tgt := 10) hx hb dX6_order_5 (by decide) (fun c3 => ?_) (fun c3 => ?_)
    · refine lv_iload_n hx hb dX6_order_10 rfl (lv_at hl 2 rfl) ?_
      refine lv_iconst (v := 1) hx hb dX6_order_11 (by decide) ?_
      refine lv_bipush (v := 20) hx hb dX6_order_12 (by decide) ?_
      refine kcallI (kSt (n := 3) (As := [.int am, .int 1, .int 20]) (rest := []) F hE hK hP hD hS hA (c_X6_in l hl0 g e0 (setF S 100 (w 0) 0) _ am 1 20) kw_180 kw_181 kw_5 kw_182 (by decide +kernel) ⟨Nat.le_of_ble_eq_true rfl, Nat.le_of_ble_eq_true rfl⟩ rfl hl.1 rfl (Nat.le_of_ble_eq_true rfl) dX6_order_14 ⟨Nat.le_of_ble_eq_true rfl, Nat.le_of_ble_eq_true rfl⟩) rfl hD hS hA (fun _ _ _ _ _ h => False.elim h) (fun r4 T4 H locs hp hP hD hS => ?_)
      obtain ⟨hT, hp5⟩ := hp
      have hT := hT.symm
      subst hT
      refine lv_if_eq (tgt := 29) hx hb dX6_order_17 (by decide) (fun c6 => ?_) (fun c6 => ?_)
      · refine lv_aload_n hx hb dX6_order_29 rfl (lv_at hl 0 rfl) ?_
        refine lv_iconst (v := 2) hx hb dX6_order_30 (by decide) ?_
        refine kcallI (kV (n := 1) (As := [.int 2]) (rest := []) (b := (w 0)) (C := RX6) F hE hK hP hD hS hA (c_X6_fails l hl0 g e0 (setF S 100 (w 0) 0) _ (w 0) 2 (m2.1.1.1 0 (by decide))) (rr_Model hK hP (m2.1.1.1 0 (by decide))) kw_183 kw_184 kw_185 kw_5 kw_186 (by decide +kernel) ⟨Nat.le_of_ble_eq_true rfl, Nat.le_of_ble_eq_true rfl⟩ rfl hl.1 rfl (Nat.le_of_ble_eq_true rfl) dX6_order_31 ⟨Nat.le_of_ble_eq_true rfl, Nat.le_of_ble_eq_true rfl⟩) rfl hD hS hA (fun _ _ _ _ _ h => False.elim h) (fun r7 T7 H locs hp hP hD hS => ?_)
        obtain ⟨hT, hr8⟩ := hp
        subst hT
        have m8 : Mr w S (setF (setF S 100 (w 0) 0) 100 (w 0) 2) := m2.thr
        subst hr8
        exact kEndI F hr rfl hlk hP hD hS (Nat.le_of_ble_eq_true rfl) (Nat.le_of_ble_eq_true rfl) dX6_order_34 ⟨_, rfl, ⟨m8, ⟨cn, by omega, (show pF (setF (setF S 100 (w 0) 0) 100 (w 0) 2) 106 (w 0) = nI cn from ((uF_of (Or.inl (by decide))).trans ((uF_of (Or.inl (by decide))).trans rfl)).trans hc)⟩, Or.inr ⟨m2_, hm2, hmM2, j2, hj2, hn2⟩⟩⟩
      · refine lv_iload_n hx hb dX6_order_20 rfl (lv_at hl 3 rfl) ?_
        refine lv_iconst (v := 0) hx hb dX6_order_21 (by decide) ?_
        refine lv_iconst (v := 2) hx hb dX6_order_22 (by decide) ?_
        refine kcallI (kSt (n := 3) (As := [.int bw, .int 0, .int 2]) (rest := []) F hE hK hP hD hS hA (c_X6_in l hl0 g e0 (setF S 100 (w 0) 0) _ bw 0 2) kw_180 kw_181 kw_5 kw_182 (by decide +kernel) ⟨Nat.le_of_ble_eq_true rfl, Nat.le_of_ble_eq_true rfl⟩ rfl hl.1 rfl (Nat.le_of_ble_eq_true rfl) dX6_order_23 ⟨Nat.le_of_ble_eq_true rfl, Nat.le_of_ble_eq_true rfl⟩) rfl hD hS hA (fun _ _ _ _ _ h => False.elim h) (fun r9 T9 H locs hp hP hD hS => ?_)
        obtain ⟨hT, hp10⟩ := hp
        have hT := hT.symm
        subst hT
        refine lv_if_ne (tgt := 35) hx hb dX6_order_26 (by decide) (fun c11 => ?_) (fun c11 => ?_)
        · refine lv_aload_n hx hb dX6_order_35 rfl (lv_at hl 0 rfl) ?_
          refine rg_Model_orders F hK hP (m2.1.1.1 0 (by decide)) kw_263 dX6_order_36 ?_
          refine lv_topi (fun x12 ex12 => ?_)
          refine lv_bipush (v := 12) hx hb dX6_order_39 (by decide) ?_
          refine lv_icmp_ne (tgt := 52) hx hb dX6_order_41 (by decide) (fun c13 => ?_) (fun c13 => ?_)
          · have hx9 : x12 = nI m9 := ex12.trans ((uF_of (Or.inl (by decide))).trans hm8)
            have hm12 : m9 < 12 := by rcases Nat.lt_or_ge m9 12 with q | q; exact q; exact absurd (by rw [hx9, show m9 = 12 by omega]; rfl) c13
            refine lv_aload_n hx hb dX6_order_52 rfl (lv_at hl 0 rfl) ?_
            refine lv_iload_n hx hb dX6_order_53 rfl (lv_at hl 1 rfl) ?_
            refine lv_iload_n hx hb dX6_order_54 rfl (lv_at hl 2 rfl) ?_
            refine lv_iload_n hx hb dX6_order_55 rfl (lv_at hl 3 rfl) ?_
            refine kcallI (kV (n := 3) (As := [.int n, .int am, .int bw]) (rest := []) (b := (w 0)) (C := RX6) F hE hK hP hD hS hA (c_X6_adds l hl0 g e0 w (setF S 100 (w 0) 0) _ m2.1 n am bw j2 (by omega) hn2 m9 (show pF (setF S 100 (w 0) 0) 102 (w 0) = nI m9 from (uF_of (Or.inl (by decide))).trans hm8) hm12 cn (show pF (setF S 100 (w 0) 0) 106 (w 0) = nI cn from ((uF_of (Or.inl (by decide))).trans rfl).trans hc) (by omega)) (rr_Model hK hP (m2.1.1.1 0 (by decide))) kw_428 kw_429 kw_430 kw_5 kw_431 (by decide +kernel) ⟨Nat.le_of_ble_eq_true rfl, Nat.le_of_ble_eq_true rfl⟩ rfl hl.1 rfl (Nat.le_of_ble_eq_true rfl) dX6_order_56 ⟨Nat.le_of_ble_eq_true rfl, Nat.le_of_ble_eq_true rfl⟩) rfl hD hS hA (fun _ _ _ _ _ h => False.elim h) (fun r14 T14 H locs hp hP hD hS => ?_)
            exact kEndI F hr rfl hlk hP hD hS (Nat.le_of_ble_eq_true rfl) (Nat.le_of_ble_eq_true rfl) dX6_order_59 ⟨_, rfl, ⟨m2.trans hp.1, ⟨cn + 1, by omega, hp.2.2.2.1⟩, Or.inr ⟨m2_, hm2, hmM2, j2, hj2, hn2⟩⟩⟩
          · refine lv_aload_n hx hb dX6_order_44 rfl (lv_at hl 0 rfl) ?_
            refine lv_iconst (v := 3) hx hb dX6_order_45 (by decide) ?_
            refine kcallI (kV (n := 1) (As := [.int 3]) (rest := []) (b := (w 0)) (C := RX6) F hE hK hP hD hS hA (c_X6_fails l hl0 g e0 (setF S 100 (w 0) 0) _ (w 0) 3 (m2.1.1.1 0 (by decide))) (rr_Model hK hP (m2.1.1.1 0 (by decide))) kw_183 kw_184 kw_185 kw_5 kw_186 (by decide +kernel) ⟨Nat.le_of_ble_eq_true rfl, Nat.le_of_ble_eq_true rfl⟩ rfl hl.1 rfl (Nat.le_of_ble_eq_true rfl) dX6_order_46 ⟨Nat.le_of_ble_eq_true rfl, Nat.le_of_ble_eq_true rfl⟩) rfl hD hS hA (fun _ _ _ _ _ h => False.elim h) (fun r15 T15 H locs hp hP hD hS => ?_)
            obtain ⟨hT, hr16⟩ := hp
            subst hT
            have m16 : Mr w S (setF (setF S 100 (w 0) 0) 100 (w 0) 3) := m2.thr
            subst hr16
            refine lv_goto (tgt := 59) hx hb dX6_order_49 (by decide) ?_
            exact kEndI F hr rfl hlk hP hD hS (Nat.le_of_ble_eq_true rfl) (Nat.le_of_ble_eq_true rfl) dX6_order_59 ⟨_, rfl, ⟨m16, ⟨cn, by omega, (show pF (setF (setF S 100 (w 0) 0) 100 (w 0) 3) 106 (w 0) = nI cn from ((uF_of (Or.inl (by decide))).trans ((uF_of (Or.inl (by decide))).trans rfl)).trans hc)⟩, Or.inr ⟨m2_, hm2, hmM2, j2, hj2, hn2⟩⟩⟩
        · refine lv_aload_n hx hb dX6_order_29 rfl (lv_at hl 0 rfl) ?_
          refine lv_iconst (v := 2) hx hb dX6_order_30 (by decide) ?_
          refine kcallI (kV (n := 1) (As := [.int 2]) (rest := []) (b := (w 0)) (C := RX6) F hE hK hP hD hS hA (c_X6_fails l hl0 g e0 (setF S 100 (w 0) 0) _ (w 0) 2 (m2.1.1.1 0 (by decide))) (rr_Model hK hP (m2.1.1.1 0 (by decide))) kw_183 kw_184 kw_185 kw_5 kw_186 (by decide +kernel) ⟨Nat.le_of_ble_eq_true rfl, Nat.le_of_ble_eq_true rfl⟩ rfl hl.1 rfl (Nat.le_of_ble_eq_true rfl) dX6_order_31 ⟨Nat.le_of_ble_eq_true rfl, Nat.le_of_ble_eq_true rfl⟩) rfl hD hS hA (fun _ _ _ _ _ h => False.elim h) (fun r17 T17 H locs hp hP hD hS => ?_)
          obtain ⟨hT, hr18⟩ := hp
          subst hT
          have m18 : Mr w S (setF (setF S 100 (w 0) 0) 100 (w 0) 2) := m2.thr
          subst hr18
          exact kEndI F hr rfl hlk hP hD hS (Nat.le_of_ble_eq_true rfl) (Nat.le_of_ble_eq_true rfl) dX6_order_34 ⟨_, rfl, ⟨m18, ⟨cn, by omega, (show pF (setF (setF S 100 (w 0) 0) 100 (w 0) 2) 106 (w 0) = nI cn from ((uF_of (Or.inl (by decide))).trans ((uF_of (Or.inl (by decide))).trans rfl)).trans hc)⟩, Or.inr ⟨m2_, hm2, hmM2, j2, hj2, hn2⟩⟩⟩
    · exact absurd c3 (by decide)
  · subst hT
    subst hr
    have m2 : Mr w S (setF S 100 (w 0) 1) := (Mr.rf hI).thr
    refine lv_if_ne (tgt := 10) hx hb dX6_order_5 (by decide) (fun c19 => ?_) (fun c19 => ?_)
    · exact absurd c19 (by decide)
    · refine lv_iconst (v := 0) hx hb dX6_order_8 (by decide) ?_
      exact kEndI F hr rfl hlk hP hD hS (Nat.le_of_ble_eq_true rfl) (Nat.le_of_ble_eq_true rfl) dX6_order_9 ⟨_, rfl, ⟨m2, ⟨cn, by omega, (show pF (setF S 100 (w 0) 1) 106 (w 0) = nI cn from ((uF_of (Or.inl (by decide))).trans rfl).trans hc)⟩, Or.inl uF_at⟩⟩
theorem dX6_drop_0 : decode cX6_drop 0 = .ok (.aload_n 0, 1) := by decide +kernel
theorem dX6_drop_1 : decode cX6_drop 1 = .ok (.iload_n 1, 1) := by decide +kernel
theorem dX6_drop_2 : decode cX6_drop 2 = .ok (.invokevirtual 118, 3) := by decide +kernel
theorem dX6_drop_5 : decode cX6_drop 5 = .ok (.ifCond .ne 5, 3) := by decide +kernel
theorem dX6_drop_8 : decode cX6_drop 8 = .ok (.iconst 0, 1) := by decide +kernel
theorem dX6_drop_9 : decode cX6_drop 9 = .ok (.ireturn, 1) := by decide +kernel
theorem dX6_drop_10 : decode cX6_drop 10 = .ok (.aload_n 0, 1) := by decide +kernel
theorem dX6_drop_11 : decode cX6_drop 11 = .ok (.getfield 31, 3) := by decide +kernel
theorem dX6_drop_14 : decode cX6_drop 14 = .ok (.iload_n 1, 1) := by decide +kernel
theorem dX6_drop_15 : decode cX6_drop 15 = .ok (.iaload, 1) := by decide +kernel
theorem dX6_drop_16 : decode cX6_drop 16 = .ok (.bipush 111, 2) := by decide +kernel
theorem dX6_drop_18 : decode cX6_drop 18 = .ok (.if_icmp .eq 20, 3) := by decide +kernel
theorem dX6_drop_21 : decode cX6_drop 21 = .ok (.aload_n 0, 1) := by decide +kernel
theorem dX6_drop_22 : decode cX6_drop 22 = .ok (.getfield 31, 3) := by decide +kernel
theorem dX6_drop_25 : decode cX6_drop 25 = .ok (.iload_n 1, 1) := by decide +kernel
theorem dX6_drop_26 : decode cX6_drop 26 = .ok (.iaload, 1) := by decide +kernel
theorem dX6_drop_27 : decode cX6_drop 27 = .ok (.bipush 112, 2) := by decide +kernel
theorem dX6_drop_29 : decode cX6_drop 29 = .ok (.if_icmp .eq 9, 3) := by decide +kernel
theorem dX6_drop_32 : decode cX6_drop 32 = .ok (.aload_n 0, 1) := by decide +kernel
theorem dX6_drop_33 : decode cX6_drop 33 = .ok (.iconst 2, 1) := by decide +kernel
theorem dX6_drop_34 : decode cX6_drop 34 = .ok (.invokevirtual 87, 3) := by decide +kernel
theorem dX6_drop_37 : decode cX6_drop 37 = .ok (.ireturn, 1) := by decide +kernel
theorem dX6_drop_38 : decode cX6_drop 38 = .ok (.aload_n 0, 1) := by decide +kernel
theorem dX6_drop_39 : decode cX6_drop 39 = .ok (.getfield 31, 3) := by decide +kernel
theorem dX6_drop_42 : decode cX6_drop 42 = .ok (.iload_n 1, 1) := by decide +kernel
theorem dX6_drop_43 : decode cX6_drop 43 = .ok (.bipush 100, 2) := by decide +kernel
theorem dX6_drop_45 : decode cX6_drop 45 = .ok (.iastore, 1) := by decide +kernel
theorem dX6_drop_46 : decode cX6_drop 46 = .ok (.aload_n 0, 1) := by decide +kernel
theorem dX6_drop_47 : decode cX6_drop 47 = .ok (.iload_n 1, 1) := by decide +kernel
theorem dX6_drop_48 : decode cX6_drop 48 = .ok (.bipush 100, 2) := by decide +kernel
theorem dX6_drop_50 : decode cX6_drop 50 = .ok (.invokevirtual 83, 3) := by decide +kernel
theorem dX6_drop_53 : decode cX6_drop 53 = .ok (.aload_n 0, 1) := by decide +kernel
theorem dX6_drop_54 : decode cX6_drop 54 = .ok (.aload_n 0, 1) := by decide +kernel
theorem dX6_drop_55 : decode cX6_drop 55 = .ok (.getfield 22, 3) := by decide +kernel
theorem dX6_drop_58 : decode cX6_drop 58 = .ok (.iload_n 1, 1) := by decide +kernel
theorem dX6_drop_59 : decode cX6_drop 59 = .ok (.iaload, 1) := by decide +kernel
theorem dX6_drop_60 : decode cX6_drop 60 = .ok (.invokevirtual 94, 3) := by decide +kernel
theorem dX6_drop_63 : decode cX6_drop 63 = .ok (.ireturn, 1) := by decide +kernel
set_option maxHeartbeats 4000000 in
set_option maxRecDepth 100000 in
theorem c_X6_drop (l : Launch) (hl0 : l.stackTraces = false) (g : kG) (e0 : Nat) (w : Nat → Nat) (S : wPS) (sz : Nat) (hI : MI w S) (n : Int32) (cn : Nat) (hc : pF S 106 (w 0) = nI cn) (hc7 : cn + 13 ≤ 7000) : kM l g e0 yX6_drop cX6_drop 2 (some .int) 2 44 0 0 [.ref (w 0), .int n] S sz (pI (fun r T => Mr w S T ∧ (∃ c9, c9 ≤ cn + 13 ∧ pF T 106 (w 0) = nI c9) ∧ (pF T 100 (w 0) = 1 ∨ (∃ m, m ≤ 12 ∧ pF S 102 (w 0) = nI m ∧ ∃ j, j < m ∧ n = nI j)))) (fun E => False) := by
  refine kM.of (by decide) (Nat.le_of_ble_eq_true rfl) ?_
  intro p e s m below meth c ls B hin
  obtain ⟨F, hr, hlk, hte, hP, hK, hD, hE, hS, hA, hl, hsz⟩ := B
  subst hsz
  have hx := F.1
  have hb := F.2.1
  have hl : lv_has ls 2 [(0, .ref (w 0)), (1, .int n)] := hl
  refine lv_aload_n hx hb dX6_drop_0 rfl (lv_at hl 0 rfl) ?_
  refine lv_iload_n hx hb dX6_drop_1 rfl (lv_at hl 1 rfl) ?_
  refine kcallI (kV (n := 1) (As := [.int n]) (rest := []) (b := (w 0)) (C := RX6) F hE hK hP hD hS hA (c_X6_isOrder l hl0 g e0 w S _ hI n) (rr_Model hK hP (hI.1.1 0 (by decide))) kw_447 kw_448 kw_449 kw_5 kw_450 (by decide +kernel) ⟨Nat.le_of_ble_eq_true rfl, Nat.le_of_ble_eq_true rfl⟩ rfl hl.1 rfl (Nat.le_of_ble_eq_true rfl) dX6_drop_2 ⟨Nat.le_of_ble_eq_true rfl, Nat.le_of_ble_eq_true rfl⟩) rfl hD hS hA (fun _ _ _ _ _ h => False.elim h) (fun r1 T1 H locs hp hP hD hS => ?_)
  have hp := hp
  rcases hp with ⟨hr, hT, m2_, hm2, hmM2, j2, hj2, hn2⟩ | ⟨hr, hT, ho2⟩
  · subst hT
    subst hr
    have m2 : Mr w S (setF S 100 (w 0) 0) := (Mr.rf hI).thr
    refine lv_if_ne (tgt := 10) hx hb dX6_drop_5 (by decide) (fun c3 => ?_) (fun c3 => ?_)
    · refine lv_aload_n hx hb dX6_drop_10 rfl (lv_at hl 0 rfl) ?_
      refine rs_Model_state (b := w 8) F hK hP (m2.1.1.1 0 (by decide)) ((m2.1.2.1 8 (by decide) (by decide)).1) kw_74 dX6_drop_11 ?_
      refine lv_iload_n hx hb dX6_drop_14 rfl (lv_at hl 1 rfl) ?_
      refine rd_I F hK hP (m2.1.1.1 8 (by decide)) (by rw [show pN (setF S 100 (w 0) 0) (w 8) = 12 from (m2.1.2.1 8 (by decide) (by decide)).2, hn2]; exact vp_in_nI (by omega) (by decide)) dX6_drop_15 ?_
      refine lv_topi (fun x4 ex4 => ?_)
      refine lv_bipush (v := 111) hx hb dX6_drop_16 (by decide) ?_
      refine lv_icmp_eq (tgt := 38) hx hb dX6_drop_18 (by decide) (fun c5 => ?_) (fun c5 => ?_)
      · refine lv_aload_n hx hb dX6_drop_38 rfl (lv_at hl 0 rfl) ?_
        refine rs_Model_state (b := w 8) F hK hP (m2.1.1.1 0 (by decide)) ((m2.1.2.1 8 (by decide) (by decide)).1) kw_74 dX6_drop_39 ?_
        refine lv_iload_n hx hb dX6_drop_42 rfl (lv_at hl 1 rfl) ?_
        refine lv_bipush (v := 100) hx hb dX6_drop_43 (by decide) ?_
        refine rt_I F hK hP hD hS (m2.1.1.1 8 (by decide)) (by rw [show pN (setF S 100 (w 0) 0) (w 8) = 12 from (m2.1.2.1 8 (by decide) (by decide)).2, hn2]; exact vp_in_nI (by omega) (by decide)) dX6_drop_45 (fun H locs hP hD hS => ?_)
        refine lv_aload_n hx hb dX6_drop_46 rfl (lv_at hl 0 rfl) ?_
        refine lv_iload_n hx hb dX6_drop_47 rfl (lv_at hl 1 rfl) ?_
        refine lv_bipush (v := 100) hx hb dX6_drop_48 (by decide) ?_
        refine kcallU (kV (n := 2) (As := [.int n, .int 100]) (rest := []) (b := (w 0)) (C := RX6) F hE hK hP hD hS hA (c_X6_notes l hl0 g e0 w (setX (setF S 100 (w 0) 0) (w 8) (upd (pX (setF S 100 (w 0) 0) (w 8)) n.toNatClampNeg 100)) _ ((Mk.x (i := 8) (Mk.rf m2.1) (by decide) (by decide) (by decide)).1.1) n 100 cn (show pF (setF S 100 (w 0) 0) 106 (w 0) = nI cn from ((uF_of (Or.inl (by decide))).trans rfl).trans hc) (by omega)) (rr_Model hK hP (m2.1.1.1 0 (by decide))) kw_343 kw_344 kw_345 kw_5 kw_346 (by decide +kernel) ⟨Nat.le_of_ble_eq_true rfl, Nat.le_of_ble_eq_true rfl⟩ rfl hl.1 rfl (Nat.le_of_ble_eq_true rfl) dX6_drop_50 ⟨Nat.le_of_ble_eq_true rfl, Nat.le_of_ble_eq_true rfl⟩) rfl hD hS hA (fun _ _ _ _ _ h => False.elim h) (fun T6 H locs hp hP hD hS => ?_)
        obtain ⟨k7, c7_, s7⟩ := hp
        have K7 : Mk w (setF S 100 (w 0) 0) T6 := (Mk.x (i := 8) (Mk.rf m2.1) (by decide) (by decide) (by decide)).trans k7
        refine lv_aload_n hx hb dX6_drop_53 rfl (lv_at hl 0 rfl) ?_
        refine lv_aload_n hx hb dX6_drop_54 rfl (lv_at hl 0 rfl) ?_
        refine rs_Model_item (b := w 5) F hK hP (K7.1.1.1.1 0 (by decide)) ((K7.1.1.2.1 5 (by decide) (by decide)).1) kw_71 dX6_drop_55 ?_
        refine lv_iload_n hx hb dX6_drop_58 rfl (lv_at hl 1 rfl) ?_
        refine rd_I F hK hP (K7.1.1.1.1 5 (by decide)) (by rw [show pN T6 (w 5) = 12 from (K7.1.1.2.1 5 (by decide) (by decide)).2, hn2]; exact vp_in_nI (by omega) (by decide)) dX6_drop_59 ?_
        refine lv_topi (fun x8 ex8 => ?_)
        obtain ⟨jg, hjg, hxg⟩ : ∃ q, q < 6 ∧ x8 = nI q := by rw [ex8]; exact K7.1.1.2.2.2.2.1 _
        refine kcallI (kV (n := 1) (As := [.int x8]) (rest := []) (b := (w 0)) (C := RX6) F hE hK hP hD hS hA (c_X6_rest l hl0 g e0 w T6 _ K7.1.1 x8 ⟨jg, hjg, hxg⟩) (rr_Model hK hP (K7.1.1.1.1 0 (by decide))) kw_255 kw_256 kw_257 kw_5 kw_258 (by decide +kernel) ⟨Nat.le_of_ble_eq_true rfl, Nat.le_of_ble_eq_true rfl⟩ rfl hl.1 rfl (Nat.le_of_ble_eq_true rfl) dX6_drop_60 ⟨Nat.le_of_ble_eq_true rfl, Nat.le_of_ble_eq_true rfl⟩) rfl hD hS hA (fun _ _ _ _ _ h => False.elim h) (fun r9 T9 H locs hp hP hD hS => ?_)
        obtain ⟨hT, hp10⟩ := hp
        have hT := hT.symm
        subst hT
        exact kEndI F hr rfl hlk hP hD hS (Nat.le_of_ble_eq_true rfl) (Nat.le_of_ble_eq_true rfl) dX6_drop_63 ⟨_, rfl, ⟨(m2.trans K7.1), ⟨cn + 1, by omega, c7_⟩, Or.inr ⟨m2_, hm2, hmM2, j2, hj2, hn2⟩⟩⟩
      · refine lv_aload_n hx hb dX6_drop_21 rfl (lv_at hl 0 rfl) ?_
        refine rs_Model_state (b := w 8) F hK hP (m2.1.1.1 0 (by decide)) ((m2.1.2.1 8 (by decide) (by decide)).1) kw_74 dX6_drop_22 ?_
        refine lv_iload_n hx hb dX6_drop_25 rfl (lv_at hl 1 rfl) ?_
        refine rd_I F hK hP (m2.1.1.1 8 (by decide)) (by rw [show pN (setF S 100 (w 0) 0) (w 8) = 12 from (m2.1.2.1 8 (by decide) (by decide)).2, hn2]; exact vp_in_nI (by omega) (by decide)) dX6_drop_26 ?_
        refine lv_topi (fun x11 ex11 => ?_)
        refine lv_bipush (v := 112) hx hb dX6_drop_27 (by decide) ?_
        refine lv_icmp_eq (tgt := 38) hx hb dX6_drop_29 (by decide) (fun c12 => ?_) (fun c12 => ?_)
        · refine lv_aload_n hx hb dX6_drop_38 rfl (lv_at hl 0 rfl) ?_
          refine rs_Model_state (b := w 8) F hK hP (m2.1.1.1 0 (by decide)) ((m2.1.2.1 8 (by decide) (by decide)).1) kw_74 dX6_drop_39 ?_
          refine lv_iload_n hx hb dX6_drop_42 rfl (lv_at hl 1 rfl) ?_
          refine lv_bipush (v := 100) hx hb dX6_drop_43 (by decide) ?_
          refine rt_I F hK hP hD hS (m2.1.1.1 8 (by decide)) (by rw [show pN (setF S 100 (w 0) 0) (w 8) = 12 from (m2.1.2.1 8 (by decide) (by decide)).2, hn2]; exact vp_in_nI (by omega) (by decide)) dX6_drop_45 (fun H locs hP hD hS => ?_)
          refine lv_aload_n hx hb dX6_drop_46 rfl (lv_at hl 0 rfl) ?_
          refine lv_iload_n hx hb dX6_drop_47 rfl (lv_at hl 1 rfl) ?_
          refine lv_bipush (v := 100) hx hb dX6_drop_48 (by decide) ?_
          refine kcallU (kV (n := 2) (As := [.int n, .int 100]) (rest := []) (b := (w 0)) (C := RX6) F hE hK hP hD hS hA (c_X6_notes l hl0 g e0 w (setX (setF S 100 (w 0) 0) (w 8) (upd (pX (setF S 100 (w 0) 0) (w 8)) n.toNatClampNeg 100)) _ ((Mk.x (i := 8) (Mk.rf m2.1) (by decide) (by decide) (by decide)).1.1) n 100 cn (show pF (setF S 100 (w 0) 0) 106 (w 0) = nI cn from ((uF_of (Or.inl (by decide))).trans rfl).trans hc) (by omega)) (rr_Model hK hP (m2.1.1.1 0 (by decide))) kw_343 kw_344 kw_345 kw_5 kw_346 (by decide +kernel) ⟨Nat.le_of_ble_eq_true rfl, Nat.le_of_ble_eq_true rfl⟩ rfl hl.1 rfl (Nat.le_of_ble_eq_true rfl) dX6_drop_50 ⟨Nat.le_of_ble_eq_true rfl, Nat.le_of_ble_eq_true rfl⟩) rfl hD hS hA (fun _ _ _ _ _ h => False.elim h) (fun T13 H locs hp hP hD hS => ?_)
          obtain ⟨k14, c14_, s14⟩ := hp
          have K14 : Mk w (setF S 100 (w 0) 0) T13 := (Mk.x (i := 8) (Mk.rf m2.1) (by decide) (by decide) (by decide)).trans k14
          refine lv_aload_n hx hb dX6_drop_53 rfl (lv_at hl 0 rfl) ?_
          refine lv_aload_n hx hb dX6_drop_54 rfl (lv_at hl 0 rfl) ?_
          refine rs_Model_item (b := w 5) F hK hP (K14.1.1.1.1 0 (by decide)) ((K14.1.1.2.1 5 (by decide) (by decide)).1) kw_71 dX6_drop_55 ?_
          refine lv_iload_n hx hb dX6_drop_58 rfl (lv_at hl 1 rfl) ?_
          refine rd_I F hK hP (K14.1.1.1.1 5 (by decide)) (by rw [show pN T13 (w 5) = 12 from (K14.1.1.2.1 5 (by decide) (by decide)).2, hn2]; exact vp_in_nI (by omega) (by decide)) dX6_drop_59 ?_
          refine lv_topi (fun x15 ex15 => ?_)
          obtain ⟨jg, hjg, hxg⟩ : ∃ q, q < 6 ∧ x15 = nI q := by rw [ex15]; exact K14.1.1.2.2.2.2.1 _
          refine kcallI (kV (n := 1) (As := [.int x15]) (rest := []) (b := (w 0)) (C := RX6) F hE hK hP hD hS hA (c_X6_rest l hl0 g e0 w T13 _ K14.1.1 x15 ⟨jg, hjg, hxg⟩) (rr_Model hK hP (K14.1.1.1.1 0 (by decide))) kw_255 kw_256 kw_257 kw_5 kw_258 (by decide +kernel) ⟨Nat.le_of_ble_eq_true rfl, Nat.le_of_ble_eq_true rfl⟩ rfl hl.1 rfl (Nat.le_of_ble_eq_true rfl) dX6_drop_60 ⟨Nat.le_of_ble_eq_true rfl, Nat.le_of_ble_eq_true rfl⟩) rfl hD hS hA (fun _ _ _ _ _ h => False.elim h) (fun r16 T16 H locs hp hP hD hS => ?_)
          obtain ⟨hT, hp17⟩ := hp
          have hT := hT.symm
          subst hT
          exact kEndI F hr rfl hlk hP hD hS (Nat.le_of_ble_eq_true rfl) (Nat.le_of_ble_eq_true rfl) dX6_drop_63 ⟨_, rfl, ⟨(m2.trans K14.1), ⟨cn + 1, by omega, c14_⟩, Or.inr ⟨m2_, hm2, hmM2, j2, hj2, hn2⟩⟩⟩
        · refine lv_aload_n hx hb dX6_drop_32 rfl (lv_at hl 0 rfl) ?_
          refine lv_iconst (v := 2) hx hb dX6_drop_33 (by decide) ?_
          refine kcallI (kV (n := 1) (As := [.int 2]) (rest := []) (b := (w 0)) (C := RX6) F hE hK hP hD hS hA (c_X6_fails l hl0 g e0 (setF S 100 (w 0) 0) _ (w 0) 2 (m2.1.1.1 0 (by decide))) (rr_Model hK hP (m2.1.1.1 0 (by decide))) kw_183 kw_184 kw_185 kw_5 kw_186 (by decide +kernel) ⟨Nat.le_of_ble_eq_true rfl, Nat.le_of_ble_eq_true rfl⟩ rfl hl.1 rfl (Nat.le_of_ble_eq_true rfl) dX6_drop_34 ⟨Nat.le_of_ble_eq_true rfl, Nat.le_of_ble_eq_true rfl⟩) rfl hD hS hA (fun _ _ _ _ _ h => False.elim h) (fun r18 T18 H locs hp hP hD hS => ?_)
          obtain ⟨hT, hr19⟩ := hp
          subst hT
          have m19 : Mr w S (setF (setF S 100 (w 0) 0) 100 (w 0) 2) := m2.thr
          subst hr19
          exact kEndI F hr rfl hlk hP hD hS (Nat.le_of_ble_eq_true rfl) (Nat.le_of_ble_eq_true rfl) dX6_drop_37 ⟨_, rfl, ⟨m19, ⟨cn, by omega, (show pF (setF (setF S 100 (w 0) 0) 100 (w 0) 2) 106 (w 0) = nI cn from ((uF_of (Or.inl (by decide))).trans ((uF_of (Or.inl (by decide))).trans rfl)).trans hc)⟩, Or.inr ⟨m2_, hm2, hmM2, j2, hj2, hn2⟩⟩⟩
    · exact absurd c3 (by decide)
  · subst hT
    subst hr
    have m2 : Mr w S (setF S 100 (w 0) 1) := (Mr.rf hI).thr
    refine lv_if_ne (tgt := 10) hx hb dX6_drop_5 (by decide) (fun c20 => ?_) (fun c20 => ?_)
    · exact absurd c20 (by decide)
    · refine lv_iconst (v := 0) hx hb dX6_drop_8 (by decide) ?_
      exact kEndI F hr rfl hlk hP hD hS (Nat.le_of_ble_eq_true rfl) (Nat.le_of_ble_eq_true rfl) dX6_drop_9 ⟨_, rfl, ⟨m2, ⟨cn, by omega, (show pF (setF S 100 (w 0) 1) 106 (w 0) = nI cn from ((uF_of (Or.inl (by decide))).trans rfl).trans hc)⟩, Or.inl uF_at⟩⟩
