theorem dX6_pass_0 : decode cX6_pass 0 = .ok (.iload_n 1, 1) := by decide +kernel
theorem dX6_pass_1 : decode cX6_pass 1 = .ok (.iconst 1, 1) := by decide +kernel
theorem dX6_pass_2 : decode cX6_pass 2 = .ok (.bipush 60, 2) := by decide +kernel
theorem dX6_pass_4 : decode cX6_pass 4 = .ok (.invokestatic 69, 3) := by decide +kernel
theorem dX6_pass_7 : decode cX6_pass 7 = .ok (.ifCond .eq 15, 3) := by decide +kernel
theorem dX6_pass_10 : decode cX6_pass 10 = .ok (.aload_n 0, 1) := by decide +kernel
theorem dX6_pass_11 : decode cX6_pass 11 = .ok (.getfield 127, 3) := by decide +kernel
theorem dX6_pass_14 : decode cX6_pass 14 = .ok (.iload_n 1, 1) := by decide +kernel
theorem dX6_pass_15 : decode cX6_pass 15 = .ok (.iadd, 1) := by decide +kernel
theorem dX6_pass_16 : decode cX6_pass 16 = .ok (.sipush 1439, 3) := by decide +kernel
theorem dX6_pass_19 : decode cX6_pass 19 = .ok (.if_icmp .le 9, 3) := by decide +kernel
theorem dX6_pass_22 : decode cX6_pass 22 = .ok (.aload_n 0, 1) := by decide +kernel
theorem dX6_pass_23 : decode cX6_pass 23 = .ok (.iconst 1, 1) := by decide +kernel
theorem dX6_pass_24 : decode cX6_pass 24 = .ok (.invokevirtual 87, 3) := by decide +kernel
theorem dX6_pass_27 : decode cX6_pass 27 = .ok (.ireturn, 1) := by decide +kernel
theorem dX6_pass_28 : decode cX6_pass 28 = .ok (.aload_n 0, 1) := by decide +kernel
theorem dX6_pass_29 : decode cX6_pass 29 = .ok (.iconst 0, 1) := by decide +kernel
theorem dX6_pass_30 : decode cX6_pass 30 = .ok (.putfield 62, 3) := by decide +kernel
theorem dX6_pass_33 : decode cX6_pass 33 = .ok (.iconst 0, 1) := by decide +kernel
theorem dX6_pass_34 : decode cX6_pass 34 = .ok (.istore_n 2, 1) := by decide +kernel
theorem dX6_pass_35 : decode cX6_pass 35 = .ok (.iconst 0, 1) := by decide +kernel
theorem dX6_pass_36 : decode cX6_pass 36 = .ok (.istore_n 3, 1) := by decide +kernel
theorem dX6_pass_37 : decode cX6_pass 37 = .ok (.iload_n 3, 1) := by decide +kernel
theorem dX6_pass_38 : decode cX6_pass 38 = .ok (.iload_n 1, 1) := by decide +kernel
theorem dX6_pass_39 : decode cX6_pass 39 = .ok (.if_icmp .ge 120, 3) := by decide +kernel
theorem dX6_pass_42 : decode cX6_pass 42 = .ok (.aload_n 0, 1) := by decide +kernel
theorem dX6_pass_43 : decode cX6_pass 43 = .ok (.dup, 1) := by decide +kernel
theorem dX6_pass_44 : decode cX6_pass 44 = .ok (.getfield 127, 3) := by decide +kernel
theorem dX6_pass_47 : decode cX6_pass 47 = .ok (.iconst 1, 1) := by decide +kernel
theorem dX6_pass_48 : decode cX6_pass 48 = .ok (.iadd, 1) := by decide +kernel
theorem dX6_pass_49 : decode cX6_pass 49 = .ok (.putfield 127, 3) := by decide +kernel
theorem dX6_pass_52 : decode cX6_pass 52 = .ok (.iconst 0, 1) := by decide +kernel
theorem dX6_pass_53 : decode cX6_pass 53 = .ok (.istore 4, 2) := by decide +kernel
theorem dX6_pass_55 : decode cX6_pass 55 = .ok (.iload 4, 2) := by decide +kernel
theorem dX6_pass_57 : decode cX6_pass 57 = .ok (.iconst 2, 1) := by decide +kernel
theorem dX6_pass_58 : decode cX6_pass 58 = .ok (.if_icmp .ge 95, 3) := by decide +kernel
theorem dX6_pass_61 : decode cX6_pass 61 = .ok (.aload_n 0, 1) := by decide +kernel
theorem dX6_pass_62 : decode cX6_pass 62 = .ok (.getfield 47, 3) := by decide +kernel
theorem dX6_pass_65 : decode cX6_pass 65 = .ok (.iload 4, 2) := by decide +kernel
theorem dX6_pass_67 : decode cX6_pass 67 = .ok (.iaload, 1) := by decide +kernel
theorem dX6_pass_68 : decode cX6_pass 68 = .ok (.ifCond .eq 79, 3) := by decide +kernel
theorem dX6_pass_71 : decode cX6_pass 71 = .ok (.aload_n 0, 1) := by decide +kernel
theorem dX6_pass_72 : decode cX6_pass 72 = .ok (.getfield 37, 3) := by decide +kernel
theorem dX6_pass_75 : decode cX6_pass 75 = .ok (.aload_n 0, 1) := by decide +kernel
theorem dX6_pass_76 : decode cX6_pass 76 = .ok (.getfield 7, 3) := by decide +kernel
theorem dX6_pass_79 : decode cX6_pass 79 = .ok (.aload_n 0, 1) := by decide +kernel
theorem dX6_pass_80 : decode cX6_pass 80 = .ok (.getfield 53, 3) := by decide +kernel
theorem dX6_pass_83 : decode cX6_pass 83 = .ok (.iload 4, 2) := by decide +kernel
theorem dX6_pass_85 : decode cX6_pass 85 = .ok (.iaload, 1) := by decide +kernel
theorem dX6_pass_86 : decode cX6_pass 86 = .ok (.iaload, 1) := by decide +kernel
theorem dX6_pass_87 : decode cX6_pass 87 = .ok (.baload, 1) := by decide +kernel
theorem dX6_pass_88 : decode cX6_pass 88 = .ok (.ifCond .eq 6, 3) := by decide +kernel
theorem dX6_pass_91 : decode cX6_pass 91 = .ok (.goto 56, 3) := by decide +kernel
theorem dX6_pass_94 : decode cX6_pass 94 = .ok (.aload_n 0, 1) := by decide +kernel
theorem dX6_pass_95 : decode cX6_pass 95 = .ok (.getfield 50, 3) := by decide +kernel
theorem dX6_pass_98 : decode cX6_pass 98 = .ok (.iload 4, 2) := by decide +kernel
theorem dX6_pass_100 : decode cX6_pass 100 = .ok (.dup2, 1) := by decide +kernel
theorem dX6_pass_101 : decode cX6_pass 101 = .ok (.iaload, 1) := by decide +kernel
theorem dX6_pass_102 : decode cX6_pass 102 = .ok (.iconst 1, 1) := by decide +kernel
theorem dX6_pass_103 : decode cX6_pass 103 = .ok (.isub, 1) := by decide +kernel
theorem dX6_pass_104 : decode cX6_pass 104 = .ok (.iastore, 1) := by decide +kernel
theorem dX6_pass_105 : decode cX6_pass 105 = .ok (.aload_n 0, 1) := by decide +kernel
theorem dX6_pass_106 : decode cX6_pass 106 = .ok (.getfield 50, 3) := by decide +kernel
theorem dX6_pass_109 : decode cX6_pass 109 = .ok (.iload 4, 2) := by decide +kernel
theorem dX6_pass_111 : decode cX6_pass 111 = .ok (.iaload, 1) := by decide +kernel
theorem dX6_pass_112 : decode cX6_pass 112 = .ok (.ifCond .le 6, 3) := by decide +kernel
theorem dX6_pass_115 : decode cX6_pass 115 = .ok (.goto 32, 3) := by decide +kernel
theorem dX6_pass_118 : decode cX6_pass 118 = .ok (.iload_n 2, 1) := by decide +kernel
theorem dX6_pass_119 : decode cX6_pass 119 = .ok (.aload_n 0, 1) := by decide +kernel
theorem dX6_pass_120 : decode cX6_pass 120 = .ok (.aload_n 0, 1) := by decide +kernel
theorem dX6_pass_121 : decode cX6_pass 121 = .ok (.getfield 53, 3) := by decide +kernel
theorem dX6_pass_124 : decode cX6_pass 124 = .ok (.iload 4, 2) := by decide +kernel
theorem dX6_pass_126 : decode cX6_pass 126 = .ok (.iaload, 1) := by decide +kernel
theorem dX6_pass_127 : decode cX6_pass 127 = .ok (.aload_n 0, 1) := by decide +kernel
theorem dX6_pass_128 : decode cX6_pass 128 = .ok (.getfield 47, 3) := by decide +kernel
theorem dX6_pass_131 : decode cX6_pass 131 = .ok (.iload 4, 2) := by decide +kernel
theorem dX6_pass_133 : decode cX6_pass 133 = .ok (.iaload, 1) := by decide +kernel
theorem dX6_pass_134 : decode cX6_pass 134 = .ok (.invokevirtual 110, 3) := by decide +kernel
theorem dX6_pass_137 : decode cX6_pass 137 = .ok (.iadd, 1) := by decide +kernel
theorem dX6_pass_138 : decode cX6_pass 138 = .ok (.istore_n 2, 1) := by decide +kernel
theorem dX6_pass_139 : decode cX6_pass 139 = .ok (.aload_n 0, 1) := by decide +kernel
theorem dX6_pass_140 : decode cX6_pass 140 = .ok (.getfield 47, 3) := by decide +kernel
theorem dX6_pass_143 : decode cX6_pass 143 = .ok (.iload 4, 2) := by decide +kernel
theorem dX6_pass_145 : decode cX6_pass 145 = .ok (.iconst 0, 1) := by decide +kernel
theorem dX6_pass_146 : decode cX6_pass 146 = .ok (.iastore, 1) := by decide +kernel
theorem dX6_pass_147 : decode cX6_pass 147 = .ok (.iinc 4 1, 3) := by decide +kernel
theorem dX6_pass_150 : decode cX6_pass 150 = .ok (.goto (-95), 3) := by decide +kernel
theorem dX6_pass_153 : decode cX6_pass 153 = .ok (.iinc 3 1, 3) := by decide +kernel
theorem dX6_pass_156 : decode cX6_pass 156 = .ok (.goto (-119), 3) := by decide +kernel
theorem dX6_pass_159 : decode cX6_pass 159 = .ok (.iload_n 2, 1) := by decide +kernel
theorem dX6_pass_160 : decode cX6_pass 160 = .ok (.ireturn, 1) := by decide +kernel
set_option maxHeartbeats 4000000 in
set_option maxRecDepth 100000 in
theorem c_X6_pass (l : Launch) (hl0 : l.stackTraces = false) (g : kG) (e0 : Nat) (w : Nat → Nat) (S : wPS) (sz : Nat) (hI : MI w S) (n : Int32) : kM l g e0 yX6_pass cX6_pass 5 (some .int) 1 24 0 0 [.ref (w 0), .int n] S sz (pI (fun r T => pF T 106 (w 0) = pF S 106 (w 0) ∧ ((pF T 100 (w 0) = 1 ∧ ((n < 1 ∨ 60 < n) ∨ 1439 < pF S 104 (w 0) + n) ∧ Mr w S T) ∨ (pF T 100 (w 0) = 0 ∧ (¬ n < 1 ∧ ¬ 60 < n) ∧ ¬ 1439 < pF S 104 (w 0) + n ∧ Mr w (setF S 104 (w 0) (pF S 104 (w 0) + n)) T ∧ (pX S (w 13) 0 = 0 → pX S (w 13) 1 = 0 → r = 0))))) (fun E => False) := by
  refine kM.of (by decide) (Nat.le_of_ble_eq_true rfl) ?_
  intro p e s m below meth c ls B hin
  obtain ⟨F, hr, hlk, hte, hP, hK, hD, hE, hS, hA, hl, hsz⟩ := B
  subst hsz
  have hx := F.1
  have hb := F.2.1
  have hl : lv_has ls 5 [(0, .ref (w 0)), (1, .int n)] := hl
  refine lv_iload_n hx hb dX6_pass_0 rfl (lv_at hl 1 rfl) ?_
  refine lv_iconst (v := 1) hx hb dX6_pass_1 (by decide) ?_
  refine lv_bipush (v := 60) hx hb dX6_pass_2 (by decide) ?_
  refine kcallI (kSt (n := 3) (As := [.int n, .int 1, .int 60]) (rest := []) F hE hK hP hD hS hA (c_X6_in l hl0 g e0 S _ n 1 60) kw_180 kw_181 kw_5 kw_182 (by decide +kernel) ⟨Nat.le_of_ble_eq_true rfl, Nat.le_of_ble_eq_true rfl⟩ rfl hl.1 rfl (Nat.le_of_ble_eq_true rfl) dX6_pass_4 ⟨Nat.le_of_ble_eq_true rfl, Nat.le_of_ble_eq_true rfl⟩) rfl hD hS hA (fun _ _ _ _ _ h => False.elim h) (fun r1 T1 H locs hp hP hD hS => ?_)
  obtain ⟨hT, hp2⟩ := hp
  have hT := hT.symm
  subst hT
  refine lv_if_eq (tgt := 22) hx hb dX6_pass_7 (by decide) (fun c3 => ?_) (fun c3 => ?_)
  · refine lv_aload_n hx hb dX6_pass_22 rfl (lv_at hl 0 rfl) ?_
    refine lv_iconst (v := 1) hx hb dX6_pass_23 (by decide) ?_
    refine kcallI (kV (n := 1) (As := [.int 1]) (rest := []) (b := (w 0)) (C := RX6) F hE hK hP hD hS hA (c_X6_fails l hl0 g e0 S _ (w 0) 1 (hI.1.1 0 (by decide))) (rr_Model hK hP (hI.1.1 0 (by decide))) kw_183 kw_184 kw_185 kw_5 kw_186 (by decide +kernel) ⟨Nat.le_of_ble_eq_true rfl, Nat.le_of_ble_eq_true rfl⟩ rfl hl.1 rfl (Nat.le_of_ble_eq_true rfl) dX6_pass_24 ⟨Nat.le_of_ble_eq_true rfl, Nat.le_of_ble_eq_true rfl⟩) rfl hD hS hA (fun _ _ _ _ _ h => False.elim h) (fun r4 T4 H locs hp hP hD hS => ?_)
    obtain ⟨hT, hr5⟩ := hp
    subst hT
    have m5 : Mr w S (setF S 100 (w 0) 1) := (Mr.rf hI).thr
    subst hr5
    exact kEndI F hr rfl hlk hP hD hS (Nat.le_of_ble_eq_true rfl) (Nat.le_of_ble_eq_true rfl) dX6_pass_27 ⟨_, rfl, ⟨((uF_of (Or.inl (by decide))).trans rfl), Or.inl ⟨uF_at, Or.inl (by rcases hp2 with ⟨h, -, -⟩ | ⟨-, h⟩; exact absurd c3 (by rw [h]; decide); exact h), m5⟩⟩⟩
  · have h_v := (show _ ∧ _ from by rcases hp2 with ⟨-, h1, h2⟩ | ⟨h, -⟩; exact ⟨h1, h2⟩; exact absurd c3 (by rw [h]; decide))
    refine lv_aload_n hx hb dX6_pass_10 rfl (lv_at hl 0 rfl) ?_
    refine rg_Model_minute F hK hP (hI.1.1 0 (by decide)) kw_568 dX6_pass_11 ?_
    refine lv_topi (fun x6 ex6 => ?_)
    refine lv_iload_n hx hb dX6_pass_14 rfl (lv_at hl 1 rfl) ?_
    refine lv_iadd hx hb dX6_pass_15 ?_
    refine lv_topi (fun x7 ex7 => ?_)
    refine lv_sipush (v := 1439) hx hb dX6_pass_16 (by decide) ?_
    refine lv_icmp_le (tgt := 28) hx hb dX6_pass_19 (by decide) (fun c8 => ?_) (fun c8 => ?_)
    · have hno : ¬ 1439 < pF S 104 (w 0) + n := by rw [← ex6, ← ex7]; exact Int32.not_lt.mpr c8
      obtain ⟨N, hN, hnN⟩ := kix (n := n) (M := 61) (N := 61) rfl (by decide) (fun h => h_v.1 (Int32.lt_trans h (by decide))) (fun h => h_v.2 (Int32.lt_of_lt_of_le (by decide) h))
      refine lv_aload_n hx hb dX6_pass_28 rfl (lv_at hl 0 rfl) ?_
      refine lv_iconst (v := 0) hx hb dX6_pass_29 (by decide) ?_
      refine rp_Model_thrown F hK hP hD hS (hI.1.1 0 (by decide)) kw_179 dX6_pass_30 (fun H locs hP hD hS => ?_)
      have m9 : Mr w S (setF S 100 (w 0) 0) := (Mr.rf hI).thr
      refine lv_iconst (v := 0) hx hb dX6_pass_33 (by decide) ?_
      refine lv_istore_n (lv' := [(2, .int 0), (0, .ref (w 0)), (1, .int n)]) hx hb dX6_pass_34 rfl hl (by decide) rfl (fun ls hl => ?_)
      refine lv_iconst (v := 0) hx hb dX6_pass_35 (by decide) ?_
      refine lv_istore_n (lv' := [(3, .int 0), (2, .int 0), (0, .ref (w 0)), (1, .int n)]) hx hb dX6_pass_36 rfl hl (by decide) rfl (fun ls hl => ?_)
      have loop : ∀ (fu : Nat) (T0 : wPS) (i : Nat) (xi br : Int32) (H : Heap) (locs : List Loc) (ls : Array Slot), va_P (kD g) vwCl (kW g T0) H → va_D (kA (pL S) s.heap.size) (kW g T0) → va_S (kA (pL S) s.heap.size) s.heap H locs → lv_has ls 5 [(3, .int xi), (2, .int br), (0, .ref (w 0)), (1, .int n)] → N - i < fu → (xi = nI i) → (i ≤ N) → (MI w T0) → (Mr w (setF S 104 (w 0) (pF S 104 (w 0) + nI i)) T0) → (pF T0 100 (w 0) = 0) → (pF T0 106 (w 0) = pF S 106 (w 0)) → (pX S (w 13) 0 = 0 → pX S (w 13) 1 = 0 → br = 0 ∧ ∀ q, q < 2 → pX T0 (w 13) q = 0) → W p l e ({ frames := 1, cells := 0, slots := 0, locals := 24 }) s m ([.ref (w 0), .int n] : List Value).toArray below meth c H locs 0 0 (vx_MQ below (kQ g S s.heap.size (pI (fun r T => pF T 106 (w 0) = pF S 106 (w 0) ∧ ((pF T 100 (w 0) = 1 ∧ ((n < 1 ∨ 60 < n) ∨ 1439 < pF S 104 (w 0) + n) ∧ Mr w S T) ∨ (pF T 100 (w 0) = 0 ∧ (¬ n < 1 ∧ ¬ 60 < n) ∧ ¬ 1439 < pF S 104 (w 0) + n ∧ Mr w (setF S 104 (w 0) (pF S 104 (w 0) + n)) T ∧ (pX S (w 13) 0 = 0 → pX S (w 13) 1 = 0 → r = 0)))))) (kX g S s.heap.size (fun E => False)) ([.ref (w 0), .int n] : List Value).toArray s 0 0 (kA (pL S) s.heap.size)) (F0 m 37 ls []) := by
        intro fu
        induction fu with
        | zero => intro T0 i xi br H locs ls hP hD hS hl hn hi hin hI0 hmr h100 h106 hid; exact absurd hn (Nat.not_lt_zero _)
        | succ fu ih =>
          intro T0 i xi br H locs ls hP hD hS hl hn hi hin hI0 hmr h100 h106 hid
          refine lv_iload_n hx hb dX6_pass_37 rfl (lv_at hl 0 rfl) ?_
          refine lv_iload_n hx hb dX6_pass_38 rfl (lv_at hl 3 rfl) ?_
          refine lv_icmp_ge (tgt := 159) hx hb dX6_pass_39 (by decide) (fun c10 => ?_) (fun c10 => ?_)
          · refine lv_iload_n hx hb dX6_pass_159 rfl (lv_at hl 1 rfl) ?_
            have hiN : i = N := by rcases Nat.lt_or_ge i N with q | q; exact absurd (nI_lt q (by omega)) (Int32.not_lt.mpr (by rw [← hi, ← hnN]; exact c10)); omega
            exact kEndI F hr rfl hlk hP hD hS (Nat.le_of_ble_eq_true rfl) (Nat.le_of_ble_eq_true rfl) dX6_pass_160 ⟨_, rfl, ⟨h106, Or.inr ⟨h100, h_v, hno, by rw [hnN, ← hiN]; exact hmr, fun a b => (hid a b).1⟩⟩⟩
          · have hlt : i < N := by rcases Nat.lt_or_ge i N with q | q; exact q; exact absurd (by rw [hi, hnN]; exact nI_le q (by omega)) c10
            refine lv_aload_n hx hb dX6_pass_42 rfl (lv_at hl 2 rfl) ?_
            refine lv_dup hx hb dX6_pass_43 rfl ?_
            refine rg_Model_minute F hK hP (hI0.1.1 0 (by decide)) kw_568 dX6_pass_44 ?_
            refine lv_topi (fun x11 ex11 => ?_)
            refine lv_iconst (v := 1) hx hb dX6_pass_47 (by decide) ?_
            refine lv_iadd hx hb dX6_pass_48 ?_
            refine lv_topi (fun x12 ex12 => ?_)
            refine rp_Model_minute F hK hP hD hS (hI0.1.1 0 (by decide)) kw_568 dX6_pass_49 (fun H locs hP hD hS => ?_)
            have hw : x12 = pF S 104 (w 0) + nI (i + 1) := by rw [ex12, ex11, hmr.2.2.2.1, uF_at, ← nI_1]; exact Int32.add_assoc _ _ _
            obtain ⟨S2, hS2⟩ : ∃ x : wPS, x = setF T0 104 (w 0) x12 := ⟨_, rfl⟩
            rw [← hS2] at hP hD
            have hr2 : Mr w (setF S 104 (w 0) (pF S 104 (w 0) + nI (i + 1))) S2 := by rw [hS2, hw]; exact Mr.min hmr
            have hx2 : pX S2 = pX T0 := by rw [hS2]; rfl
            have g100 : pF S2 100 (w 0) = 0 := by rw [hS2]; exact (uF_of (Or.inl (by decide))).trans h100
            have g106 : pF S2 106 (w 0) = pF S 106 (w 0) := by rw [hS2]; exact (uF_of (Or.inl (by decide))).trans h106
            refine lv_iconst (v := 0) hx hb dX6_pass_52 (by decide) ?_
            refine lv_istore (lv' := [(4, .int 0), (3, .int xi), (2, .int br), (0, .ref (w 0)), (1, .int n)]) hx hb dX6_pass_53 hl (by decide) rfl (fun ls hl => ?_)
            refine lv_iload hx hb dX6_pass_55 (lv_at hl 0 rfl) ?_
            refine lv_iconst (v := 2) hx hb dX6_pass_57 (by decide) ?_
            refine lv_icmp_ge (tgt := 153) hx hb dX6_pass_58 (by decide) (fun c13 => ?_) (fun c13 => ?_)
            · exact absurd c13 (by decide)
            · refine lv_aload_n hx hb dX6_pass_61 rfl (lv_at hl 3 rfl) ?_
              refine rs_Model_load (b := w 13) F hK hP (hr2.1.1.1 0 (by decide)) ((hr2.1.2.1 13 (by decide) (by decide)).1) kw_80 dX6_pass_62 ?_
              refine lv_iload hx hb dX6_pass_65 (lv_at hl 0 rfl) ?_
              refine rd_I F hK hP (hr2.1.1.1 13 (by decide)) (by rw [show pN S2 (w 13) = 2 from (hr2.1.2.1 13 (by decide) (by decide)).2]; exact vp_in_nI (n := 0) (by decide) (by decide)) dX6_pass_67 ?_
              refine lv_topi (fun x14 ex14 => ?_)
              refine lv_if_eq (tgt := 147) hx hb dX6_pass_68 (by decide) (fun c15 => ?_) (fun c15 => ?_)
              · refine lv_iinc (v := 1) (lv' := [(4, .int 1), (3, .int xi), (2, .int br), (0, .ref (w 0)), (1, .int n)]) hx hb dX6_pass_147 hl (k := 0) rfl (by decide) (by decide) rfl (fun ls hl => ?_)
                refine lv_goto (tgt := 55) hx hb dX6_pass_150 (by decide) ?_
                refine lv_iload hx hb dX6_pass_55 (lv_at hl 0 rfl) ?_
                refine lv_iconst (v := 2) hx hb dX6_pass_57 (by decide) ?_
                refine lv_icmp_ge (tgt := 153) hx hb dX6_pass_58 (by decide) (fun c16 => ?_) (fun c16 => ?_)
                · exact absurd c16 (by decide)
                · refine lv_aload_n hx hb dX6_pass_61 rfl (lv_at hl 3 rfl) ?_
                  refine rs_Model_load (b := w 13) F hK hP (hr2.1.1.1 0 (by decide)) ((hr2.1.2.1 13 (by decide) (by decide)).1) kw_80 dX6_pass_62 ?_
                  refine lv_iload hx hb dX6_pass_65 (lv_at hl 0 rfl) ?_
                  refine rd_I F hK hP (hr2.1.1.1 13 (by decide)) (by rw [show pN S2 (w 13) = 2 from (hr2.1.2.1 13 (by decide) (by decide)).2]; exact vp_in_nI (n := 1) (by decide) (by decide)) dX6_pass_67 ?_
                  refine lv_topi (fun x17 ex17 => ?_)
                  refine lv_if_eq (tgt := 147) hx hb dX6_pass_68 (by decide) (fun c18 => ?_) (fun c18 => ?_)
                  · refine lv_iinc (v := 2) (lv' := [(4, .int 2), (3, .int xi), (2, .int br), (0, .ref (w 0)), (1, .int n)]) hx hb dX6_pass_147 hl (k := 0) rfl (by decide) (by decide) rfl (fun ls hl => ?_)
                    refine lv_goto (tgt := 55) hx hb dX6_pass_150 (by decide) ?_
                    refine lv_iload hx hb dX6_pass_55 (lv_at hl 0 rfl) ?_
                    refine lv_iconst (v := 2) hx hb dX6_pass_57 (by decide) ?_
                    refine lv_icmp_ge (tgt := 153) hx hb dX6_pass_58 (by decide) (fun c19 => ?_) (fun c19 => ?_)
                    · obtain ⟨x20, ex20⟩ : ∃ y : Int32, y = xi + 1 := ⟨_, rfl⟩
                      refine lv_iinc (v := x20) (lv' := [(3, .int x20), (4, .int 2), (2, .int br), (0, .ref (w 0)), (1, .int n)]) hx hb dX6_pass_153 hl (k := 1) rfl (by rw [ex20]; rfl) (by decide) rfl (fun ls hl => ?_)
                      refine lv_goto (tgt := 37) hx hb dX6_pass_156 (by decide) ?_
                      exact ih _ (i + 1) x20 br H locs ls hP hD hS (lv_sub hl [0, 2, 3, 4] rfl) (by omega) (by rw [ex20, hi]; exact nI_1 i) hlt hr2.1 hr2 g100 g106 (fun a b => ⟨(hid a b).1, fun q hq => (congrFun (congrFun hx2 (w 13)) q).trans ((hid a b).2 q hq)⟩)
                    · exact absurd (by decide) c19
                  · refine lv_aload_n hx hb dX6_pass_71 rfl (lv_at hl 3 rfl) ?_
                    refine rs_Model_isBlocked (b := w 10) F hK hP (hr2.1.1.1 0 (by decide)) ((hr2.1.2.1 10 (by decide) (by decide)).1) kw_77 dX6_pass_72 ?_
                    refine lv_aload_n hx hb dX6_pass_75 rfl (lv_at hl 3 rfl) ?_
                    refine rs_Model_aisle (b := w 1) F hK hP (hr2.1.1.1 0 (by decide)) ((hr2.1.2.1 1 (by decide) (by decide)).1) kw_67 dX6_pass_76 ?_
                    refine lv_aload_n hx hb dX6_pass_79 rfl (lv_at hl 3 rfl) ?_
                    refine rs_Model_goal (b := w 15) F hK hP (hr2.1.1.1 0 (by decide)) ((hr2.1.2.1 15 (by decide) (by decide)).1) kw_82 dX6_pass_80 ?_
                    refine lv_iload hx hb dX6_pass_83 (lv_at hl 0 rfl) ?_
                    refine rd_I F hK hP (hr2.1.1.1 15 (by decide)) (by rw [show pN S2 (w 15) = 2 from (hr2.1.2.1 15 (by decide) (by decide)).2]; exact vp_in_nI (n := 1) (by decide) (by decide)) dX6_pass_85 ?_
                    refine lv_topi (fun x21 ex21 => ?_)
                    obtain ⟨jv22, hjv22, hxv22⟩ : ∃ q, q < 6 ∧ x21 = nI q := by rw [ex21]; exact hr2.1.2.2.2.2.2.1 _
                    refine rd_I F hK hP (hr2.1.1.1 1 (by decide)) (by rw [show pN S2 (w 1) = 6 from (hr2.1.2.1 1 (by decide) (by decide)).2, hxv22]; exact vp_in_nI (by omega) (by decide)) dX6_pass_86 ?_
                    refine lv_topi (fun x23 ex23 => ?_)
                    obtain ⟨jv24, hjv24, hxv24⟩ : ∃ q, q < 4 ∧ x23 = nI q := by rw [ex23]; exact hr2.1.2.2.2.1 _
                    refine rd_Z F hK hP (hr2.1.1.1 10 (by decide)) (by rw [show pN S2 (w 10) = 4 from (hr2.1.2.1 10 (by decide) (by decide)).2, hxv24]; exact vp_in_nI (by omega) (by decide)) dX6_pass_87 ?_
                    refine lv_topi (fun x25 ex25 => ?_)
                    refine lv_if_eq (tgt := 94) hx hb dX6_pass_88 (by decide) (fun c26 => ?_) (fun c26 => ?_)
                    · refine lv_aload_n hx hb dX6_pass_94 rfl (lv_at hl 3 rfl) ?_
                      refine rs_Model_left (b := w 14) F hK hP (hr2.1.1.1 0 (by decide)) ((hr2.1.2.1 14 (by decide) (by decide)).1) kw_81 dX6_pass_95 ?_
                      refine lv_iload hx hb dX6_pass_98 (lv_at hl 0 rfl) ?_
                      refine lv_dup2_11 hx hb dX6_pass_100 rfl rfl ?_
                      refine rd_I F hK hP (hr2.1.1.1 14 (by decide)) (by rw [show pN S2 (w 14) = 2 from (hr2.1.2.1 14 (by decide) (by decide)).2]; exact vp_in_nI (n := 1) (by decide) (by decide)) dX6_pass_101 ?_
                      refine lv_topi (fun x27 ex27 => ?_)
                      refine lv_iconst (v := 1) hx hb dX6_pass_102 (by decide) ?_
                      refine lv_isub hx hb dX6_pass_103 ?_
                      refine lv_topi (fun x28 ex28 => ?_)
                      refine rt_I F hK hP hD hS (hr2.1.1.1 14 (by decide)) (by rw [show pN S2 (w 14) = 2 from (hr2.1.2.1 14 (by decide) (by decide)).2]; exact vp_in_nI (n := 1) (by decide) (by decide)) dX6_pass_104 (fun H locs hP hD hS => ?_)
                      refine lv_aload_n hx hb dX6_pass_105 rfl (lv_at hl 3 rfl) ?_
                      refine rs_Model_left (b := w 14) F hK hP (hr2.1.1.1 0 (by decide)) ((hr2.1.2.1 14 (by decide) (by decide)).1) kw_81 dX6_pass_106 ?_
                      refine lv_iload hx hb dX6_pass_109 (lv_at hl 0 rfl) ?_
                      refine rd_I F hK hP (hr2.1.1.1 14 (by decide)) (by rw [show pN (setX S2 (w 14) (upd (pX S2 (w 14)) (1 : Int32).toNatClampNeg x28)) (w 14) = 2 from (hr2.1.2.1 14 (by decide) (by decide)).2]; exact vp_in_nI (n := 1) (by decide) (by decide)) dX6_pass_111 ?_
                      refine lv_topi (fun x29 ex29 => ?_)
                      refine lv_if_le (tgt := 118) hx hb dX6_pass_112 (by decide) (fun c30 => ?_) (fun c30 => ?_)
                      · refine lv_iload_n hx hb dX6_pass_118 rfl (lv_at hl 2 rfl) ?_
                        refine lv_aload_n hx hb dX6_pass_119 rfl (lv_at hl 3 rfl) ?_
                        refine lv_aload_n hx hb dX6_pass_120 rfl (lv_at hl 3 rfl) ?_
                        refine rs_Model_goal (b := w 15) F hK hP (hr2.1.1.1 0 (by decide)) ((hr2.1.2.1 15 (by decide) (by decide)).1) kw_82 dX6_pass_121 ?_
                        refine lv_iload hx hb dX6_pass_124 (lv_at hl 0 rfl) ?_
                        refine rd_I F hK hP (hr2.1.1.1 15 (by decide)) (by rw [show pN (setX S2 (w 14) (upd (pX S2 (w 14)) (1 : Int32).toNatClampNeg x28)) (w 15) = 2 from (hr2.1.2.1 15 (by decide) (by decide)).2]; exact vp_in_nI (n := 1) (by decide) (by decide)) dX6_pass_126 ?_
                        refine lv_topi (fun x31 ex31 => ?_)
                        obtain ⟨jv32, hjv32, hxv32⟩ : ∃ q, q < 6 ∧ x31 = nI q := by rw [ex31]; exact (Mk.x (i := 14) (Mk.rf hr2.1) (by decide) (by decide) (by decide)).1.1.2.2.2.2.2.1 _
                        refine lv_aload_n hx hb dX6_pass_127 rfl (lv_at hl 3 rfl) ?_
                        refine rs_Model_load (b := w 13) F hK hP (hr2.1.1.1 0 (by decide)) ((hr2.1.2.1 13 (by decide) (by decide)).1) kw_80 dX6_pass_128 ?_
                        refine lv_iload hx hb dX6_pass_131 (lv_at hl 0 rfl) ?_
                        refine rd_I F hK hP (hr2.1.1.1 13 (by decide)) (by rw [show pN (setX S2 (w 14) (upd (pX S2 (w 14)) (1 : Int32).toNatClampNeg x28)) (w 13) = 2 from (hr2.1.2.1 13 (by decide) (by decide)).2]; exact vp_in_nI (n := 1) (by decide) (by decide)) dX6_pass_133 ?_
                        refine lv_topi (fun x33 ex33 => ?_)
                        refine kcallI (kV (n := 2) (As := [.int x31, .int x33]) (rest := [.int br]) (b := (w 0)) (C := RX6) F hE hK hP hD hS hA (c_X6_shelves l hl0 g e0 w (setX S2 (w 14) (upd (pX S2 (w 14)) (1 : Int32).toNatClampNeg x28)) _ ((Mk.x (i := 14) (Mk.rf hr2.1) (by decide) (by decide) (by decide)).1.1) x31 x33 jv32 hjv32 hxv32) (rr_Model hK hP (hr2.1.1.1 0 (by decide))) kw_384 kw_385 kw_386 kw_5 kw_387 (by decide +kernel) ⟨Nat.le_of_ble_eq_true rfl, Nat.le_of_ble_eq_true rfl⟩ rfl hl.1 rfl (Nat.le_of_ble_eq_true rfl) dX6_pass_134 ⟨Nat.le_of_ble_eq_true rfl, Nat.le_of_ble_eq_true rfl⟩) rfl hD hS hA (fun _ _ _ _ _ h => False.elim h) (fun r34 T34 H locs hp hP hD hS => ?_)
                        obtain ⟨k35, s35⟩ := hp
                        have K35 : Mk w S2 T34 := (Mk.x (i := 14) (Mk.rf hr2.1) (by decide) (by decide) (by decide)).trans k35
                        have z35 : pF T34 106 (w 0) = pF S 106 (w 0) := s35.trans g106
                        refine lv_iadd hx hb dX6_pass_137 ?_
                        refine lv_topi (fun x36 ex36 => ?_)
                        refine lv_istore_n (lv' := [(2, .int x36), (4, .int 1), (3, .int xi), (0, .ref (w 0)), (1, .int n)]) hx hb dX6_pass_138 rfl hl (by decide) rfl (fun ls hl => ?_)
                        refine lv_aload_n hx hb dX6_pass_139 rfl (lv_at hl 3 rfl) ?_
                        refine rs_Model_load (b := w 13) F hK hP (K35.1.1.1.1 0 (by decide)) ((K35.1.1.2.1 13 (by decide) (by decide)).1) kw_80 dX6_pass_140 ?_
                        refine lv_iload hx hb dX6_pass_143 (lv_at hl 1 rfl) ?_
                        refine lv_iconst (v := 0) hx hb dX6_pass_145 (by decide) ?_
                        refine rt_I F hK hP hD hS (K35.1.1.1.1 13 (by decide)) (by rw [show pN T34 (w 13) = 2 from (K35.1.1.2.1 13 (by decide) (by decide)).2]; exact vp_in_nI (n := 1) (by decide) (by decide)) dX6_pass_146 (fun H locs hP hD hS => ?_)
                        refine lv_iinc (v := 2) (lv' := [(4, .int 2), (2, .int x36), (3, .int xi), (0, .ref (w 0)), (1, .int n)]) hx hb dX6_pass_147 hl (k := 1) rfl (by decide) (by decide) rfl (fun ls hl => ?_)
                        refine lv_goto (tgt := 55) hx hb dX6_pass_150 (by decide) ?_
                        refine lv_iload hx hb dX6_pass_55 (lv_at hl 0 rfl) ?_
                        refine lv_iconst (v := 2) hx hb dX6_pass_57 (by decide) ?_
                        refine lv_icmp_ge (tgt := 153) hx hb dX6_pass_58 (by decide) (fun c37 => ?_) (fun c37 => ?_)
                        · obtain ⟨x38, ex38⟩ : ∃ y : Int32, y = xi + 1 := ⟨_, rfl⟩
                          refine lv_iinc (v := x38) (lv' := [(3, .int x38), (4, .int 2), (2, .int x36), (0, .ref (w 0)), (1, .int n)]) hx hb dX6_pass_153 hl (k := 2) rfl (by rw [ex38]; rfl) (by decide) rfl (fun ls hl => ?_)
                          refine lv_goto (tgt := 37) hx hb dX6_pass_156 (by decide) ?_
                          exact ih _ (i + 1) x38 x36 H locs ls hP hD hS (lv_sub hl [0, 2, 3, 4] rfl) (by omega) (by rw [ex38, hi]; exact nI_1 i) hlt (Mk.x (i := 13) K35 (by decide) (by decide) (by decide)).1.1 (hr2.trans (Mk.x (i := 13) K35 (by decide) (by decide) (by decide)).1) ((Mk.x (i := 13) K35 (by decide) (by decide) (by decide)).2.1.trans g100) z35 (fun a b => absurd (show x17 = 0 from ex17.trans ((congrFun (congrFun hx2 (w 13)) _).trans ((hid a b).2 1 (by decide)))) c18)
                        · exact absurd (by decide) c37
                      · refine lv_goto (tgt := 147) hx hb dX6_pass_115 (by decide) ?_
                        refine lv_iinc (v := 2) (lv' := [(4, .int 2), (3, .int xi), (2, .int br), (0, .ref (w 0)), (1, .int n)]) hx hb dX6_pass_147 hl (k := 0) rfl (by decide) (by decide) rfl (fun ls hl => ?_)
                        refine lv_goto (tgt := 55) hx hb dX6_pass_150 (by decide) ?_
                        refine lv_iload hx hb dX6_pass_55 (lv_at hl 0 rfl) ?_
                        refine lv_iconst (v := 2) hx hb dX6_pass_57 (by decide) ?_
                        refine lv_icmp_ge (tgt := 153) hx hb dX6_pass_58 (by decide) (fun c39 => ?_) (fun c39 => ?_)
                        · obtain ⟨x40, ex40⟩ : ∃ y : Int32, y = xi + 1 := ⟨_, rfl⟩
                          refine lv_iinc (v := x40) (lv' := [(3, .int x40), (4, .int 2), (2, .int br), (0, .ref (w 0)), (1, .int n)]) hx hb dX6_pass_153 hl (k := 1) rfl (by rw [ex40]; rfl) (by decide) rfl (fun ls hl => ?_)
                          refine lv_goto (tgt := 37) hx hb dX6_pass_156 (by decide) ?_
                          exact ih _ (i + 1) x40 br H locs ls hP hD hS (lv_sub hl [0, 2, 3, 4] rfl) (by omega) (by rw [ex40, hi]; exact nI_1 i) hlt (Mk.x (i := 14) (Mk.rf hr2.1) (by decide) (by decide) (by decide)).1.1 (hr2.trans (Mk.x (i := 14) (Mk.rf hr2.1) (by decide) (by decide) (by decide)).1) ((Mk.x (i := 14) (Mk.rf hr2.1) (by decide) (by decide) (by decide)).2.1.trans g100) g106 (fun a b => absurd (show x17 = 0 from ex17.trans ((congrFun (congrFun hx2 (w 13)) _).trans ((hid a b).2 1 (by decide)))) c18)
                        · exact absurd (by decide) c39
                    · refine lv_goto (tgt := 147) hx hb dX6_pass_91 (by decide) ?_
                      refine lv_iinc (v := 2) (lv' := [(4, .int 2), (3, .int xi), (2, .int br), (0, .ref (w 0)), (1, .int n)]) hx hb dX6_pass_147 hl (k := 0) rfl (by decide) (by decide) rfl (fun ls hl => ?_)
                      refine lv_goto (tgt := 55) hx hb dX6_pass_150 (by decide) ?_
                      refine lv_iload hx hb dX6_pass_55 (lv_at hl 0 rfl) ?_
                      refine lv_iconst (v := 2) hx hb dX6_pass_57 (by decide) ?_
                      refine lv_icmp_ge (tgt := 153) hx hb dX6_pass_58 (by decide) (fun c41 => ?_) (fun c41 => ?_)
                      · obtain ⟨x42, ex42⟩ : ∃ y : Int32, y = xi + 1 := ⟨_, rfl⟩
                        refine lv_iinc (v := x42) (lv' := [(3, .int x42), (4, .int 2), (2, .int br), (0, .ref (w 0)), (1, .int n)]) hx hb dX6_pass_153 hl (k := 1) rfl (by rw [ex42]; rfl) (by decide) rfl (fun ls hl => ?_)
                        refine lv_goto (tgt := 37) hx hb dX6_pass_156 (by decide) ?_
                        exact ih _ (i + 1) x42 br H locs ls hP hD hS (lv_sub hl [0, 2, 3, 4] rfl) (by omega) (by rw [ex42, hi]; exact nI_1 i) hlt hr2.1 hr2 g100 g106 (fun a b => absurd (show x17 = 0 from ex17.trans ((congrFun (congrFun hx2 (w 13)) _).trans ((hid a b).2 1 (by decide)))) c18)
                      · exact absurd (by decide) c41
              · refine lv_aload_n hx hb dX6_pass_71 rfl (lv_at hl 3 rfl) ?_
                refine rs_Model_isBlocked (b := w 10) F hK hP (hr2.1.1.1 0 (by decide)) ((hr2.1.2.1 10 (by decide) (by decide)).1) kw_77 dX6_pass_72 ?_
                refine lv_aload_n hx hb dX6_pass_75 rfl (lv_at hl 3 rfl) ?_
                refine rs_Model_aisle (b := w 1) F hK hP (hr2.1.1.1 0 (by decide)) ((hr2.1.2.1 1 (by decide) (by decide)).1) kw_67 dX6_pass_76 ?_
                refine lv_aload_n hx hb dX6_pass_79 rfl (lv_at hl 3 rfl) ?_
                refine rs_Model_goal (b := w 15) F hK hP (hr2.1.1.1 0 (by decide)) ((hr2.1.2.1 15 (by decide) (by decide)).1) kw_82 dX6_pass_80 ?_
                refine lv_iload hx hb dX6_pass_83 (lv_at hl 0 rfl) ?_
                refine rd_I F hK hP (hr2.1.1.1 15 (by decide)) (by rw [show pN S2 (w 15) = 2 from (hr2.1.2.1 15 (by decide) (by decide)).2]; exact vp_in_nI (n := 0) (by decide) (by decide)) dX6_pass_85 ?_
                refine lv_topi (fun x43 ex43 => ?_)
                obtain ⟨jv44, hjv44, hxv44⟩ : ∃ q, q < 6 ∧ x43 = nI q := by rw [ex43]; exact hr2.1.2.2.2.2.2.1 _
                refine rd_I F hK hP (hr2.1.1.1 1 (by decide)) (by rw [show pN S2 (w 1) = 6 from (hr2.1.2.1 1 (by decide) (by decide)).2, hxv44]; exact vp_in_nI (by omega) (by decide)) dX6_pass_86 ?_
                refine lv_topi (fun x45 ex45 => ?_)
                obtain ⟨jv46, hjv46, hxv46⟩ : ∃ q, q < 4 ∧ x45 = nI q := by rw [ex45]; exact hr2.1.2.2.2.1 _
                refine rd_Z F hK hP (hr2.1.1.1 10 (by decide)) (by rw [show pN S2 (w 10) = 4 from (hr2.1.2.1 10 (by decide) (by decide)).2, hxv46]; exact vp_in_nI (by omega) (by decide)) dX6_pass_87 ?_
                refine lv_topi (fun x47 ex47 => ?_)
                refine lv_if_eq (tgt := 94) hx hb dX6_pass_88 (by decide) (fun c48 => ?_) (fun c48 => ?_)
                · refine lv_aload_n hx hb dX6_pass_94 rfl (lv_at hl 3 rfl) ?_
                  refine rs_Model_left (b := w 14) F hK hP (hr2.1.1.1 0 (by decide)) ((hr2.1.2.1 14 (by decide) (by decide)).1) kw_81 dX6_pass_95 ?_
                  refine lv_iload hx hb dX6_pass_98 (lv_at hl 0 rfl) ?_
                  refine lv_dup2_11 hx hb dX6_pass_100 rfl rfl ?_
                  refine rd_I F hK hP (hr2.1.1.1 14 (by decide)) (by rw [show pN S2 (w 14) = 2 from (hr2.1.2.1 14 (by decide) (by decide)).2]; exact vp_in_nI (n := 0) (by decide) (by decide)) dX6_pass_101 ?_
                  refine lv_topi (fun x49 ex49 => ?_)
                  refine lv_iconst (v := 1) hx hb dX6_pass_102 (by decide) ?_
                  refine lv_isub hx hb dX6_pass_103 ?_
                  refine lv_topi (fun x50 ex50 => ?_)
                  refine rt_I F hK hP hD hS (hr2.1.1.1 14 (by decide)) (by rw [show pN S2 (w 14) = 2 from (hr2.1.2.1 14 (by decide) (by decide)).2]; exact vp_in_nI (n := 0) (by decide) (by decide)) dX6_pass_104 (fun H locs hP hD hS => ?_)
                  refine lv_aload_n hx hb dX6_pass_105 rfl (lv_at hl 3 rfl) ?_
                  refine rs_Model_left (b := w 14) F hK hP (hr2.1.1.1 0 (by decide)) ((hr2.1.2.1 14 (by decide) (by decide)).1) kw_81 dX6_pass_106 ?_
                  refine lv_iload hx hb dX6_pass_109 (lv_at hl 0 rfl) ?_
                  refine rd_I F hK hP (hr2.1.1.1 14 (by decide)) (by rw [show pN (setX S2 (w 14) (upd (pX S2 (w 14)) (0 : Int32).toNatClampNeg x50)) (w 14) = 2 from (hr2.1.2.1 14 (by decide) (by decide)).2]; exact vp_in_nI (n := 0) (by decide) (by decide)) dX6_pass_111 ?_
                  refine lv_topi (fun x51 ex51 => ?_)
                  refine lv_if_le (tgt := 118) hx hb dX6_pass_112 (by decide) (fun c52 => ?_) (fun c52 => ?_)
                  · refine lv_iload_n hx hb dX6_pass_118 rfl (lv_at hl 2 rfl) ?_
                    refine lv_aload_n hx hb dX6_pass_119 rfl (lv_at hl 3 rfl) ?_
                    refine lv_aload_n hx hb dX6_pass_120 rfl (lv_at hl 3 rfl) ?_
                    refine rs_Model_goal (b := w 15) F hK hP (hr2.1.1.1 0 (by decide)) ((hr2.1.2.1 15 (by decide) (by decide)).1) kw_82 dX6_pass_121 ?_
                    refine lv_iload hx hb dX6_pass_124 (lv_at hl 0 rfl) ?_
                    refine rd_I F hK hP (hr2.1.1.1 15 (by decide)) (by rw [show pN (setX S2 (w 14) (upd (pX S2 (w 14)) (0 : Int32).toNatClampNeg x50)) (w 15) = 2 from (hr2.1.2.1 15 (by decide) (by decide)).2]; exact vp_in_nI (n := 0) (by decide) (by decide)) dX6_pass_126 ?_
                    refine lv_topi (fun x53 ex53 => ?_)
                    obtain ⟨jv54, hjv54, hxv54⟩ : ∃ q, q < 6 ∧ x53 = nI q := by rw [ex53]; exact (Mk.x (i := 14) (Mk.rf hr2.1) (by decide) (by decide) (by decide)).1.1.2.2.2.2.2.1 _
                    refine lv_aload_n hx hb dX6_pass_127 rfl (lv_at hl 3 rfl) ?_
                    refine rs_Model_load (b := w 13) F hK hP (hr2.1.1.1 0 (by decide)) ((hr2.1.2.1 13 (by decide) (by decide)).1) kw_80 dX6_pass_128 ?_
                    refine lv_iload hx hb dX6_pass_131 (lv_at hl 0 rfl) ?_
                    refine rd_I F hK hP (hr2.1.1.1 13 (by decide)) (by rw [show pN (setX S2 (w 14) (upd (pX S2 (w 14)) (0 : Int32).toNatClampNeg x50)) (w 13) = 2 from (hr2.1.2.1 13 (by decide) (by decide)).2]; exact vp_in_nI (n := 0) (by decide) (by decide)) dX6_pass_133 ?_
                    refine lv_topi (fun x55 ex55 => ?_)
                    refine kcallI (kV (n := 2) (As := [.int x53, .int x55]) (rest := [.int br]) (b := (w 0)) (C := RX6) F hE hK hP hD hS hA (c_X6_shelves l hl0 g e0 w (setX S2 (w 14) (upd (pX S2 (w 14)) (0 : Int32).toNatClampNeg x50)) _ ((Mk.x (i := 14) (Mk.rf hr2.1) (by decide) (by decide) (by decide)).1.1) x53 x55 jv54 hjv54 hxv54) (rr_Model hK hP (hr2.1.1.1 0 (by decide))) kw_384 kw_385 kw_386 kw_5 kw_387 (by decide +kernel) ⟨Nat.le_of_ble_eq_true rfl, Nat.le_of_ble_eq_true rfl⟩ rfl hl.1 rfl (Nat.le_of_ble_eq_true rfl) dX6_pass_134 ⟨Nat.le_of_ble_eq_true rfl, Nat.le_of_ble_eq_true rfl⟩) rfl hD hS hA (fun _ _ _ _ _ h => False.elim h) (fun r56 T56 H locs hp hP hD hS => ?_)
                    obtain ⟨k57, s57⟩ := hp
                    have K57 : Mk w S2 T56 := (Mk.x (i := 14) (Mk.rf hr2.1) (by decide) (by decide) (by decide)).trans k57
                    have z57 : pF T56 106 (w 0) = pF S 106 (w 0) := s57.trans g106
                    refine lv_iadd hx hb dX6_pass_137 ?_
                    refine lv_topi (fun x58 ex58 => ?_)
                    refine lv_istore_n (lv' := [(2, .int x58), (4, .int 0), (3, .int xi), (0, .ref (w 0)), (1, .int n)]) hx hb dX6_pass_138 rfl hl (by decide) rfl (fun ls hl => ?_)
                    refine lv_aload_n hx hb dX6_pass_139 rfl (lv_at hl 3 rfl) ?_
                    refine rs_Model_load (b := w 13) F hK hP (K57.1.1.1.1 0 (by decide)) ((K57.1.1.2.1 13 (by decide) (by decide)).1) kw_80 dX6_pass_140 ?_
                    refine lv_iload hx hb dX6_pass_143 (lv_at hl 1 rfl) ?_
                    refine lv_iconst (v := 0) hx hb dX6_pass_145 (by decide) ?_
                    refine rt_I F hK hP hD hS (K57.1.1.1.1 13 (by decide)) (by rw [show pN T56 (w 13) = 2 from (K57.1.1.2.1 13 (by decide) (by decide)).2]; exact vp_in_nI (n := 0) (by decide) (by decide)) dX6_pass_146 (fun H locs hP hD hS => ?_)
                    refine lv_iinc (v := 1) (lv' := [(4, .int 1), (2, .int x58), (3, .int xi), (0, .ref (w 0)), (1, .int n)]) hx hb dX6_pass_147 hl (k := 1) rfl (by decide) (by decide) rfl (fun ls hl => ?_)
                    refine lv_goto (tgt := 55) hx hb dX6_pass_150 (by decide) ?_
                    refine lv_iload hx hb dX6_pass_55 (lv_at hl 0 rfl) ?_
                    refine lv_iconst (v := 2) hx hb dX6_pass_57 (by decide) ?_
                    refine lv_icmp_ge (tgt := 153) hx hb dX6_pass_58 (by decide) (fun c59 => ?_) (fun c59 => ?_)
                    · exact absurd c59 (by decide)
                    · refine lv_aload_n hx hb dX6_pass_61 rfl (lv_at hl 3 rfl) ?_
                      refine rs_Model_load (b := w 13) F hK hP (K57.1.1.1.1 0 (by decide)) ((K57.1.1.2.1 13 (by decide) (by decide)).1) kw_80 dX6_pass_62 ?_
                      refine lv_iload hx hb dX6_pass_65 (lv_at hl 0 rfl) ?_
                      refine rd_I F hK hP (K57.1.1.1.1 13 (by decide)) (by rw [show pN (setX T56 (w 13) (upd (pX T56 (w 13)) (0 : Int32).toNatClampNeg 0)) (w 13) = 2 from (K57.1.1.2.1 13 (by decide) (by decide)).2]; exact vp_in_nI (n := 1) (by decide) (by decide)) dX6_pass_67 ?_
                      refine lv_topi (fun x60 ex60 => ?_)
                      refine lv_if_eq (tgt := 147) hx hb dX6_pass_68 (by decide) (fun c61 => ?_) (fun c61 => ?_)
                      · refine lv_iinc (v := 2) (lv' := [(4, .int 2), (2, .int x58), (3, .int xi), (0, .ref (w 0)), (1, .int n)]) hx hb dX6_pass_147 hl (k := 0) rfl (by decide) (by decide) rfl (fun ls hl => ?_)
                        refine lv_goto (tgt := 55) hx hb dX6_pass_150 (by decide) ?_
                        refine lv_iload hx hb dX6_pass_55 (lv_at hl 0 rfl) ?_
                        refine lv_iconst (v := 2) hx hb dX6_pass_57 (by decide) ?_
                        refine lv_icmp_ge (tgt := 153) hx hb dX6_pass_58 (by decide) (fun c62 => ?_) (fun c62 => ?_)
                        · obtain ⟨x63, ex63⟩ : ∃ y : Int32, y = xi + 1 := ⟨_, rfl⟩
                          refine lv_iinc (v := x63) (lv' := [(3, .int x63), (4, .int 2), (2, .int x58), (0, .ref (w 0)), (1, .int n)]) hx hb dX6_pass_153 hl (k := 2) rfl (by rw [ex63]; rfl) (by decide) rfl (fun ls hl => ?_)
                          refine lv_goto (tgt := 37) hx hb dX6_pass_156 (by decide) ?_
                          exact ih _ (i + 1) x63 x58 H locs ls hP hD hS (lv_sub hl [0, 2, 3, 4] rfl) (by omega) (by rw [ex63, hi]; exact nI_1 i) hlt (Mk.x (i := 13) K57 (by decide) (by decide) (by decide)).1.1 (hr2.trans (Mk.x (i := 13) K57 (by decide) (by decide) (by decide)).1) ((Mk.x (i := 13) K57 (by decide) (by decide) (by decide)).2.1.trans g100) z57 (fun a b => absurd (show x14 = 0 from ex14.trans ((congrFun (congrFun hx2 (w 13)) _).trans ((hid a b).2 0 (by decide)))) c15)
                        · exact absurd (by decide) c62
                      · refine lv_aload_n hx hb dX6_pass_71 rfl (lv_at hl 3 rfl) ?_
                        refine rs_Model_isBlocked (b := w 10) F hK hP (K57.1.1.1.1 0 (by decide)) ((K57.1.1.2.1 10 (by decide) (by decide)).1) kw_77 dX6_pass_72 ?_
                        refine lv_aload_n hx hb dX6_pass_75 rfl (lv_at hl 3 rfl) ?_
                        refine rs_Model_aisle (b := w 1) F hK hP (K57.1.1.1.1 0 (by decide)) ((K57.1.1.2.1 1 (by decide) (by decide)).1) kw_67 dX6_pass_76 ?_
                        refine lv_aload_n hx hb dX6_pass_79 rfl (lv_at hl 3 rfl) ?_
                        refine rs_Model_goal (b := w 15) F hK hP (K57.1.1.1.1 0 (by decide)) ((K57.1.1.2.1 15 (by decide) (by decide)).1) kw_82 dX6_pass_80 ?_
                        refine lv_iload hx hb dX6_pass_83 (lv_at hl 0 rfl) ?_
                        refine rd_I F hK hP (K57.1.1.1.1 15 (by decide)) (by rw [show pN (setX T56 (w 13) (upd (pX T56 (w 13)) (0 : Int32).toNatClampNeg 0)) (w 15) = 2 from (K57.1.1.2.1 15 (by decide) (by decide)).2]; exact vp_in_nI (n := 1) (by decide) (by decide)) dX6_pass_85 ?_
                        refine lv_topi (fun x64 ex64 => ?_)
                        obtain ⟨jv65, hjv65, hxv65⟩ : ∃ q, q < 6 ∧ x64 = nI q := by rw [ex64]; exact (Mk.x (i := 13) K57 (by decide) (by decide) (by decide)).1.1.2.2.2.2.2.1 _
                        refine rd_I F hK hP (K57.1.1.1.1 1 (by decide)) (by rw [show pN (setX T56 (w 13) (upd (pX T56 (w 13)) (0 : Int32).toNatClampNeg 0)) (w 1) = 6 from (K57.1.1.2.1 1 (by decide) (by decide)).2, hxv65]; exact vp_in_nI (by omega) (by decide)) dX6_pass_86 ?_
                        refine lv_topi (fun x66 ex66 => ?_)
                        obtain ⟨jv67, hjv67, hxv67⟩ : ∃ q, q < 4 ∧ x66 = nI q := by rw [ex66]; exact (Mk.x (i := 13) K57 (by decide) (by decide) (by decide)).1.1.2.2.2.1 _
                        refine rd_Z F hK hP (K57.1.1.1.1 10 (by decide)) (by rw [show pN (setX T56 (w 13) (upd (pX T56 (w 13)) (0 : Int32).toNatClampNeg 0)) (w 10) = 4 from (K57.1.1.2.1 10 (by decide) (by decide)).2, hxv67]; exact vp_in_nI (by omega) (by decide)) dX6_pass_87 ?_
                        refine lv_topi (fun x68 ex68 => ?_)
                        refine lv_if_eq (tgt := 94) hx hb dX6_pass_88 (by decide) (fun c69 => ?_) (fun c69 => ?_)
                        · refine lv_aload_n hx hb dX6_pass_94 rfl (lv_at hl 3 rfl) ?_
                          refine rs_Model_left (b := w 14) F hK hP (K57.1.1.1.1 0 (by decide)) ((K57.1.1.2.1 14 (by decide) (by decide)).1) kw_81 dX6_pass_95 ?_
                          refine lv_iload hx hb dX6_pass_98 (lv_at hl 0 rfl) ?_
                          refine lv_dup2_11 hx hb dX6_pass_100 rfl rfl ?_
                          refine rd_I F hK hP (K57.1.1.1.1 14 (by decide)) (by rw [show pN (setX T56 (w 13) (upd (pX T56 (w 13)) (0 : Int32).toNatClampNeg 0)) (w 14) = 2 from (K57.1.1.2.1 14 (by decide) (by decide)).2]; exact vp_in_nI (n := 1) (by decide) (by decide)) dX6_pass_101 ?_
                          refine lv_topi (fun x70 ex70 => ?_)
                          refine lv_iconst (v := 1) hx hb dX6_pass_102 (by decide) ?_
                          refine lv_isub hx hb dX6_pass_103 ?_
                          refine lv_topi (fun x71 ex71 => ?_)
                          refine rt_I F hK hP hD hS (K57.1.1.1.1 14 (by decide)) (by rw [show pN (setX T56 (w 13) (upd (pX T56 (w 13)) (0 : Int32).toNatClampNeg 0)) (w 14) = 2 from (K57.1.1.2.1 14 (by decide) (by decide)).2]; exact vp_in_nI (n := 1) (by decide) (by decide)) dX6_pass_104 (fun H locs hP hD hS => ?_)
                          refine lv_aload_n hx hb dX6_pass_105 rfl (lv_at hl 3 rfl) ?_
                          refine rs_Model_left (b := w 14) F hK hP (K57.1.1.1.1 0 (by decide)) ((K57.1.1.2.1 14 (by decide) (by decide)).1) kw_81 dX6_pass_106 ?_
                          refine lv_iload hx hb dX6_pass_109 (lv_at hl 0 rfl) ?_
                          refine rd_I F hK hP (K57.1.1.1.1 14 (by decide)) (by rw [show pN (setX (setX T56 (w 13) (upd (pX T56 (w 13)) (0 : Int32).toNatClampNeg 0)) (w 14) (upd (pX (setX T56 (w 13) (upd (pX T56 (w 13)) (0 : Int32).toNatClampNeg 0)) (w 14)) (1 : Int32).toNatClampNeg x71)) (w 14) = 2 from (K57.1.1.2.1 14 (by decide) (by decide)).2]; exact vp_in_nI (n := 1) (by decide) (by decide)) dX6_pass_111 ?_
                          refine lv_topi (fun x72 ex72 => ?_)
                          refine lv_if_le (tgt := 118) hx hb dX6_pass_112 (by decide) (fun c73 => ?_) (fun c73 => ?_)
                          · refine lv_iload_n hx hb dX6_pass_118 rfl (lv_at hl 1 rfl) ?_
                            refine lv_aload_n hx hb dX6_pass_119 rfl (lv_at hl 3 rfl) ?_
                            refine lv_aload_n hx hb dX6_pass_120 rfl (lv_at hl 3 rfl) ?_
                            refine rs_Model_goal (b := w 15) F hK hP (K57.1.1.1.1 0 (by decide)) ((K57.1.1.2.1 15 (by decide) (by decide)).1) kw_82 dX6_pass_121 ?_
                            refine lv_iload hx hb dX6_pass_124 (lv_at hl 0 rfl) ?_
                            refine rd_I F hK hP (K57.1.1.1.1 15 (by decide)) (by rw [show pN (setX (setX T56 (w 13) (upd (pX T56 (w 13)) (0 : Int32).toNatClampNeg 0)) (w 14) (upd (pX (setX T56 (w 13) (upd (pX T56 (w 13)) (0 : Int32).toNatClampNeg 0)) (w 14)) (1 : Int32).toNatClampNeg x71)) (w 15) = 2 from (K57.1.1.2.1 15 (by decide) (by decide)).2]; exact vp_in_nI (n := 1) (by decide) (by decide)) dX6_pass_126 ?_
                            refine lv_topi (fun x74 ex74 => ?_)
                            obtain ⟨jv75, hjv75, hxv75⟩ : ∃ q, q < 6 ∧ x74 = nI q := by rw [ex74]; exact (Mk.x (i := 14) (Mk.x (i := 13) K57 (by decide) (by decide) (by decide)) (by decide) (by decide) (by decide)).1.1.2.2.2.2.2.1 _
                            refine lv_aload_n hx hb dX6_pass_127 rfl (lv_at hl 3 rfl) ?_
                            refine rs_Model_load (b := w 13) F hK hP (K57.1.1.1.1 0 (by decide)) ((K57.1.1.2.1 13 (by decide) (by decide)).1) kw_80 dX6_pass_128 ?_
                            refine lv_iload hx hb dX6_pass_131 (lv_at hl 0 rfl) ?_
                            refine rd_I F hK hP (K57.1.1.1.1 13 (by decide)) (by rw [show pN (setX (setX T56 (w 13) (upd (pX T56 (w 13)) (0 : Int32).toNatClampNeg 0)) (w 14) (upd (pX (setX T56 (w 13) (upd (pX T56 (w 13)) (0 : Int32).toNatClampNeg 0)) (w 14)) (1 : Int32).toNatClampNeg x71)) (w 13) = 2 from (K57.1.1.2.1 13 (by decide) (by decide)).2]; exact vp_in_nI (n := 1) (by decide) (by decide)) dX6_pass_133 ?_
                            refine lv_topi (fun x76 ex76 => ?_)
                            refine kcallI (kV (n := 2) (As := [.int x74, .int x76]) (rest := [.int x58]) (b := (w 0)) (C := RX6) F hE hK hP hD hS hA (c_X6_shelves l hl0 g e0 w (setX (setX T56 (w 13) (upd (pX T56 (w 13)) (0 : Int32).toNatClampNeg 0)) (w 14) (upd (pX (setX T56 (w 13) (upd (pX T56 (w 13)) (0 : Int32).toNatClampNeg 0)) (w 14)) (1 : Int32).toNatClampNeg x71)) _ ((Mk.x (i := 14) (Mk.x (i := 13) K57 (by decide) (by decide) (by decide)) (by decide) (by decide) (by decide)).1.1) x74 x76 jv75 hjv75 hxv75) (rr_Model hK hP (K57.1.1.1.1 0 (by decide))) kw_384 kw_385 kw_386 kw_5 kw_387 (by decide +kernel) ⟨Nat.le_of_ble_eq_true rfl, Nat.le_of_ble_eq_true rfl⟩ rfl hl.1 rfl (Nat.le_of_ble_eq_true rfl) dX6_pass_134 ⟨Nat.le_of_ble_eq_true rfl, Nat.le_of_ble_eq_true rfl⟩) rfl hD hS hA (fun _ _ _ _ _ h => False.elim h) (fun r77 T77 H locs hp hP hD hS => ?_)
                            obtain ⟨k78, s78⟩ := hp
                            have K78 : Mk w S2 T77 := (Mk.x (i := 14) (Mk.x (i := 13) K57 (by decide) (by decide) (by decide)) (by decide) (by decide) (by decide)).trans k78
                            have z78 : pF T77 106 (w 0) = pF S 106 (w 0) := s78.trans z57
                            refine lv_iadd hx hb dX6_pass_137 ?_
                            refine lv_topi (fun x79 ex79 => ?_)
                            refine lv_istore_n (lv' := [(2, .int x79), (4, .int 1), (3, .int xi), (0, .ref (w 0)), (1, .int n)]) hx hb dX6_pass_138 rfl hl (by decide) rfl (fun ls hl => ?_)
                            refine lv_aload_n hx hb dX6_pass_139 rfl (lv_at hl 3 rfl) ?_
                            refine rs_Model_load (b := w 13) F hK hP (K78.1.1.1.1 0 (by decide)) ((K78.1.1.2.1 13 (by decide) (by decide)).1) kw_80 dX6_pass_140 ?_
                            refine lv_iload hx hb dX6_pass_143 (lv_at hl 1 rfl) ?_
                            refine lv_iconst (v := 0) hx hb dX6_pass_145 (by decide) ?_
                            refine rt_I F hK hP hD hS (K78.1.1.1.1 13 (by decide)) (by rw [show pN T77 (w 13) = 2 from (K78.1.1.2.1 13 (by decide) (by decide)).2]; exact vp_in_nI (n := 1) (by decide) (by decide)) dX6_pass_146 (fun H locs hP hD hS => ?_)
                            refine lv_iinc (v := 2) (lv' := [(4, .int 2), (2, .int x79), (3, .int xi), (0, .ref (w 0)), (1, .int n)]) hx hb dX6_pass_147 hl (k := 1) rfl (by decide) (by decide) rfl (fun ls hl => ?_)
                            refine lv_goto (tgt := 55) hx hb dX6_pass_150 (by decide) ?_
                            refine lv_iload hx hb dX6_pass_55 (lv_at hl 0 rfl) ?_
                            refine lv_iconst (v := 2) hx hb dX6_pass_57 (by decide) ?_
                            refine lv_icmp_ge (tgt := 153) hx hb dX6_pass_58 (by decide) (fun c80 => ?_) (fun c80 => ?_)
                            · obtain ⟨x81, ex81⟩ : ∃ y : Int32, y = xi + 1 := ⟨_, rfl⟩
                              refine lv_iinc (v := x81) (lv' := [(3, .int x81), (4, .int 2), (2, .int x79), (0, .ref (w 0)), (1, .int n)]) hx hb dX6_pass_153 hl (k := 2) rfl (by rw [ex81]; rfl) (by decide) rfl (fun ls hl => ?_)
                              refine lv_goto (tgt := 37) hx hb dX6_pass_156 (by decide) ?_
                              exact ih _ (i + 1) x81 x79 H locs ls hP hD hS (lv_sub hl [0, 2, 3, 4] rfl) (by omega) (by rw [ex81, hi]; exact nI_1 i) hlt (Mk.x (i := 13) K78 (by decide) (by decide) (by decide)).1.1 (hr2.trans (Mk.x (i := 13) K78 (by decide) (by decide) (by decide)).1) ((Mk.x (i := 13) K78 (by decide) (by decide) (by decide)).2.1.trans g100) z78 (fun a b => absurd (show x14 = 0 from ex14.trans ((congrFun (congrFun hx2 (w 13)) _).trans ((hid a b).2 0 (by decide)))) c15)
                            · exact absurd (by decide) c80
                          · refine lv_goto (tgt := 147) hx hb dX6_pass_115 (by decide) ?_
                            refine lv_iinc (v := 2) (lv' := [(4, .int 2), (2, .int x58), (3, .int xi), (0, .ref (w 0)), (1, .int n)]) hx hb dX6_pass_147 hl (k := 0) rfl (by decide) (by decide) rfl (fun ls hl => ?_)
                            refine lv_goto (tgt := 55) hx hb dX6_pass_150 (by decide) ?_
                            refine lv_iload hx hb dX6_pass_55 (lv_at hl 0 rfl) ?_
                            refine lv_iconst (v := 2) hx hb dX6_pass_57 (by decide) ?_
                            refine lv_icmp_ge (tgt := 153) hx hb dX6_pass_58 (by decide) (fun c82 => ?_) (fun c82 => ?_)
                            · obtain ⟨x83, ex83⟩ : ∃ y : Int32, y = xi + 1 := ⟨_, rfl⟩
                              refine lv_iinc (v := x83) (lv' := [(3, .int x83), (4, .int 2), (2, .int x58), (0, .ref (w 0)), (1, .int n)]) hx hb dX6_pass_153 hl (k := 2) rfl (by rw [ex83]; rfl) (by decide) rfl (fun ls hl => ?_)
                              refine lv_goto (tgt := 37) hx hb dX6_pass_156 (by decide) ?_
                              exact ih _ (i + 1) x83 x58 H locs ls hP hD hS (lv_sub hl [0, 2, 3, 4] rfl) (by omega) (by rw [ex83, hi]; exact nI_1 i) hlt (Mk.x (i := 14) (Mk.x (i := 13) K57 (by decide) (by decide) (by decide)) (by decide) (by decide) (by decide)).1.1 (hr2.trans (Mk.x (i := 14) (Mk.x (i := 13) K57 (by decide) (by decide) (by decide)) (by decide) (by decide) (by decide)).1) ((Mk.x (i := 14) (Mk.x (i := 13) K57 (by decide) (by decide) (by decide)) (by decide) (by decide) (by decide)).2.1.trans g100) z57 (fun a b => absurd (show x14 = 0 from ex14.trans ((congrFun (congrFun hx2 (w 13)) _).trans ((hid a b).2 0 (by decide)))) c15)
                            · exact absurd (by decide) c82
                        · refine lv_goto (tgt := 147) hx hb dX6_pass_91 (by decide) ?_
                          refine lv_iinc (v := 2) (lv' := [(4, .int 2), (2, .int x58), (3, .int xi), (0, .ref (w 0)), (1, .int n)]) hx hb dX6_pass_147 hl (k := 0) rfl (by decide) (by decide) rfl (fun ls hl => ?_)
                          refine lv_goto (tgt := 55) hx hb dX6_pass_150 (by decide) ?_
                          refine lv_iload hx hb dX6_pass_55 (lv_at hl 0 rfl) ?_
                          refine lv_iconst (v := 2) hx hb dX6_pass_57 (by decide) ?_
                          refine lv_icmp_ge (tgt := 153) hx hb dX6_pass_58 (by decide) (fun c84 => ?_) (fun c84 => ?_)
                          · obtain ⟨x85, ex85⟩ : ∃ y : Int32, y = xi + 1 := ⟨_, rfl⟩
                            refine lv_iinc (v := x85) (lv' := [(3, .int x85), (4, .int 2), (2, .int x58), (0, .ref (w 0)), (1, .int n)]) hx hb dX6_pass_153 hl (k := 2) rfl (by rw [ex85]; rfl) (by decide) rfl (fun ls hl => ?_)
                            refine lv_goto (tgt := 37) hx hb dX6_pass_156 (by decide) ?_
                            exact ih _ (i + 1) x85 x58 H locs ls hP hD hS (lv_sub hl [0, 2, 3, 4] rfl) (by omega) (by rw [ex85, hi]; exact nI_1 i) hlt (Mk.x (i := 13) K57 (by decide) (by decide) (by decide)).1.1 (hr2.trans (Mk.x (i := 13) K57 (by decide) (by decide) (by decide)).1) ((Mk.x (i := 13) K57 (by decide) (by decide) (by decide)).2.1.trans g100) z57 (fun a b => absurd (show x14 = 0 from ex14.trans ((congrFun (congrFun hx2 (w 13)) _).trans ((hid a b).2 0 (by decide)))) c15)
                          · exact absurd (by decide) c84
                  · refine lv_goto (tgt := 147) hx hb dX6_pass_115 (by decide) ?_
                    refine lv_iinc (v := 1) (lv' := [(4, .int 1), (3, .int xi), (2, .int br), (0, .ref (w 0)), (1, .int n)]) hx hb dX6_pass_147 hl (k := 0) rfl (by decide) (by decide) rfl (fun ls hl => ?_)
                    refine lv_goto (tgt := 55) hx hb dX6_pass_150 (by decide) ?_
                    refine lv_iload hx hb dX6_pass_55 (lv_at hl 0 rfl) ?_
                    refine lv_iconst (v := 2) hx hb dX6_pass_57 (by decide) ?_
                    refine lv_icmp_ge (tgt := 153) hx hb dX6_pass_58 (by decide) (fun c86 => ?_) (fun c86 => ?_)
                    · exact absurd c86 (by decide)
                    · refine lv_aload_n hx hb dX6_pass_61 rfl (lv_at hl 3 rfl) ?_
                      refine rs_Model_load (b := w 13) F hK hP (hr2.1.1.1 0 (by decide)) ((hr2.1.2.1 13 (by decide) (by decide)).1) kw_80 dX6_pass_62 ?_
                      refine lv_iload hx hb dX6_pass_65 (lv_at hl 0 rfl) ?_
                      refine rd_I F hK hP (hr2.1.1.1 13 (by decide)) (by rw [show pN (setX S2 (w 14) (upd (pX S2 (w 14)) (0 : Int32).toNatClampNeg x50)) (w 13) = 2 from (hr2.1.2.1 13 (by decide) (by decide)).2]; exact vp_in_nI (n := 1) (by decide) (by decide)) dX6_pass_67 ?_
                      refine lv_topi (fun x87 ex87 => ?_)
                      refine lv_if_eq (tgt := 147) hx hb dX6_pass_68 (by decide) (fun c88 => ?_) (fun c88 => ?_)
                      · refine lv_iinc (v := 2) (lv' := [(4, .int 2), (3, .int xi), (2, .int br), (0, .ref (w 0)), (1, .int n)]) hx hb dX6_pass_147 hl (k := 0) rfl (by decide) (by decide) rfl (fun ls hl => ?_)
                        refine lv_goto (tgt := 55) hx hb dX6_pass_150 (by decide) ?_
                        refine lv_iload hx hb dX6_pass_55 (lv_at hl 0 rfl) ?_
                        refine lv_iconst (v := 2) hx hb dX6_pass_57 (by decide) ?_
                        refine lv_icmp_ge (tgt := 153) hx hb dX6_pass_58 (by decide) (fun c89 => ?_) (fun c89 => ?_)
                        · obtain ⟨x90, ex90⟩ : ∃ y : Int32, y = xi + 1 := ⟨_, rfl⟩
                          refine lv_iinc (v := x90) (lv' := [(3, .int x90), (4, .int 2), (2, .int br), (0, .ref (w 0)), (1, .int n)]) hx hb dX6_pass_153 hl (k := 1) rfl (by rw [ex90]; rfl) (by decide) rfl (fun ls hl => ?_)
                          refine lv_goto (tgt := 37) hx hb dX6_pass_156 (by decide) ?_
                          exact ih _ (i + 1) x90 br H locs ls hP hD hS (lv_sub hl [0, 2, 3, 4] rfl) (by omega) (by rw [ex90, hi]; exact nI_1 i) hlt (Mk.x (i := 14) (Mk.rf hr2.1) (by decide) (by decide) (by decide)).1.1 (hr2.trans (Mk.x (i := 14) (Mk.rf hr2.1) (by decide) (by decide) (by decide)).1) ((Mk.x (i := 14) (Mk.rf hr2.1) (by decide) (by decide) (by decide)).2.1.trans g100) g106 (fun a b => absurd (show x14 = 0 from ex14.trans ((congrFun (congrFun hx2 (w 13)) _).trans ((hid a b).2 0 (by decide)))) c15)
                        · exact absurd (by decide) c89
                      · refine lv_aload_n hx hb dX6_pass_71 rfl (lv_at hl 3 rfl) ?_
                        refine rs_Model_isBlocked (b := w 10) F hK hP (hr2.1.1.1 0 (by decide)) ((hr2.1.2.1 10 (by decide) (by decide)).1) kw_77 dX6_pass_72 ?_
                        refine lv_aload_n hx hb dX6_pass_75 rfl (lv_at hl 3 rfl) ?_
                        refine rs_Model_aisle (b := w 1) F hK hP (hr2.1.1.1 0 (by decide)) ((hr2.1.2.1 1 (by decide) (by decide)).1) kw_67 dX6_pass_76 ?_
                        refine lv_aload_n hx hb dX6_pass_79 rfl (lv_at hl 3 rfl) ?_
                        refine rs_Model_goal (b := w 15) F hK hP (hr2.1.1.1 0 (by decide)) ((hr2.1.2.1 15 (by decide) (by decide)).1) kw_82 dX6_pass_80 ?_
                        refine lv_iload hx hb dX6_pass_83 (lv_at hl 0 rfl) ?_
                        refine rd_I F hK hP (hr2.1.1.1 15 (by decide)) (by rw [show pN (setX S2 (w 14) (upd (pX S2 (w 14)) (0 : Int32).toNatClampNeg x50)) (w 15) = 2 from (hr2.1.2.1 15 (by decide) (by decide)).2]; exact vp_in_nI (n := 1) (by decide) (by decide)) dX6_pass_85 ?_
                        refine lv_topi (fun x91 ex91 => ?_)
                        obtain ⟨jv92, hjv92, hxv92⟩ : ∃ q, q < 6 ∧ x91 = nI q := by rw [ex91]; exact (Mk.x (i := 14) (Mk.rf hr2.1) (by decide) (by decide) (by decide)).1.1.2.2.2.2.2.1 _
                        refine rd_I F hK hP (hr2.1.1.1 1 (by decide)) (by rw [show pN (setX S2 (w 14) (upd (pX S2 (w 14)) (0 : Int32).toNatClampNeg x50)) (w 1) = 6 from (hr2.1.2.1 1 (by decide) (by decide)).2, hxv92]; exact vp_in_nI (by omega) (by decide)) dX6_pass_86 ?_
                        refine lv_topi (fun x93 ex93 => ?_)
                        obtain ⟨jv94, hjv94, hxv94⟩ : ∃ q, q < 4 ∧ x93 = nI q := by rw [ex93]; exact (Mk.x (i := 14) (Mk.rf hr2.1) (by decide) (by decide) (by decide)).1.1.2.2.2.1 _
                        refine rd_Z F hK hP (hr2.1.1.1 10 (by decide)) (by rw [show pN (setX S2 (w 14) (upd (pX S2 (w 14)) (0 : Int32).toNatClampNeg x50)) (w 10) = 4 from (hr2.1.2.1 10 (by decide) (by decide)).2, hxv94]; exact vp_in_nI (by omega) (by decide)) dX6_pass_87 ?_
                        refine lv_topi (fun x95 ex95 => ?_)
                        refine lv_if_eq (tgt := 94) hx hb dX6_pass_88 (by decide) (fun c96 => ?_) (fun c96 => ?_)
                        · refine lv_aload_n hx hb dX6_pass_94 rfl (lv_at hl 3 rfl) ?_
                          refine rs_Model_left (b := w 14) F hK hP (hr2.1.1.1 0 (by decide)) ((hr2.1.2.1 14 (by decide) (by decide)).1) kw_81 dX6_pass_95 ?_
                          refine lv_iload hx hb dX6_pass_98 (lv_at hl 0 rfl) ?_
                          refine lv_dup2_11 hx hb dX6_pass_100 rfl rfl ?_
                          refine rd_I F hK hP (hr2.1.1.1 14 (by decide)) (by rw [show pN (setX S2 (w 14) (upd (pX S2 (w 14)) (0 : Int32).toNatClampNeg x50)) (w 14) = 2 from (hr2.1.2.1 14 (by decide) (by decide)).2]; exact vp_in_nI (n := 1) (by decide) (by decide)) dX6_pass_101 ?_
                          refine lv_topi (fun x97 ex97 => ?_)
                          refine lv_iconst (v := 1) hx hb dX6_pass_102 (by decide) ?_
                          refine lv_isub hx hb dX6_pass_103 ?_
                          refine lv_topi (fun x98 ex98 => ?_)
                          refine rt_I F hK hP hD hS (hr2.1.1.1 14 (by decide)) (by rw [show pN (setX S2 (w 14) (upd (pX S2 (w 14)) (0 : Int32).toNatClampNeg x50)) (w 14) = 2 from (hr2.1.2.1 14 (by decide) (by decide)).2]; exact vp_in_nI (n := 1) (by decide) (by decide)) dX6_pass_104 (fun H locs hP hD hS => ?_)
                          refine lv_aload_n hx hb dX6_pass_105 rfl (lv_at hl 3 rfl) ?_
                          refine rs_Model_left (b := w 14) F hK hP (hr2.1.1.1 0 (by decide)) ((hr2.1.2.1 14 (by decide) (by decide)).1) kw_81 dX6_pass_106 ?_
                          refine lv_iload hx hb dX6_pass_109 (lv_at hl 0 rfl) ?_
                          refine rd_I F hK hP (hr2.1.1.1 14 (by decide)) (by rw [show pN (setX (setX S2 (w 14) (upd (pX S2 (w 14)) (0 : Int32).toNatClampNeg x50)) (w 14) (upd (pX (setX S2 (w 14) (upd (pX S2 (w 14)) (0 : Int32).toNatClampNeg x50)) (w 14)) (1 : Int32).toNatClampNeg x98)) (w 14) = 2 from (hr2.1.2.1 14 (by decide) (by decide)).2]; exact vp_in_nI (n := 1) (by decide) (by decide)) dX6_pass_111 ?_
                          refine lv_topi (fun x99 ex99 => ?_)
                          refine lv_if_le (tgt := 118) hx hb dX6_pass_112 (by decide) (fun c100 => ?_) (fun c100 => ?_)
                          · refine lv_iload_n hx hb dX6_pass_118 rfl (lv_at hl 2 rfl) ?_
                            refine lv_aload_n hx hb dX6_pass_119 rfl (lv_at hl 3 rfl) ?_
                            refine lv_aload_n hx hb dX6_pass_120 rfl (lv_at hl 3 rfl) ?_
                            refine rs_Model_goal (b := w 15) F hK hP (hr2.1.1.1 0 (by decide)) ((hr2.1.2.1 15 (by decide) (by decide)).1) kw_82 dX6_pass_121 ?_
                            refine lv_iload hx hb dX6_pass_124 (lv_at hl 0 rfl) ?_
                            refine rd_I F hK hP (hr2.1.1.1 15 (by decide)) (by rw [show pN (setX (setX S2 (w 14) (upd (pX S2 (w 14)) (0 : Int32).toNatClampNeg x50)) (w 14) (upd (pX (setX S2 (w 14) (upd (pX S2 (w 14)) (0 : Int32).toNatClampNeg x50)) (w 14)) (1 : Int32).toNatClampNeg x98)) (w 15) = 2 from (hr2.1.2.1 15 (by decide) (by decide)).2]; exact vp_in_nI (n := 1) (by decide) (by decide)) dX6_pass_126 ?_
                            refine lv_topi (fun x101 ex101 => ?_)
                            obtain ⟨jv102, hjv102, hxv102⟩ : ∃ q, q < 6 ∧ x101 = nI q := by rw [ex101]; exact (Mk.x (i := 14) (Mk.x (i := 14) (Mk.rf hr2.1) (by decide) (by decide) (by decide)) (by decide) (by decide) (by decide)).1.1.2.2.2.2.2.1 _
                            refine lv_aload_n hx hb dX6_pass_127 rfl (lv_at hl 3 rfl) ?_
                            refine rs_Model_load (b := w 13) F hK hP (hr2.1.1.1 0 (by decide)) ((hr2.1.2.1 13 (by decide) (by decide)).1) kw_80 dX6_pass_128 ?_
                            refine lv_iload hx hb dX6_pass_131 (lv_at hl 0 rfl) ?_
                            refine rd_I F hK hP (hr2.1.1.1 13 (by decide)) (by rw [show pN (setX (setX S2 (w 14) (upd (pX S2 (w 14)) (0 : Int32).toNatClampNeg x50)) (w 14) (upd (pX (setX S2 (w 14) (upd (pX S2 (w 14)) (0 : Int32).toNatClampNeg x50)) (w 14)) (1 : Int32).toNatClampNeg x98)) (w 13) = 2 from (hr2.1.2.1 13 (by decide) (by decide)).2]; exact vp_in_nI (n := 1) (by decide) (by decide)) dX6_pass_133 ?_
                            refine lv_topi (fun x103 ex103 => ?_)
                            refine kcallI (kV (n := 2) (As := [.int x101, .int x103]) (rest := [.int br]) (b := (w 0)) (C := RX6) F hE hK hP hD hS hA (c_X6_shelves l hl0 g e0 w (setX (setX S2 (w 14) (upd (pX S2 (w 14)) (0 : Int32).toNatClampNeg x50)) (w 14) (upd (pX (setX S2 (w 14) (upd (pX S2 (w 14)) (0 : Int32).toNatClampNeg x50)) (w 14)) (1 : Int32).toNatClampNeg x98)) _ ((Mk.x (i := 14) (Mk.x (i := 14) (Mk.rf hr2.1) (by decide) (by decide) (by decide)) (by decide) (by decide) (by decide)).1.1) x101 x103 jv102 hjv102 hxv102) (rr_Model hK hP (hr2.1.1.1 0 (by decide))) kw_384 kw_385 kw_386 kw_5 kw_387 (by decide +kernel) ⟨Nat.le_of_ble_eq_true rfl, Nat.le_of_ble_eq_true rfl⟩ rfl hl.1 rfl (Nat.le_of_ble_eq_true rfl) dX6_pass_134 ⟨Nat.le_of_ble_eq_true rfl, Nat.le_of_ble_eq_true rfl⟩) rfl hD hS hA (fun _ _ _ _ _ h => False.elim h) (fun r104 T104 H locs hp hP hD hS => ?_)
                            obtain ⟨k105, s105⟩ := hp
                            have K105 : Mk w S2 T104 := (Mk.x (i := 14) (Mk.x (i := 14) (Mk.rf hr2.1) (by decide) (by decide) (by decide)) (by decide) (by decide) (by decide)).trans k105
                            have z105 : pF T104 106 (w 0) = pF S 106 (w 0) := s105.trans g106
                            refine lv_iadd hx hb dX6_pass_137 ?_
                            refine lv_topi (fun x106 ex106 => ?_)
                            refine lv_istore_n (lv' := [(2, .int x106), (4, .int 1), (3, .int xi), (0, .ref (w 0)), (1, .int n)]) hx hb dX6_pass_138 rfl hl (by decide) rfl (fun ls hl => ?_)
                            refine lv_aload_n hx hb dX6_pass_139 rfl (lv_at hl 3 rfl) ?_
                            refine rs_Model_load (b := w 13) F hK hP (K105.1.1.1.1 0 (by decide)) ((K105.1.1.2.1 13 (by decide) (by decide)).1) kw_80 dX6_pass_140 ?_
                            refine lv_iload hx hb dX6_pass_143 (lv_at hl 1 rfl) ?_
                            refine lv_iconst (v := 0) hx hb dX6_pass_145 (by decide) ?_
                            refine rt_I F hK hP hD hS (K105.1.1.1.1 13 (by decide)) (by rw [show pN T104 (w 13) = 2 from (K105.1.1.2.1 13 (by decide) (by decide)).2]; exact vp_in_nI (n := 1) (by decide) (by decide)) dX6_pass_146 (fun H locs hP hD hS => ?_)
                            refine lv_iinc (v := 2) (lv' := [(4, .int 2), (2, .int x106), (3, .int xi), (0, .ref (w 0)), (1, .int n)]) hx hb dX6_pass_147 hl (k := 1) rfl (by decide) (by decide) rfl (fun ls hl => ?_)
                            refine lv_goto (tgt := 55) hx hb dX6_pass_150 (by decide) ?_
                            refine lv_iload hx hb dX6_pass_55 (lv_at hl 0 rfl) ?_
                            refine lv_iconst (v := 2) hx hb dX6_pass_57 (by decide) ?_
                            refine lv_icmp_ge (tgt := 153) hx hb dX6_pass_58 (by decide) (fun c107 => ?_) (fun c107 => ?_)
                            · obtain ⟨x108, ex108⟩ : ∃ y : Int32, y = xi + 1 := ⟨_, rfl⟩
                              refine lv_iinc (v := x108) (lv' := [(3, .int x108), (4, .int 2), (2, .int x106), (0, .ref (w 0)), (1, .int n)]) hx hb dX6_pass_153 hl (k := 2) rfl (by rw [ex108]; rfl) (by decide) rfl (fun ls hl => ?_)
                              refine lv_goto (tgt := 37) hx hb dX6_pass_156 (by decide) ?_
                              exact ih _ (i + 1) x108 x106 H locs ls hP hD hS (lv_sub hl [0, 2, 3, 4] rfl) (by omega) (by rw [ex108, hi]; exact nI_1 i) hlt (Mk.x (i := 13) K105 (by decide) (by decide) (by decide)).1.1 (hr2.trans (Mk.x (i := 13) K105 (by decide) (by decide) (by decide)).1) ((Mk.x (i := 13) K105 (by decide) (by decide) (by decide)).2.1.trans g100) z105 (fun a b => absurd (show x14 = 0 from ex14.trans ((congrFun (congrFun hx2 (w 13)) _).trans ((hid a b).2 0 (by decide)))) c15)
                            · exact absurd (by decide) c107
                          · refine lv_goto (tgt := 147) hx hb dX6_pass_115 (by decide) ?_
                            refine lv_iinc (v := 2) (lv' := [(4, .int 2), (3, .int xi), (2, .int br), (0, .ref (w 0)), (1, .int n)]) hx hb dX6_pass_147 hl (k := 0) rfl (by decide) (by decide) rfl (fun ls hl => ?_)
                            refine lv_goto (tgt := 55) hx hb dX6_pass_150 (by decide) ?_
                            refine lv_iload hx hb dX6_pass_55 (lv_at hl 0 rfl) ?_
                            refine lv_iconst (v := 2) hx hb dX6_pass_57 (by decide) ?_
                            refine lv_icmp_ge (tgt := 153) hx hb dX6_pass_58 (by decide) (fun c109 => ?_) (fun c109 => ?_)
                            · obtain ⟨x110, ex110⟩ : ∃ y : Int32, y = xi + 1 := ⟨_, rfl⟩
                              refine lv_iinc (v := x110) (lv' := [(3, .int x110), (4, .int 2), (2, .int br), (0, .ref (w 0)), (1, .int n)]) hx hb dX6_pass_153 hl (k := 1) rfl (by rw [ex110]; rfl) (by decide) rfl (fun ls hl => ?_)
                              refine lv_goto (tgt := 37) hx hb dX6_pass_156 (by decide) ?_
                              exact ih _ (i + 1) x110 br H locs ls hP hD hS (lv_sub hl [0, 2, 3, 4] rfl) (by omega) (by rw [ex110, hi]; exact nI_1 i) hlt (Mk.x (i := 14) (Mk.x (i := 14) (Mk.rf hr2.1) (by decide) (by decide) (by decide)) (by decide) (by decide) (by decide)).1.1 (hr2.trans (Mk.x (i := 14) (Mk.x (i := 14) (Mk.rf hr2.1) (by decide) (by decide) (by decide)) (by decide) (by decide) (by decide)).1) ((Mk.x (i := 14) (Mk.x (i := 14) (Mk.rf hr2.1) (by decide) (by decide) (by decide)) (by decide) (by decide) (by decide)).2.1.trans g100) g106 (fun a b => absurd (show x14 = 0 from ex14.trans ((congrFun (congrFun hx2 (w 13)) _).trans ((hid a b).2 0 (by decide)))) c15)
                            · exact absurd (by decide) c109
                        · refine lv_goto (tgt := 147) hx hb dX6_pass_91 (by decide) ?_
                          refine lv_iinc (v := 2) (lv' := [(4, .int 2), (3, .int xi), (2, .int br), (0, .ref (w 0)), (1, .int n)]) hx hb dX6_pass_147 hl (k := 0) rfl (by decide) (by decide) rfl (fun ls hl => ?_)
                          refine lv_goto (tgt := 55) hx hb dX6_pass_150 (by decide) ?_
                          refine lv_iload hx hb dX6_pass_55 (lv_at hl 0 rfl) ?_
                          refine lv_iconst (v := 2) hx hb dX6_pass_57 (by decide) ?_
                          refine lv_icmp_ge (tgt := 153) hx hb dX6_pass_58 (by decide) (fun c111 => ?_) (fun c111 => ?_)
                          · obtain ⟨x112, ex112⟩ : ∃ y : Int32, y = xi + 1 := ⟨_, rfl⟩
                            refine lv_iinc (v := x112) (lv' := [(3, .int x112), (4, .int 2), (2, .int br), (0, .ref (w 0)), (1, .int n)]) hx hb dX6_pass_153 hl (k := 1) rfl (by rw [ex112]; rfl) (by decide) rfl (fun ls hl => ?_)
                            refine lv_goto (tgt := 37) hx hb dX6_pass_156 (by decide) ?_
                            exact ih _ (i + 1) x112 br H locs ls hP hD hS (lv_sub hl [0, 2, 3, 4] rfl) (by omega) (by rw [ex112, hi]; exact nI_1 i) hlt (Mk.x (i := 14) (Mk.rf hr2.1) (by decide) (by decide) (by decide)).1.1 (hr2.trans (Mk.x (i := 14) (Mk.rf hr2.1) (by decide) (by decide) (by decide)).1) ((Mk.x (i := 14) (Mk.rf hr2.1) (by decide) (by decide) (by decide)).2.1.trans g100) g106 (fun a b => absurd (show x14 = 0 from ex14.trans ((congrFun (congrFun hx2 (w 13)) _).trans ((hid a b).2 0 (by decide)))) c15)
                          · exact absurd (by decide) c111
                · refine lv_goto (tgt := 147) hx hb dX6_pass_91 (by decide) ?_
                  refine lv_iinc (v := 1) (lv' := [(4, .int 1), (3, .int xi), (2, .int br), (0, .ref (w 0)), (1, .int n)]) hx hb dX6_pass_147 hl (k := 0) rfl (by decide) (by decide) rfl (fun ls hl => ?_)
                  refine lv_goto (tgt := 55) hx hb dX6_pass_150 (by decide) ?_
                  refine lv_iload hx hb dX6_pass_55 (lv_at hl 0 rfl) ?_
                  refine lv_iconst (v := 2) hx hb dX6_pass_57 (by decide) ?_
                  refine lv_icmp_ge (tgt := 153) hx hb dX6_pass_58 (by decide) (fun c113 => ?_) (fun c113 => ?_)
                  · exact absurd c113 (by decide)
                  · refine lv_aload_n hx hb dX6_pass_61 rfl (lv_at hl 3 rfl) ?_
                    refine rs_Model_load (b := w 13) F hK hP (hr2.1.1.1 0 (by decide)) ((hr2.1.2.1 13 (by decide) (by decide)).1) kw_80 dX6_pass_62 ?_
                    refine lv_iload hx hb dX6_pass_65 (lv_at hl 0 rfl) ?_
                    refine rd_I F hK hP (hr2.1.1.1 13 (by decide)) (by rw [show pN S2 (w 13) = 2 from (hr2.1.2.1 13 (by decide) (by decide)).2]; exact vp_in_nI (n := 1) (by decide) (by decide)) dX6_pass_67 ?_
                    refine lv_topi (fun x114 ex114 => ?_)
                    refine lv_if_eq (tgt := 147) hx hb dX6_pass_68 (by decide) (fun c115 => ?_) (fun c115 => ?_)
                    · refine lv_iinc (v := 2) (lv' := [(4, .int 2), (3, .int xi), (2, .int br), (0, .ref (w 0)), (1, .int n)]) hx hb dX6_pass_147 hl (k := 0) rfl (by decide) (by decide) rfl (fun ls hl => ?_)
                      refine lv_goto (tgt := 55) hx hb dX6_pass_150 (by decide) ?_
                      refine lv_iload hx hb dX6_pass_55 (lv_at hl 0 rfl) ?_
                      refine lv_iconst (v := 2) hx hb dX6_pass_57 (by decide) ?_
                      refine lv_icmp_ge (tgt := 153) hx hb dX6_pass_58 (by decide) (fun c116 => ?_) (fun c116 => ?_)
                      · obtain ⟨x117, ex117⟩ : ∃ y : Int32, y = xi + 1 := ⟨_, rfl⟩
                        refine lv_iinc (v := x117) (lv' := [(3, .int x117), (4, .int 2), (2, .int br), (0, .ref (w 0)), (1, .int n)]) hx hb dX6_pass_153 hl (k := 1) rfl (by rw [ex117]; rfl) (by decide) rfl (fun ls hl => ?_)
                        refine lv_goto (tgt := 37) hx hb dX6_pass_156 (by decide) ?_
                        exact ih _ (i + 1) x117 br H locs ls hP hD hS (lv_sub hl [0, 2, 3, 4] rfl) (by omega) (by rw [ex117, hi]; exact nI_1 i) hlt hr2.1 hr2 g100 g106 (fun a b => absurd (show x14 = 0 from ex14.trans ((congrFun (congrFun hx2 (w 13)) _).trans ((hid a b).2 0 (by decide)))) c15)
                      · exact absurd (by decide) c116
                    · refine lv_aload_n hx hb dX6_pass_71 rfl (lv_at hl 3 rfl) ?_
                      refine rs_Model_isBlocked (b := w 10) F hK hP (hr2.1.1.1 0 (by decide)) ((hr2.1.2.1 10 (by decide) (by decide)).1) kw_77 dX6_pass_72 ?_
                      refine lv_aload_n hx hb dX6_pass_75 rfl (lv_at hl 3 rfl) ?_
                      refine rs_Model_aisle (b := w 1) F hK hP (hr2.1.1.1 0 (by decide)) ((hr2.1.2.1 1 (by decide) (by decide)).1) kw_67 dX6_pass_76 ?_
                      refine lv_aload_n hx hb dX6_pass_79 rfl (lv_at hl 3 rfl) ?_
                      refine rs_Model_goal (b := w 15) F hK hP (hr2.1.1.1 0 (by decide)) ((hr2.1.2.1 15 (by decide) (by decide)).1) kw_82 dX6_pass_80 ?_
                      refine lv_iload hx hb dX6_pass_83 (lv_at hl 0 rfl) ?_
                      refine rd_I F hK hP (hr2.1.1.1 15 (by decide)) (by rw [show pN S2 (w 15) = 2 from (hr2.1.2.1 15 (by decide) (by decide)).2]; exact vp_in_nI (n := 1) (by decide) (by decide)) dX6_pass_85 ?_
                      refine lv_topi (fun x118 ex118 => ?_)
                      obtain ⟨jv119, hjv119, hxv119⟩ : ∃ q, q < 6 ∧ x118 = nI q := by rw [ex118]; exact hr2.1.2.2.2.2.2.1 _
                      refine rd_I F hK hP (hr2.1.1.1 1 (by decide)) (by rw [show pN S2 (w 1) = 6 from (hr2.1.2.1 1 (by decide) (by decide)).2, hxv119]; exact vp_in_nI (by omega) (by decide)) dX6_pass_86 ?_
                      refine lv_topi (fun x120 ex120 => ?_)
                      obtain ⟨jv121, hjv121, hxv121⟩ : ∃ q, q < 4 ∧ x120 = nI q := by rw [ex120]; exact hr2.1.2.2.2.1 _
                      refine rd_Z F hK hP (hr2.1.1.1 10 (by decide)) (by rw [show pN S2 (w 10) = 4 from (hr2.1.2.1 10 (by decide) (by decide)).2, hxv121]; exact vp_in_nI (by omega) (by decide)) dX6_pass_87 ?_
                      refine lv_topi (fun x122 ex122 => ?_)
                      refine lv_if_eq (tgt := 94) hx hb dX6_pass_88 (by decide) (fun c123 => ?_) (fun c123 => ?_)
                      · refine lv_aload_n hx hb dX6_pass_94 rfl (lv_at hl 3 rfl) ?_
                        refine rs_Model_left (b := w 14) F hK hP (hr2.1.1.1 0 (by decide)) ((hr2.1.2.1 14 (by decide) (by decide)).1) kw_81 dX6_pass_95 ?_
                        refine lv_iload hx hb dX6_pass_98 (lv_at hl 0 rfl) ?_
                        refine lv_dup2_11 hx hb dX6_pass_100 rfl rfl ?_
                        refine rd_I F hK hP (hr2.1.1.1 14 (by decide)) (by rw [show pN S2 (w 14) = 2 from (hr2.1.2.1 14 (by decide) (by decide)).2]; exact vp_in_nI (n := 1) (by decide) (by decide)) dX6_pass_101 ?_
                        refine lv_topi (fun x124 ex124 => ?_)
                        refine lv_iconst (v := 1) hx hb dX6_pass_102 (by decide) ?_
                        refine lv_isub hx hb dX6_pass_103 ?_
                        refine lv_topi (fun x125 ex125 => ?_)
                        refine rt_I F hK hP hD hS (hr2.1.1.1 14 (by decide)) (by rw [show pN S2 (w 14) = 2 from (hr2.1.2.1 14 (by decide) (by decide)).2]; exact vp_in_nI (n := 1) (by decide) (by decide)) dX6_pass_104 (fun H locs hP hD hS => ?_)
                        refine lv_aload_n hx hb dX6_pass_105 rfl (lv_at hl 3 rfl) ?_
                        refine rs_Model_left (b := w 14) F hK hP (hr2.1.1.1 0 (by decide)) ((hr2.1.2.1 14 (by decide) (by decide)).1) kw_81 dX6_pass_106 ?_
                        refine lv_iload hx hb dX6_pass_109 (lv_at hl 0 rfl) ?_
                        refine rd_I F hK hP (hr2.1.1.1 14 (by decide)) (by rw [show pN (setX S2 (w 14) (upd (pX S2 (w 14)) (1 : Int32).toNatClampNeg x125)) (w 14) = 2 from (hr2.1.2.1 14 (by decide) (by decide)).2]; exact vp_in_nI (n := 1) (by decide) (by decide)) dX6_pass_111 ?_
                        refine lv_topi (fun x126 ex126 => ?_)
                        refine lv_if_le (tgt := 118) hx hb dX6_pass_112 (by decide) (fun c127 => ?_) (fun c127 => ?_)
                        · refine lv_iload_n hx hb dX6_pass_118 rfl (lv_at hl 2 rfl) ?_
                          refine lv_aload_n hx hb dX6_pass_119 rfl (lv_at hl 3 rfl) ?_
                          refine lv_aload_n hx hb dX6_pass_120 rfl (lv_at hl 3 rfl) ?_
                          refine rs_Model_goal (b := w 15) F hK hP (hr2.1.1.1 0 (by decide)) ((hr2.1.2.1 15 (by decide) (by decide)).1) kw_82 dX6_pass_121 ?_
                          refine lv_iload hx hb dX6_pass_124 (lv_at hl 0 rfl) ?_
                          refine rd_I F hK hP (hr2.1.1.1 15 (by decide)) (by rw [show pN (setX S2 (w 14) (upd (pX S2 (w 14)) (1 : Int32).toNatClampNeg x125)) (w 15) = 2 from (hr2.1.2.1 15 (by decide) (by decide)).2]; exact vp_in_nI (n := 1) (by decide) (by decide)) dX6_pass_126 ?_
                          refine lv_topi (fun x128 ex128 => ?_)
                          obtain ⟨jv129, hjv129, hxv129⟩ : ∃ q, q < 6 ∧ x128 = nI q := by rw [ex128]; exact (Mk.x (i := 14) (Mk.rf hr2.1) (by decide) (by decide) (by decide)).1.1.2.2.2.2.2.1 _
                          refine lv_aload_n hx hb dX6_pass_127 rfl (lv_at hl 3 rfl) ?_
                          refine rs_Model_load (b := w 13) F hK hP (hr2.1.1.1 0 (by decide)) ((hr2.1.2.1 13 (by decide) (by decide)).1) kw_80 dX6_pass_128 ?_
                          refine lv_iload hx hb dX6_pass_131 (lv_at hl 0 rfl) ?_
                          refine rd_I F hK hP (hr2.1.1.1 13 (by decide)) (by rw [show pN (setX S2 (w 14) (upd (pX S2 (w 14)) (1 : Int32).toNatClampNeg x125)) (w 13) = 2 from (hr2.1.2.1 13 (by decide) (by decide)).2]; exact vp_in_nI (n := 1) (by decide) (by decide)) dX6_pass_133 ?_
                          refine lv_topi (fun x130 ex130 => ?_)
                          refine kcallI (kV (n := 2) (As := [.int x128, .int x130]) (rest := [.int br]) (b := (w 0)) (C := RX6) F hE hK hP hD hS hA (c_X6_shelves l hl0 g e0 w (setX S2 (w 14) (upd (pX S2 (w 14)) (1 : Int32).toNatClampNeg x125)) _ ((Mk.x (i := 14) (Mk.rf hr2.1) (by decide) (by decide) (by decide)).1.1) x128 x130 jv129 hjv129 hxv129) (rr_Model hK hP (hr2.1.1.1 0 (by decide))) kw_384 kw_385 kw_386 kw_5 kw_387 (by decide +kernel) ⟨Nat.le_of_ble_eq_true rfl, Nat.le_of_ble_eq_true rfl⟩ rfl hl.1 rfl (Nat.le_of_ble_eq_true rfl) dX6_pass_134 ⟨Nat.le_of_ble_eq_true rfl, Nat.le_of_ble_eq_true rfl⟩) rfl hD hS hA (fun _ _ _ _ _ h => False.elim h) (fun r131 T131 H locs hp hP hD hS => ?_)
                          obtain ⟨k132, s132⟩ := hp
                          have K132 : Mk w S2 T131 := (Mk.x (i := 14) (Mk.rf hr2.1) (by decide) (by decide) (by decide)).trans k132
                          have z132 : pF T131 106 (w 0) = pF S 106 (w 0) := s132.trans g106
                          refine lv_iadd hx hb dX6_pass_137 ?_
                          refine lv_topi (fun x133 ex133 => ?_)
                          refine lv_istore_n (lv' := [(2, .int x133), (4, .int 1), (3, .int xi), (0, .ref (w 0)), (1, .int n)]) hx hb dX6_pass_138 rfl hl (by decide) rfl (fun ls hl => ?_)
                          refine lv_aload_n hx hb dX6_pass_139 rfl (lv_at hl 3 rfl) ?_
                          refine rs_Model_load (b := w 13) F hK hP (K132.1.1.1.1 0 (by decide)) ((K132.1.1.2.1 13 (by decide) (by decide)).1) kw_80 dX6_pass_140 ?_
                          refine lv_iload hx hb dX6_pass_143 (lv_at hl 1 rfl) ?_
                          refine lv_iconst (v := 0) hx hb dX6_pass_145 (by decide) ?_
                          refine rt_I F hK hP hD hS (K132.1.1.1.1 13 (by decide)) (by rw [show pN T131 (w 13) = 2 from (K132.1.1.2.1 13 (by decide) (by decide)).2]; exact vp_in_nI (n := 1) (by decide) (by decide)) dX6_pass_146 (fun H locs hP hD hS => ?_)
                          refine lv_iinc (v := 2) (lv' := [(4, .int 2), (2, .int x133), (3, .int xi), (0, .ref (w 0)), (1, .int n)]) hx hb dX6_pass_147 hl (k := 1) rfl (by decide) (by decide) rfl (fun ls hl => ?_)
                          refine lv_goto (tgt := 55) hx hb dX6_pass_150 (by decide) ?_
                          refine lv_iload hx hb dX6_pass_55 (lv_at hl 0 rfl) ?_
                          refine lv_iconst (v := 2) hx hb dX6_pass_57 (by decide) ?_
                          refine lv_icmp_ge (tgt := 153) hx hb dX6_pass_58 (by decide) (fun c134 => ?_) (fun c134 => ?_)
                          · obtain ⟨x135, ex135⟩ : ∃ y : Int32, y = xi + 1 := ⟨_, rfl⟩
                            refine lv_iinc (v := x135) (lv' := [(3, .int x135), (4, .int 2), (2, .int x133), (0, .ref (w 0)), (1, .int n)]) hx hb dX6_pass_153 hl (k := 2) rfl (by rw [ex135]; rfl) (by decide) rfl (fun ls hl => ?_)
                            refine lv_goto (tgt := 37) hx hb dX6_pass_156 (by decide) ?_
                            exact ih _ (i + 1) x135 x133 H locs ls hP hD hS (lv_sub hl [0, 2, 3, 4] rfl) (by omega) (by rw [ex135, hi]; exact nI_1 i) hlt (Mk.x (i := 13) K132 (by decide) (by decide) (by decide)).1.1 (hr2.trans (Mk.x (i := 13) K132 (by decide) (by decide) (by decide)).1) ((Mk.x (i := 13) K132 (by decide) (by decide) (by decide)).2.1.trans g100) z132 (fun a b => absurd (show x14 = 0 from ex14.trans ((congrFun (congrFun hx2 (w 13)) _).trans ((hid a b).2 0 (by decide)))) c15)
                          · exact absurd (by decide) c134
                        · refine lv_goto (tgt := 147) hx hb dX6_pass_115 (by decide) ?_
                          refine lv_iinc (v := 2) (lv' := [(4, .int 2), (3, .int xi), (2, .int br), (0, .ref (w 0)), (1, .int n)]) hx hb dX6_pass_147 hl (k := 0) rfl (by decide) (by decide) rfl (fun ls hl => ?_)
                          refine lv_goto (tgt := 55) hx hb dX6_pass_150 (by decide) ?_
                          refine lv_iload hx hb dX6_pass_55 (lv_at hl 0 rfl) ?_
                          refine lv_iconst (v := 2) hx hb dX6_pass_57 (by decide) ?_
                          refine lv_icmp_ge (tgt := 153) hx hb dX6_pass_58 (by decide) (fun c136 => ?_) (fun c136 => ?_)
                          · obtain ⟨x137, ex137⟩ : ∃ y : Int32, y = xi + 1 := ⟨_, rfl⟩
                            refine lv_iinc (v := x137) (lv' := [(3, .int x137), (4, .int 2), (2, .int br), (0, .ref (w 0)), (1, .int n)]) hx hb dX6_pass_153 hl (k := 1) rfl (by rw [ex137]; rfl) (by decide) rfl (fun ls hl => ?_)
                            refine lv_goto (tgt := 37) hx hb dX6_pass_156 (by decide) ?_
                            exact ih _ (i + 1) x137 br H locs ls hP hD hS (lv_sub hl [0, 2, 3, 4] rfl) (by omega) (by rw [ex137, hi]; exact nI_1 i) hlt (Mk.x (i := 14) (Mk.rf hr2.1) (by decide) (by decide) (by decide)).1.1 (hr2.trans (Mk.x (i := 14) (Mk.rf hr2.1) (by decide) (by decide) (by decide)).1) ((Mk.x (i := 14) (Mk.rf hr2.1) (by decide) (by decide) (by decide)).2.1.trans g100) g106 (fun a b => absurd (show x14 = 0 from ex14.trans ((congrFun (congrFun hx2 (w 13)) _).trans ((hid a b).2 0 (by decide)))) c15)
                          · exact absurd (by decide) c136
                      · refine lv_goto (tgt := 147) hx hb dX6_pass_91 (by decide) ?_
                        refine lv_iinc (v := 2) (lv' := [(4, .int 2), (3, .int xi), (2, .int br), (0, .ref (w 0)), (1, .int n)]) hx hb dX6_pass_147 hl (k := 0) rfl (by decide) (by decide) rfl (fun ls hl => ?_)
                        refine lv_goto (tgt := 55) hx hb dX6_pass_150 (by decide) ?_
                        refine lv_iload hx hb dX6_pass_55 (lv_at hl 0 rfl) ?_
                        refine lv_iconst (v := 2) hx hb dX6_pass_57 (by decide) ?_
                        refine lv_icmp_ge (tgt := 153) hx hb dX6_pass_58 (by decide) (fun c138 => ?_) (fun c138 => ?_)
                        · obtain ⟨x139, ex139⟩ : ∃ y : Int32, y = xi + 1 := ⟨_, rfl⟩
                          refine lv_iinc (v := x139) (lv' := [(3, .int x139), (4, .int 2), (2, .int br), (0, .ref (w 0)), (1, .int n)]) hx hb dX6_pass_153 hl (k := 1) rfl (by rw [ex139]; rfl) (by decide) rfl (fun ls hl => ?_)
                          refine lv_goto (tgt := 37) hx hb dX6_pass_156 (by decide) ?_
                          exact ih _ (i + 1) x139 br H locs ls hP hD hS (lv_sub hl [0, 2, 3, 4] rfl) (by omega) (by rw [ex139, hi]; exact nI_1 i) hlt hr2.1 hr2 g100 g106 (fun a b => absurd (show x14 = 0 from ex14.trans ((congrFun (congrFun hx2 (w 13)) _).trans ((hid a b).2 0 (by decide)))) c15)
                        · exact absurd (by decide) c138
      exact loop 61 _ 0 0 0 _ _ _ hP hD hS (lv_sub hl [0, 1, 2, 3] rfl) (by omega) rfl (Nat.zero_le _) m9.1 (Mr.self104 m9) uF_at (uF_of (Or.inl (by decide))) (fun a b => ⟨rfl, fun q hq => (by rcases (show q = 0 ∨ q = 1 by omega) with rfl | rfl; exact a; exact b)⟩)
    · refine lv_aload_n hx hb dX6_pass_22 rfl (lv_at hl 0 rfl) ?_
      refine lv_iconst (v := 1) hx hb dX6_pass_23 (by decide) ?_
      refine kcallI (kV (n := 1) (As := [.int 1]) (rest := []) (b := (w 0)) (C := RX6) F hE hK hP hD hS hA (c_X6_fails l hl0 g e0 S _ (w 0) 1 (hI.1.1 0 (by decide))) (rr_Model hK hP (hI.1.1 0 (by decide))) kw_183 kw_184 kw_185 kw_5 kw_186 (by decide +kernel) ⟨Nat.le_of_ble_eq_true rfl, Nat.le_of_ble_eq_true rfl⟩ rfl hl.1 rfl (Nat.le_of_ble_eq_true rfl) dX6_pass_24 ⟨Nat.le_of_ble_eq_true rfl, Nat.le_of_ble_eq_true rfl⟩) rfl hD hS hA (fun _ _ _ _ _ h => False.elim h) (fun r140 T140 H locs hp hP hD hS => ?_)
      obtain ⟨hT, hr141⟩ := hp
      subst hT
      have m141 : Mr w S (setF S 100 (w 0) 1) := (Mr.rf hI).thr
      subst hr141
      exact kEndI F hr rfl hlk hP hD hS (Nat.le_of_ble_eq_true rfl) (Nat.le_of_ble_eq_true rfl) dX6_pass_27 ⟨_, rfl, ⟨((uF_of (Or.inl (by decide))).trans rfl), Or.inl ⟨uF_at, Or.inr (by rw [← ex6, ← ex7]; exact Int32.not_le.mp c8), m141⟩⟩⟩
