/-- the planner is new -/
def Fr (z : Nat → Nat) (S : wPS) : Prop := pF S 72 (z 10) = 0 ∧ pF S 72 (z 11) = 0 ∧ pF S 42 (z 12) = 0 ∧ pF S 56 (z 0) = 0 ∧ pF S 57 (z 0) = 0 ∧ pF S 58 (z 0) = 0 ∧ pJ S (z 0) = 0 ∧ (∀ i, i < 4 → pF S 1 (z (2 + i)) = 0 ∧ pF S 2 (z (2 + i)) = 0) ∧ (∀ i, i < 3 → pX S (z 6) i = 1439) ∧ (∀ i, i < 2 → pG S 30 (z (8 + i)) = none ∧ pF S 31 (z (8 + i)) = 0 ∧ pF S 32 (z (8 + i)) = 0)
theorem dX5_init_0 : decode cX5_init 0 = .ok (.aload_n 0, 1) := by decide +kernel
theorem dX5_init_1 : decode cX5_init 1 = .ok (.invokespecial 3, 3) := by decide +kernel
theorem dX5_init_4 : decode cX5_init 4 = .ok (.aload_n 0, 1) := by decide +kernel
theorem dX5_init_5 : decode cX5_init 5 = .ok (.iconst 4, 1) := by decide +kernel
theorem dX5_init_6 : decode cX5_init 6 = .ok (.anewarray 9, 3) := by decide +kernel
theorem dX5_init_9 : decode cX5_init 9 = .ok (.putfield 11, 3) := by decide +kernel
theorem dX5_init_12 : decode cX5_init 12 = .ok (.iconst 0, 1) := by decide +kernel
theorem dX5_init_13 : decode cX5_init 13 = .ok (.istore_n 1, 1) := by decide +kernel
theorem dX5_init_14 : decode cX5_init 14 = .ok (.iload_n 1, 1) := by decide +kernel
theorem dX5_init_15 : decode cX5_init 15 = .ok (.aload_n 0, 1) := by decide +kernel
theorem dX5_init_16 : decode cX5_init 16 = .ok (.getfield 11, 3) := by decide +kernel
theorem dX5_init_19 : decode cX5_init 19 = .ok (.arraylength, 1) := by decide +kernel
theorem dX5_init_20 : decode cX5_init 20 = .ok (.if_icmp .ge 23, 3) := by decide +kernel
theorem dX5_init_23 : decode cX5_init 23 = .ok (.aload_n 0, 1) := by decide +kernel
theorem dX5_init_24 : decode cX5_init 24 = .ok (.getfield 11, 3) := by decide +kernel
theorem dX5_init_27 : decode cX5_init 27 = .ok (.iload_n 1, 1) := by decide +kernel
theorem dX5_init_28 : decode cX5_init 28 = .ok (.new 9, 3) := by decide +kernel
theorem dX5_init_31 : decode cX5_init 31 = .ok (.dup, 1) := by decide +kernel
theorem dX5_init_32 : decode cX5_init 32 = .ok (.iload_n 1, 1) := by decide +kernel
theorem dX5_init_33 : decode cX5_init 33 = .ok (.invokespecial 15, 3) := by decide +kernel
theorem dX5_init_36 : decode cX5_init 36 = .ok (.aastore, 1) := by decide +kernel
theorem dX5_init_37 : decode cX5_init 37 = .ok (.iinc 1 1, 3) := by decide +kernel
theorem dX5_init_40 : decode cX5_init 40 = .ok (.goto (-26), 3) := by decide +kernel
theorem dX5_init_43 : decode cX5_init 43 = .ok (.aload_n 0, 1) := by decide +kernel
theorem dX5_init_44 : decode cX5_init 44 = .ok (.iconst 3, 1) := by decide +kernel
theorem dX5_init_45 : decode cX5_init 45 = .ok (.newarray .int, 2) := by decide +kernel
theorem dX5_init_47 : decode cX5_init 47 = .ok (.putfield 18, 3) := by decide +kernel
theorem dX5_init_50 : decode cX5_init 50 = .ok (.iconst 0, 1) := by decide +kernel
theorem dX5_init_51 : decode cX5_init 51 = .ok (.istore_n 1, 1) := by decide +kernel
theorem dX5_init_52 : decode cX5_init 52 = .ok (.iload_n 1, 1) := by decide +kernel
theorem dX5_init_53 : decode cX5_init 53 = .ok (.aload_n 0, 1) := by decide +kernel
theorem dX5_init_54 : decode cX5_init 54 = .ok (.getfield 18, 3) := by decide +kernel
theorem dX5_init_57 : decode cX5_init 57 = .ok (.arraylength, 1) := by decide +kernel
theorem dX5_init_58 : decode cX5_init 58 = .ok (.if_icmp .ge 18, 3) := by decide +kernel
theorem dX5_init_61 : decode cX5_init 61 = .ok (.aload_n 0, 1) := by decide +kernel
theorem dX5_init_62 : decode cX5_init 62 = .ok (.getfield 18, 3) := by decide +kernel
theorem dX5_init_65 : decode cX5_init 65 = .ok (.iload_n 1, 1) := by decide +kernel
theorem dX5_init_66 : decode cX5_init 66 = .ok (.sipush 1439, 3) := by decide +kernel
theorem dX5_init_69 : decode cX5_init 69 = .ok (.iastore, 1) := by decide +kernel
theorem dX5_init_70 : decode cX5_init 70 = .ok (.iinc 1 1, 3) := by decide +kernel
theorem dX5_init_73 : decode cX5_init 73 = .ok (.goto (-21), 3) := by decide +kernel
theorem dX5_init_76 : decode cX5_init 76 = .ok (.aload_n 0, 1) := by decide +kernel
theorem dX5_init_77 : decode cX5_init 77 = .ok (.iconst 2, 1) := by decide +kernel
theorem dX5_init_78 : decode cX5_init 78 = .ok (.anewarray 22, 3) := by decide +kernel
theorem dX5_init_81 : decode cX5_init 81 = .ok (.putfield 24, 3) := by decide +kernel
theorem dX5_init_84 : decode cX5_init 84 = .ok (.iconst 0, 1) := by decide +kernel
theorem dX5_init_85 : decode cX5_init 85 = .ok (.istore_n 1, 1) := by decide +kernel
theorem dX5_init_86 : decode cX5_init 86 = .ok (.iload_n 1, 1) := by decide +kernel
theorem dX5_init_87 : decode cX5_init 87 = .ok (.aload_n 0, 1) := by decide +kernel
theorem dX5_init_88 : decode cX5_init 88 = .ok (.getfield 24, 3) := by decide +kernel
theorem dX5_init_91 : decode cX5_init 91 = .ok (.arraylength, 1) := by decide +kernel
theorem dX5_init_92 : decode cX5_init 92 = .ok (.if_icmp .ge 22, 3) := by decide +kernel
theorem dX5_init_95 : decode cX5_init 95 = .ok (.aload_n 0, 1) := by decide +kernel
theorem dX5_init_96 : decode cX5_init 96 = .ok (.getfield 24, 3) := by decide +kernel
theorem dX5_init_99 : decode cX5_init 99 = .ok (.iload_n 1, 1) := by decide +kernel
theorem dX5_init_100 : decode cX5_init 100 = .ok (.new 22, 3) := by decide +kernel
theorem dX5_init_103 : decode cX5_init 103 = .ok (.dup, 1) := by decide +kernel
theorem dX5_init_104 : decode cX5_init 104 = .ok (.invokespecial 28, 3) := by decide +kernel
theorem dX5_init_107 : decode cX5_init 107 = .ok (.aastore, 1) := by decide +kernel
theorem dX5_init_108 : decode cX5_init 108 = .ok (.iinc 1 1, 3) := by decide +kernel
theorem dX5_init_111 : decode cX5_init 111 = .ok (.goto (-25), 3) := by decide +kernel
theorem dX5_init_114 : decode cX5_init 114 = .ok (.aload_n 0, 1) := by decide +kernel
theorem dX5_init_115 : decode cX5_init 115 = .ok (.new 29, 3) := by decide +kernel
theorem dX5_init_118 : decode cX5_init 118 = .ok (.dup, 1) := by decide +kernel
theorem dX5_init_119 : decode cX5_init 119 = .ok (.invokespecial 31, 3) := by decide +kernel
theorem dX5_init_122 : decode cX5_init 122 = .ok (.putfield 32, 3) := by decide +kernel
theorem dX5_init_125 : decode cX5_init 125 = .ok (.aload_n 0, 1) := by decide +kernel
theorem dX5_init_126 : decode cX5_init 126 = .ok (.new 29, 3) := by decide +kernel
theorem dX5_init_129 : decode cX5_init 129 = .ok (.dup, 1) := by decide +kernel
theorem dX5_init_130 : decode cX5_init 130 = .ok (.invokespecial 31, 3) := by decide +kernel
theorem dX5_init_133 : decode cX5_init 133 = .ok (.putfield 36, 3) := by decide +kernel
theorem dX5_init_136 : decode cX5_init 136 = .ok (.aload_n 0, 1) := by decide +kernel
theorem dX5_init_137 : decode cX5_init 137 = .ok (.new 39, 3) := by decide +kernel
theorem dX5_init_140 : decode cX5_init 140 = .ok (.dup, 1) := by decide +kernel
theorem dX5_init_141 : decode cX5_init 141 = .ok (.invokespecial 41, 3) := by decide +kernel
theorem dX5_init_144 : decode cX5_init 144 = .ok (.putfield 42, 3) := by decide +kernel
theorem dX5_init_147 : decode cX5_init 147 = .ok (.return_, 1) := by decide +kernel
set_option maxHeartbeats 4000000 in
set_option maxRecDepth 100000 in
theorem c_X5_init (l : Launch) (hl0 : l.stackTraces = false) (g : kG) (e0 : Nat) (S : wPS) (sz : Nat) (h : Nat) (oh : Ob S 5 h) (hn : ∀ k a, Ob S k a → a = h) (h56 : pF S 56 h = 0) (h57 : pF S 57 h = 0) (h58 : pF S 58 h = 0) (h59 : pJ S h = 0) : kC l g e0 yX5_init cX5_init 2 4 74 14 1068 [.ref h] S sz (fun T => ∃ z : Nat → Nat, z 0 = h ∧ Inv z e0 T ∧ Fr z T) := by
  refine kC.of (by decide) (Nat.le_of_ble_eq_true rfl) rfl ?_
  intro p e s m below meth c ls B hin
  obtain ⟨F, hr, hlk, hte, hP, hK, hD, hE, hS, hA, hl, hsz⟩ := B
  subst hsz
  have hx := F.1
  have hb := F.2.1
  have hl : lv_has ls 2 [(0, .ref h)] := hl
  have ob_h := oh
  have hall : ∀ a, a ∈ pL S → a ∈ [h] := fun a ha => by rw [hn _ a ⟨ha, rfl⟩]; exact List.mem_cons_self
  refine lv_aload_n hx hb dX5_init_0 rfl (lv_at hl 0 rfl) ?_
  refine W.objInit hx hb F.2.2.2.1 (F.2.2.2.2 _ kw_11) (F.2.2.2.2 _ kw_12) (F.2.2.2.2 _ kw_13) rfl (by rw [F.2.2.1]; exact hl.1) rfl dX5_init_1 (Nat.le_of_ble_eq_true rfl) (Nat.le_of_ble_eq_true rfl) ?_
  refine W.eq (g2 := F0 m 4 ls []) rfl ?_
  refine lv_aload_n hx hb dX5_init_4 rfl (lv_at hl 0 rfl) ?_
  refine lv_iconst (v := 4) hx hb dX5_init_5 (by decide) ?_
  refine rn_R_Aisle (N := 4) F hK hP hD hS hA kw_14 hE.2.2.2.2.2.1 (by decide) rfl (by decide) (Nat.le_of_ble_eq_true rfl) (Nat.le_of_ble_eq_true rfl) dX5_init_6 (fun q1 H hq1 hP hD hS => ?_)
  have n_h_q1 : h ≠ q1 := fun e => hq1 (by rw [← e]; exact ob_h.1)
  have n_q1_h : q1 ≠ h := fun e => n_h_q1 e.symm
  obtain ⟨P2, hP2⟩ : ∃ x : wPS, x = newA S q1 11 4 := ⟨_, rfl⟩
  rw [← hP2] at hP hD
  replace ob_h : Ob P2 5 h := by rw [hP2]; exact (obA_old hq1 ob_h)
  have ob_q1 : Ob P2 11 q1 := by rw [hP2]; exact obA_new (n := 4)
  replace hall : ∀ a, a ∈ pL P2 → a ∈ [q1, h] := fun a ha => by rw [hP2] at ha; exact (List.mem_append.mp ha).elim (fun h1 => List.mem_cons_of_mem _ (hall a h1)) (fun h1 => by rw [List.mem_singleton.mp h1]; exact List.mem_cons_self)
  refine rps_Pickwave_aisles F hK hP hD hS ob_h kw_15 hin rfl dX5_init_9 (fun H locs hP hD hS => ?_)
  obtain ⟨P3, hP3⟩ : ∃ x : wPS, x = setG P2 50 h (some q1) := ⟨_, rfl⟩
  rw [← hP3] at hP hD
  replace ob_h : Ob P3 5 h := by rw [hP3]; exact ob_h
  replace ob_q1 : Ob P3 11 q1 := by rw [hP3]; exact ob_q1
  replace hall : ∀ a, a ∈ pL P3 → a ∈ [q1, h] := fun a ha => hall a (by rw [hP3] at ha; exact ha)
  refine lv_iconst (v := 0) hx hb dX5_init_12 (by decide) ?_
  refine lv_istore_n (lv' := [(1, .int 0), (0, .ref h)]) hx hb dX5_init_13 rfl hl (by decide) rfl (fun ls hl => ?_)
  refine lv_iload_n hx hb dX5_init_14 rfl (lv_at hl 0 rfl) ?_
  refine lv_aload_n hx hb dX5_init_15 rfl (lv_at hl 1 rfl) ?_
  refine rs_Pickwave_aisles (b := q1) F hK hP ob_h (show pG P3 50 h = (some q1) from by rw [hP3]; exact uG_at) kw_15 dX5_init_16 ?_
  refine rl_Aisle (v := 4) F hK hP ob_q1 (congrArg Int32.ofNat ((show pN P3 q1 = pN P2 q1 from by rw [hP3]; exact rfl).trans (show pN P2 q1 = 4 from by rw [hP2]; exact va_up_self _ _ _))) dX5_init_19 ?_
  refine lv_icmp_ge (tgt := 43) hx hb dX5_init_20 (by decide) (fun c4 => ?_) (fun c4 => ?_)
  · exact absurd c4 (by decide)
  · refine lv_aload_n hx hb dX5_init_23 rfl (lv_at hl 1 rfl) ?_
    refine rs_Pickwave_aisles (b := q1) F hK hP ob_h (show pG P3 50 h = (some q1) from by rw [hP3]; exact uG_at) kw_15 dX5_init_24 ?_
    refine lv_iload_n hx hb dX5_init_27 rfl (lv_at hl 0 rfl) ?_
    refine rn_Aisle F hK hP hD hS hA kw_14 kw_16 kw_17 (Nat.le_of_ble_eq_true rfl) (Nat.le_of_ble_eq_true rfl) dX5_init_28 (fun q5 H hq5 hP hD hS => ?_)
    have n_h_q5 : h ≠ q5 := fun e => hq5 (by rw [← e]; exact ob_h.1)
    have n_q5_h : q5 ≠ h := fun e => n_h_q5 e.symm
    have n_q1_q5 : q1 ≠ q5 := fun e => hq5 (by rw [← e]; exact ob_q1.1)
    have n_q5_q1 : q5 ≠ q1 := fun e => n_q1_q5 e.symm
    obtain ⟨P6, hP6⟩ : ∃ x : wPS, x = newO P3 q5 0 := ⟨_, rfl⟩
    rw [← hP6] at hP hD
    replace ob_h : Ob P6 5 h := by rw [hP6]; exact (obO_old hq5 ob_h)
    replace ob_q1 : Ob P6 11 q1 := by rw [hP6]; exact (obO_old hq5 ob_q1)
    have ob_q5 : Ob P6 0 q5 := by rw [hP6]; exact obO_new
    replace hall : ∀ a, a ∈ pL P6 → a ∈ [q5, q1, h] := fun a ha => by rw [hP6] at ha; exact (List.mem_append.mp ha).elim (fun h1 => List.mem_cons_of_mem _ (hall a h1)) (fun h1 => by rw [List.mem_singleton.mp h1]; exact List.mem_cons_self)
    refine lv_dup hx hb dX5_init_31 rfl ?_
    refine lv_iload_n hx hb dX5_init_32 rfl (lv_at hl 0 rfl) ?_
    refine kcallU (kIn (n := 1) (As := [.int 0]) (rest := [.ref q5, .int 0, .ref q1]) (b := q5) F hE hK hP hD hS hA (c_X0_init l hl0 g e0 P6 _ q5 0 ob_q5) kw_33 kw_34 kw_17 kw_35 rfl (by decide +kernel) ⟨Nat.le_of_ble_eq_true rfl, Nat.le_of_ble_eq_true rfl⟩ rfl hl.1 rfl (Nat.le_of_ble_eq_true rfl) dX5_init_33 ⟨Nat.le_of_ble_eq_true rfl, Nat.le_of_ble_eq_true rfl⟩) rfl hD hS hA (fun _ _ _ _ _ h => False.elim h) (fun T7 H locs hp hP hD hS => ?_)
    have hQ8 := hp
    replace ob_h : Ob T7 5 h := by rw [hQ8]; exact ob_h
    replace ob_q1 : Ob T7 11 q1 := by rw [hQ8]; exact ob_q1
    replace ob_q5 : Ob T7 0 q5 := by rw [hQ8]; exact ob_q5
    replace hall : ∀ a, a ∈ pL T7 → a ∈ [q5, q1, h] := fun a ha => hall a (by rw [hQ8] at ha; exact ha)
    refine rt_Aisle_Aisle F hK hP hD hS ob_q1 ob_q5 (by rw [((show pN T7 q1 = pN P6 q1 from by rw [hQ8]; exact rfl).trans ((show pN P6 q1 = pN P3 q1 from by rw [hP6]; exact rfl).trans ((show pN P3 q1 = pN P2 q1 from by rw [hP3]; exact rfl).trans (show pN P2 q1 = 4 from by rw [hP2]; exact va_up_self _ _ _))))]; exact vp_in_nI (n := 0) (by decide) (by decide)) dX5_init_36 (fun H locs hP hD hS => ?_)
    obtain ⟨P9, hP9⟩ : ∃ x : wPS, x = setY T7 q1 (va_up (pY T7 q1) (0 : Int32).toNatClampNeg (some q5)) := ⟨_, rfl⟩
    rw [← hP9] at hP hD
    replace ob_h : Ob P9 5 h := by rw [hP9]; exact ob_h
    replace ob_q1 : Ob P9 11 q1 := by rw [hP9]; exact ob_q1
    replace ob_q5 : Ob P9 0 q5 := by rw [hP9]; exact ob_q5
    replace hall : ∀ a, a ∈ pL P9 → a ∈ [q5, q1, h] := fun a ha => hall a (by rw [hP9] at ha; exact ha)
    refine lv_iinc (v := 1) (lv' := [(1, .int 1), (0, .ref h)]) hx hb dX5_init_37 hl (k := 0) rfl (by decide) (by decide) rfl (fun ls hl => ?_)
    refine lv_goto (tgt := 14) hx hb dX5_init_40 (by decide) ?_
    refine lv_iload_n hx hb dX5_init_14 rfl (lv_at hl 0 rfl) ?_
    refine lv_aload_n hx hb dX5_init_15 rfl (lv_at hl 1 rfl) ?_
    refine rs_Pickwave_aisles (b := q1) F hK hP ob_h ((show pG P9 50 h = pG T7 50 h from by rw [hP9]; exact rfl).trans ((show pG T7 50 h = pG P6 50 h from by rw [hQ8]; exact rfl).trans ((show pG P6 50 h = pG P3 50 h from by rw [hP6]; exact va_up_ne _ _ n_h_q5).trans (show pG P3 50 h = (some q1) from by rw [hP3]; exact uG_at)))) kw_15 dX5_init_16 ?_
    refine rl_Aisle (v := 4) F hK hP ob_q1 (congrArg Int32.ofNat ((show pN P9 q1 = pN T7 q1 from by rw [hP9]; exact rfl).trans ((show pN T7 q1 = pN P6 q1 from by rw [hQ8]; exact rfl).trans ((show pN P6 q1 = pN P3 q1 from by rw [hP6]; exact rfl).trans ((show pN P3 q1 = pN P2 q1 from by rw [hP3]; exact rfl).trans (show pN P2 q1 = 4 from by rw [hP2]; exact va_up_self _ _ _)))))) dX5_init_19 ?_
    refine lv_icmp_ge (tgt := 43) hx hb dX5_init_20 (by decide) (fun c10 => ?_) (fun c10 => ?_)
    · exact absurd c10 (by decide)
    · refine lv_aload_n hx hb dX5_init_23 rfl (lv_at hl 1 rfl) ?_
      refine rs_Pickwave_aisles (b := q1) F hK hP ob_h ((show pG P9 50 h = pG T7 50 h from by rw [hP9]; exact rfl).trans ((show pG T7 50 h = pG P6 50 h from by rw [hQ8]; exact rfl).trans ((show pG P6 50 h = pG P3 50 h from by rw [hP6]; exact va_up_ne _ _ n_h_q5).trans (show pG P3 50 h = (some q1) from by rw [hP3]; exact uG_at)))) kw_15 dX5_init_24 ?_
      refine lv_iload_n hx hb dX5_init_27 rfl (lv_at hl 0 rfl) ?_
      refine rn_Aisle F hK hP hD hS hA kw_14 kw_16 kw_17 (Nat.le_of_ble_eq_true rfl) (Nat.le_of_ble_eq_true rfl) dX5_init_28 (fun q11 H hq11 hP hD hS => ?_)
      have n_h_q11 : h ≠ q11 := fun e => hq11 (by rw [← e]; exact ob_h.1)
      have n_q11_h : q11 ≠ h := fun e => n_h_q11 e.symm
      have n_q1_q11 : q1 ≠ q11 := fun e => hq11 (by rw [← e]; exact ob_q1.1)
      have n_q11_q1 : q11 ≠ q1 := fun e => n_q1_q11 e.symm
      have n_q5_q11 : q5 ≠ q11 := fun e => hq11 (by rw [← e]; exact ob_q5.1)
      have n_q11_q5 : q11 ≠ q5 := fun e => n_q5_q11 e.symm
      obtain ⟨P12, hP12⟩ : ∃ x : wPS, x = newO P9 q11 0 := ⟨_, rfl⟩
      rw [← hP12] at hP hD
      replace ob_h : Ob P12 5 h := by rw [hP12]; exact (obO_old hq11 ob_h)
      replace ob_q1 : Ob P12 11 q1 := by rw [hP12]; exact (obO_old hq11 ob_q1)
      replace ob_q5 : Ob P12 0 q5 := by rw [hP12]; exact (obO_old hq11 ob_q5)
      have ob_q11 : Ob P12 0 q11 := by rw [hP12]; exact obO_new
      replace hall : ∀ a, a ∈ pL P12 → a ∈ [q11, q5, q1, h] := fun a ha => by rw [hP12] at ha; exact (List.mem_append.mp ha).elim (fun h1 => List.mem_cons_of_mem _ (hall a h1)) (fun h1 => by rw [List.mem_singleton.mp h1]; exact List.mem_cons_self)
      refine lv_dup hx hb dX5_init_31 rfl ?_
      refine lv_iload_n hx hb dX5_init_32 rfl (lv_at hl 0 rfl) ?_
      refine kcallU (kIn (n := 1) (As := [.int 1]) (rest := [.ref q11, .int 1, .ref q1]) (b := q11) F hE hK hP hD hS hA (c_X0_init l hl0 g e0 P12 _ q11 1 ob_q11) kw_33 kw_34 kw_17 kw_35 rfl (by decide +kernel) ⟨Nat.le_of_ble_eq_true rfl, Nat.le_of_ble_eq_true rfl⟩ rfl hl.1 rfl (Nat.le_of_ble_eq_true rfl) dX5_init_33 ⟨Nat.le_of_ble_eq_true rfl, Nat.le_of_ble_eq_true rfl⟩) rfl hD hS hA (fun _ _ _ _ _ h => False.elim h) (fun T13 H locs hp hP hD hS => ?_)
      have hQ14 := hp
      replace ob_h : Ob T13 5 h := by rw [hQ14]; exact ob_h
      replace ob_q1 : Ob T13 11 q1 := by rw [hQ14]; exact ob_q1
      replace ob_q5 : Ob T13 0 q5 := by rw [hQ14]; exact ob_q5
      replace ob_q11 : Ob T13 0 q11 := by rw [hQ14]; exact ob_q11
      replace hall : ∀ a, a ∈ pL T13 → a ∈ [q11, q5, q1, h] := fun a ha => hall a (by rw [hQ14] at ha; exact ha)
      refine rt_Aisle_Aisle F hK hP hD hS ob_q1 ob_q11 (by rw [((show pN T13 q1 = pN P12 q1 from by rw [hQ14]; exact rfl).trans ((show pN P12 q1 = pN P9 q1 from by rw [hP12]; exact rfl).trans ((show pN P9 q1 = pN T7 q1 from by rw [hP9]; exact rfl).trans ((show pN T7 q1 = pN P6 q1 from by rw [hQ8]; exact rfl).trans ((show pN P6 q1 = pN P3 q1 from by rw [hP6]; exact rfl).trans ((show pN P3 q1 = pN P2 q1 from by rw [hP3]; exact rfl).trans (show pN P2 q1 = 4 from by rw [hP2]; exact va_up_self _ _ _)))))))]; exact vp_in_nI (n := 1) (by decide) (by decide)) dX5_init_36 (fun H locs hP hD hS => ?_)
      obtain ⟨P15, hP15⟩ : ∃ x : wPS, x = setY T13 q1 (va_up (pY T13 q1) (1 : Int32).toNatClampNeg (some q11)) := ⟨_, rfl⟩
      rw [← hP15] at hP hD
      replace ob_h : Ob P15 5 h := by rw [hP15]; exact ob_h
      replace ob_q1 : Ob P15 11 q1 := by rw [hP15]; exact ob_q1
      replace ob_q5 : Ob P15 0 q5 := by rw [hP15]; exact ob_q5
      replace ob_q11 : Ob P15 0 q11 := by rw [hP15]; exact ob_q11
      replace hall : ∀ a, a ∈ pL P15 → a ∈ [q11, q5, q1, h] := fun a ha => hall a (by rw [hP15] at ha; exact ha)
      refine lv_iinc (v := 2) (lv' := [(1, .int 2), (0, .ref h)]) hx hb dX5_init_37 hl (k := 0) rfl (by decide) (by decide) rfl (fun ls hl => ?_)
      refine lv_goto (tgt := 14) hx hb dX5_init_40 (by decide) ?_
      refine lv_iload_n hx hb dX5_init_14 rfl (lv_at hl 0 rfl) ?_
      refine lv_aload_n hx hb dX5_init_15 rfl (lv_at hl 1 rfl) ?_
      refine rs_Pickwave_aisles (b := q1) F hK hP ob_h ((show pG P15 50 h = pG T13 50 h from by rw [hP15]; exact rfl).trans ((show pG T13 50 h = pG P12 50 h from by rw [hQ14]; exact rfl).trans ((show pG P12 50 h = pG P9 50 h from by rw [hP12]; exact va_up_ne _ _ n_h_q11).trans ((show pG P9 50 h = pG T7 50 h from by rw [hP9]; exact rfl).trans ((show pG T7 50 h = pG P6 50 h from by rw [hQ8]; exact rfl).trans ((show pG P6 50 h = pG P3 50 h from by rw [hP6]; exact va_up_ne _ _ n_h_q5).trans (show pG P3 50 h = (some q1) from by rw [hP3]; exact uG_at))))))) kw_15 dX5_init_16 ?_
      refine rl_Aisle (v := 4) F hK hP ob_q1 (congrArg Int32.ofNat ((show pN P15 q1 = pN T13 q1 from by rw [hP15]; exact rfl).trans ((show pN T13 q1 = pN P12 q1 from by rw [hQ14]; exact rfl).trans ((show pN P12 q1 = pN P9 q1 from by rw [hP12]; exact rfl).trans ((show pN P9 q1 = pN T7 q1 from by rw [hP9]; exact rfl).trans ((show pN T7 q1 = pN P6 q1 from by rw [hQ8]; exact rfl).trans ((show pN P6 q1 = pN P3 q1 from by rw [hP6]; exact rfl).trans ((show pN P3 q1 = pN P2 q1 from by rw [hP3]; exact rfl).trans (show pN P2 q1 = 4 from by rw [hP2]; exact va_up_self _ _ _))))))))) dX5_init_19 ?_
      refine lv_icmp_ge (tgt := 43) hx hb dX5_init_20 (by decide) (fun c16 => ?_) (fun c16 => ?_)
      · exact absurd c16 (by decide)
      · refine lv_aload_n hx hb dX5_init_23 rfl (lv_at hl 1 rfl) ?_
        refine rs_Pickwave_aisles (b := q1) F hK hP ob_h ((show pG P15 50 h = pG T13 50 h from by rw [hP15]; exact rfl).trans ((show pG T13 50 h = pG P12 50 h from by rw [hQ14]; exact rfl).trans ((show pG P12 50 h = pG P9 50 h from by rw [hP12]; exact va_up_ne _ _ n_h_q11).trans ((show pG P9 50 h = pG T7 50 h from by rw [hP9]; exact rfl).trans ((show pG T7 50 h = pG P6 50 h from by rw [hQ8]; exact rfl).trans ((show pG P6 50 h = pG P3 50 h from by rw [hP6]; exact va_up_ne _ _ n_h_q5).trans (show pG P3 50 h = (some q1) from by rw [hP3]; exact uG_at))))))) kw_15 dX5_init_24 ?_
        refine lv_iload_n hx hb dX5_init_27 rfl (lv_at hl 0 rfl) ?_
        refine rn_Aisle F hK hP hD hS hA kw_14 kw_16 kw_17 (Nat.le_of_ble_eq_true rfl) (Nat.le_of_ble_eq_true rfl) dX5_init_28 (fun q17 H hq17 hP hD hS => ?_)
        have n_h_q17 : h ≠ q17 := fun e => hq17 (by rw [← e]; exact ob_h.1)
        have n_q17_h : q17 ≠ h := fun e => n_h_q17 e.symm
        have n_q1_q17 : q1 ≠ q17 := fun e => hq17 (by rw [← e]; exact ob_q1.1)
        have n_q17_q1 : q17 ≠ q1 := fun e => n_q1_q17 e.symm
        have n_q5_q17 : q5 ≠ q17 := fun e => hq17 (by rw [← e]; exact ob_q5.1)
        have n_q17_q5 : q17 ≠ q5 := fun e => n_q5_q17 e.symm
        have n_q11_q17 : q11 ≠ q17 := fun e => hq17 (by rw [← e]; exact ob_q11.1)
        have n_q17_q11 : q17 ≠ q11 := fun e => n_q11_q17 e.symm
        obtain ⟨P18, hP18⟩ : ∃ x : wPS, x = newO P15 q17 0 := ⟨_, rfl⟩
        rw [← hP18] at hP hD
        replace ob_h : Ob P18 5 h := by rw [hP18]; exact (obO_old hq17 ob_h)
        replace ob_q1 : Ob P18 11 q1 := by rw [hP18]; exact (obO_old hq17 ob_q1)
        replace ob_q5 : Ob P18 0 q5 := by rw [hP18]; exact (obO_old hq17 ob_q5)
        replace ob_q11 : Ob P18 0 q11 := by rw [hP18]; exact (obO_old hq17 ob_q11)
        have ob_q17 : Ob P18 0 q17 := by rw [hP18]; exact obO_new
        replace hall : ∀ a, a ∈ pL P18 → a ∈ [q17, q11, q5, q1, h] := fun a ha => by rw [hP18] at ha; exact (List.mem_append.mp ha).elim (fun h1 => List.mem_cons_of_mem _ (hall a h1)) (fun h1 => by rw [List.mem_singleton.mp h1]; exact List.mem_cons_self)
        refine lv_dup hx hb dX5_init_31 rfl ?_
        refine lv_iload_n hx hb dX5_init_32 rfl (lv_at hl 0 rfl) ?_
        refine kcallU (kIn (n := 1) (As := [.int 2]) (rest := [.ref q17, .int 2, .ref q1]) (b := q17) F hE hK hP hD hS hA (c_X0_init l hl0 g e0 P18 _ q17 2 ob_q17) kw_33 kw_34 kw_17 kw_35 rfl (by decide +kernel) ⟨Nat.le_of_ble_eq_true rfl, Nat.le_of_ble_eq_true rfl⟩ rfl hl.1 rfl (Nat.le_of_ble_eq_true rfl) dX5_init_33 ⟨Nat.le_of_ble_eq_true rfl, Nat.le_of_ble_eq_true rfl⟩) rfl hD hS hA (fun _ _ _ _ _ h => False.elim h) (fun T19 H locs hp hP hD hS => ?_)
        have hQ20 := hp
        replace ob_h : Ob T19 5 h := by rw [hQ20]; exact ob_h
        replace ob_q1 : Ob T19 11 q1 := by rw [hQ20]; exact ob_q1
        replace ob_q5 : Ob T19 0 q5 := by rw [hQ20]; exact ob_q5
        replace ob_q11 : Ob T19 0 q11 := by rw [hQ20]; exact ob_q11
        replace ob_q17 : Ob T19 0 q17 := by rw [hQ20]; exact ob_q17
        replace hall : ∀ a, a ∈ pL T19 → a ∈ [q17, q11, q5, q1, h] := fun a ha => hall a (by rw [hQ20] at ha; exact ha)
        refine rt_Aisle_Aisle F hK hP hD hS ob_q1 ob_q17 (by rw [((show pN T19 q1 = pN P18 q1 from by rw [hQ20]; exact rfl).trans ((show pN P18 q1 = pN P15 q1 from by rw [hP18]; exact rfl).trans ((show pN P15 q1 = pN T13 q1 from by rw [hP15]; exact rfl).trans ((show pN T13 q1 = pN P12 q1 from by rw [hQ14]; exact rfl).trans ((show pN P12 q1 = pN P9 q1 from by rw [hP12]; exact rfl).trans ((show pN P9 q1 = pN T7 q1 from by rw [hP9]; exact rfl).trans ((show pN T7 q1 = pN P6 q1 from by rw [hQ8]; exact rfl).trans ((show pN P6 q1 = pN P3 q1 from by rw [hP6]; exact rfl).trans ((show pN P3 q1 = pN P2 q1 from by rw [hP3]; exact rfl).trans (show pN P2 q1 = 4 from by rw [hP2]; exact va_up_self _ _ _))))))))))]; exact vp_in_nI (n := 2) (by decide) (by decide)) dX5_init_36 (fun H locs hP hD hS => ?_)
        obtain ⟨P21, hP21⟩ : ∃ x : wPS, x = setY T19 q1 (va_up (pY T19 q1) (2 : Int32).toNatClampNeg (some q17)) := ⟨_, rfl⟩
        rw [← hP21] at hP hD
        replace ob_h : Ob P21 5 h := by rw [hP21]; exact ob_h
        replace ob_q1 : Ob P21 11 q1 := by rw [hP21]; exact ob_q1
        replace ob_q5 : Ob P21 0 q5 := by rw [hP21]; exact ob_q5
        replace ob_q11 : Ob P21 0 q11 := by rw [hP21]; exact ob_q11
        replace ob_q17 : Ob P21 0 q17 := by rw [hP21]; exact ob_q17
        replace hall : ∀ a, a ∈ pL P21 → a ∈ [q17, q11, q5, q1, h] := fun a ha => hall a (by rw [hP21] at ha; exact ha)
        refine lv_iinc (v := 3) (lv' := [(1, .int 3), (0, .ref h)]) hx hb dX5_init_37 hl (k := 0) rfl (by decide) (by decide) rfl (fun ls hl => ?_)
        refine lv_goto (tgt := 14) hx hb dX5_init_40 (by decide) ?_
        refine lv_iload_n hx hb dX5_init_14 rfl (lv_at hl 0 rfl) ?_
        refine lv_aload_n hx hb dX5_init_15 rfl (lv_at hl 1 rfl) ?_
        refine rs_Pickwave_aisles (b := q1) F hK hP ob_h ((show pG P21 50 h = pG T19 50 h from by rw [hP21]; exact rfl).trans ((show pG T19 50 h = pG P18 50 h from by rw [hQ20]; exact rfl).trans ((show pG P18 50 h = pG P15 50 h from by rw [hP18]; exact va_up_ne _ _ n_h_q17).trans ((show pG P15 50 h = pG T13 50 h from by rw [hP15]; exact rfl).trans ((show pG T13 50 h = pG P12 50 h from by rw [hQ14]; exact rfl).trans ((show pG P12 50 h = pG P9 50 h from by rw [hP12]; exact va_up_ne _ _ n_h_q11).trans ((show pG P9 50 h = pG T7 50 h from by rw [hP9]; exact rfl).trans ((show pG T7 50 h = pG P6 50 h from by rw [hQ8]; exact rfl).trans ((show pG P6 50 h = pG P3 50 h from by rw [hP6]; exact va_up_ne _ _ n_h_q5).trans (show pG P3 50 h = (some q1) from by rw [hP3]; exact uG_at)))))))))) kw_15 dX5_init_16 ?_
        refine rl_Aisle (v := 4) F hK hP ob_q1 (congrArg Int32.ofNat ((show pN P21 q1 = pN T19 q1 from by rw [hP21]; exact rfl).trans ((show pN T19 q1 = pN P18 q1 from by rw [hQ20]; exact rfl).trans ((show pN P18 q1 = pN P15 q1 from by rw [hP18]; exact rfl).trans ((show pN P15 q1 = pN T13 q1 from by rw [hP15]; exact rfl).trans ((show pN T13 q1 = pN P12 q1 from by rw [hQ14]; exact rfl).trans ((show pN P12 q1 = pN P9 q1 from by rw [hP12]; exact rfl).trans ((show pN P9 q1 = pN T7 q1 from by rw [hP9]; exact rfl).trans ((show pN T7 q1 = pN P6 q1 from by rw [hQ8]; exact rfl).trans ((show pN P6 q1 = pN P3 q1 from by rw [hP6]; exact rfl).trans ((show pN P3 q1 = pN P2 q1 from by rw [hP3]; exact rfl).trans (show pN P2 q1 = 4 from by rw [hP2]; exact va_up_self _ _ _)))))))))))) dX5_init_19 ?_
        refine lv_icmp_ge (tgt := 43) hx hb dX5_init_20 (by decide) (fun c22 => ?_) (fun c22 => ?_)
        · exact absurd c22 (by decide)
        · refine lv_aload_n hx hb dX5_init_23 rfl (lv_at hl 1 rfl) ?_
          refine rs_Pickwave_aisles (b := q1) F hK hP ob_h ((show pG P21 50 h = pG T19 50 h from by rw [hP21]; exact rfl).trans ((show pG T19 50 h = pG P18 50 h from by rw [hQ20]; exact rfl).trans ((show pG P18 50 h = pG P15 50 h from by rw [hP18]; exact va_up_ne _ _ n_h_q17).trans ((show pG P15 50 h = pG T13 50 h from by rw [hP15]; exact rfl).trans ((show pG T13 50 h = pG P12 50 h from by rw [hQ14]; exact rfl).trans ((show pG P12 50 h = pG P9 50 h from by rw [hP12]; exact va_up_ne _ _ n_h_q11).trans ((show pG P9 50 h = pG T7 50 h from by rw [hP9]; exact rfl).trans ((show pG T7 50 h = pG P6 50 h from by rw [hQ8]; exact rfl).trans ((show pG P6 50 h = pG P3 50 h from by rw [hP6]; exact va_up_ne _ _ n_h_q5).trans (show pG P3 50 h = (some q1) from by rw [hP3]; exact uG_at)))))))))) kw_15 dX5_init_24 ?_
          refine lv_iload_n hx hb dX5_init_27 rfl (lv_at hl 0 rfl) ?_
          refine rn_Aisle F hK hP hD hS hA kw_14 kw_16 kw_17 (Nat.le_of_ble_eq_true rfl) (Nat.le_of_ble_eq_true rfl) dX5_init_28 (fun q23 H hq23 hP hD hS => ?_)
          have n_h_q23 : h ≠ q23 := fun e => hq23 (by rw [← e]; exact ob_h.1)
          have n_q23_h : q23 ≠ h := fun e => n_h_q23 e.symm
          have n_q1_q23 : q1 ≠ q23 := fun e => hq23 (by rw [← e]; exact ob_q1.1)
          have n_q23_q1 : q23 ≠ q1 := fun e => n_q1_q23 e.symm
          have n_q5_q23 : q5 ≠ q23 := fun e => hq23 (by rw [← e]; exact ob_q5.1)
          have n_q23_q5 : q23 ≠ q5 := fun e => n_q5_q23 e.symm
          have n_q11_q23 : q11 ≠ q23 := fun e => hq23 (by rw [← e]; exact ob_q11.1)
          have n_q23_q11 : q23 ≠ q11 := fun e => n_q11_q23 e.symm
          have n_q17_q23 : q17 ≠ q23 := fun e => hq23 (by rw [← e]; exact ob_q17.1)
          have n_q23_q17 : q23 ≠ q17 := fun e => n_q17_q23 e.symm
          obtain ⟨P24, hP24⟩ : ∃ x : wPS, x = newO P21 q23 0 := ⟨_, rfl⟩
          rw [← hP24] at hP hD
          replace ob_h : Ob P24 5 h := by rw [hP24]; exact (obO_old hq23 ob_h)
          replace ob_q1 : Ob P24 11 q1 := by rw [hP24]; exact (obO_old hq23 ob_q1)
          replace ob_q5 : Ob P24 0 q5 := by rw [hP24]; exact (obO_old hq23 ob_q5)
          replace ob_q11 : Ob P24 0 q11 := by rw [hP24]; exact (obO_old hq23 ob_q11)
          replace ob_q17 : Ob P24 0 q17 := by rw [hP24]; exact (obO_old hq23 ob_q17)
          have ob_q23 : Ob P24 0 q23 := by rw [hP24]; exact obO_new
          replace hall : ∀ a, a ∈ pL P24 → a ∈ [q23, q17, q11, q5, q1, h] := fun a ha => by rw [hP24] at ha; exact (List.mem_append.mp ha).elim (fun h1 => List.mem_cons_of_mem _ (hall a h1)) (fun h1 => by rw [List.mem_singleton.mp h1]; exact List.mem_cons_self)
          refine lv_dup hx hb dX5_init_31 rfl ?_
          refine lv_iload_n hx hb dX5_init_32 rfl (lv_at hl 0 rfl) ?_
          refine kcallU (kIn (n := 1) (As := [.int 3]) (rest := [.ref q23, .int 3, .ref q1]) (b := q23) F hE hK hP hD hS hA (c_X0_init l hl0 g e0 P24 _ q23 3 ob_q23) kw_33 kw_34 kw_17 kw_35 rfl (by decide +kernel) ⟨Nat.le_of_ble_eq_true rfl, Nat.le_of_ble_eq_true rfl⟩ rfl hl.1 rfl (Nat.le_of_ble_eq_true rfl) dX5_init_33 ⟨Nat.le_of_ble_eq_true rfl, Nat.le_of_ble_eq_true rfl⟩) rfl hD hS hA (fun _ _ _ _ _ h => False.elim h) (fun T25 H locs hp hP hD hS => ?_)
          have hQ26 := hp
          replace ob_h : Ob T25 5 h := by rw [hQ26]; exact ob_h
          replace ob_q1 : Ob T25 11 q1 := by rw [hQ26]; exact ob_q1
          replace ob_q5 : Ob T25 0 q5 := by rw [hQ26]; exact ob_q5
          replace ob_q11 : Ob T25 0 q11 := by rw [hQ26]; exact ob_q11
          replace ob_q17 : Ob T25 0 q17 := by rw [hQ26]; exact ob_q17
          replace ob_q23 : Ob T25 0 q23 := by rw [hQ26]; exact ob_q23
          replace hall : ∀ a, a ∈ pL T25 → a ∈ [q23, q17, q11, q5, q1, h] := fun a ha => hall a (by rw [hQ26] at ha; exact ha)
          refine rt_Aisle_Aisle F hK hP hD hS ob_q1 ob_q23 (by rw [((show pN T25 q1 = pN P24 q1 from by rw [hQ26]; exact rfl).trans ((show pN P24 q1 = pN P21 q1 from by rw [hP24]; exact rfl).trans ((show pN P21 q1 = pN T19 q1 from by rw [hP21]; exact rfl).trans ((show pN T19 q1 = pN P18 q1 from by rw [hQ20]; exact rfl).trans ((show pN P18 q1 = pN P15 q1 from by rw [hP18]; exact rfl).trans ((show pN P15 q1 = pN T13 q1 from by rw [hP15]; exact rfl).trans ((show pN T13 q1 = pN P12 q1 from by rw [hQ14]; exact rfl).trans ((show pN P12 q1 = pN P9 q1 from by rw [hP12]; exact rfl).trans ((show pN P9 q1 = pN T7 q1 from by rw [hP9]; exact rfl).trans ((show pN T7 q1 = pN P6 q1 from by rw [hQ8]; exact rfl).trans ((show pN P6 q1 = pN P3 q1 from by rw [hP6]; exact rfl).trans ((show pN P3 q1 = pN P2 q1 from by rw [hP3]; exact rfl).trans (show pN P2 q1 = 4 from by rw [hP2]; exact va_up_self _ _ _)))))))))))))]; exact vp_in_nI (n := 3) (by decide) (by decide)) dX5_init_36 (fun H locs hP hD hS => ?_)
          obtain ⟨P27, hP27⟩ : ∃ x : wPS, x = setY T25 q1 (va_up (pY T25 q1) (3 : Int32).toNatClampNeg (some q23)) := ⟨_, rfl⟩
          rw [← hP27] at hP hD
          replace ob_h : Ob P27 5 h := by rw [hP27]; exact ob_h
          replace ob_q1 : Ob P27 11 q1 := by rw [hP27]; exact ob_q1
          replace ob_q5 : Ob P27 0 q5 := by rw [hP27]; exact ob_q5
          replace ob_q11 : Ob P27 0 q11 := by rw [hP27]; exact ob_q11
          replace ob_q17 : Ob P27 0 q17 := by rw [hP27]; exact ob_q17
          replace ob_q23 : Ob P27 0 q23 := by rw [hP27]; exact ob_q23
          replace hall : ∀ a, a ∈ pL P27 → a ∈ [q23, q17, q11, q5, q1, h] := fun a ha => hall a (by rw [hP27] at ha; exact ha)
          refine lv_iinc (v := 4) (lv' := [(1, .int 4), (0, .ref h)]) hx hb dX5_init_37 hl (k := 0) rfl (by decide) (by decide) rfl (fun ls hl => ?_)
          refine lv_goto (tgt := 14) hx hb dX5_init_40 (by decide) ?_
          refine lv_iload_n hx hb dX5_init_14 rfl (lv_at hl 0 rfl) ?_
          refine lv_aload_n hx hb dX5_init_15 rfl (lv_at hl 1 rfl) ?_
          refine rs_Pickwave_aisles (b := q1) F hK hP ob_h ((show pG P27 50 h = pG T25 50 h from by rw [hP27]; exact rfl).trans ((show pG T25 50 h = pG P24 50 h from by rw [hQ26]; exact rfl).trans ((show pG P24 50 h = pG P21 50 h from by rw [hP24]; exact va_up_ne _ _ n_h_q23).trans ((show pG P21 50 h = pG T19 50 h from by rw [hP21]; exact rfl).trans ((show pG T19 50 h = pG P18 50 h from by rw [hQ20]; exact rfl).trans ((show pG P18 50 h = pG P15 50 h from by rw [hP18]; exact va_up_ne _ _ n_h_q17).trans ((show pG P15 50 h = pG T13 50 h from by rw [hP15]; exact rfl).trans ((show pG T13 50 h = pG P12 50 h from by rw [hQ14]; exact rfl).trans ((show pG P12 50 h = pG P9 50 h from by rw [hP12]; exact va_up_ne _ _ n_h_q11).trans ((show pG P9 50 h = pG T7 50 h from by rw [hP9]; exact rfl).trans ((show pG T7 50 h = pG P6 50 h from by rw [hQ8]; exact rfl).trans ((show pG P6 50 h = pG P3 50 h from by rw [hP6]; exact va_up_ne _ _ n_h_q5).trans (show pG P3 50 h = (some q1) from by rw [hP3]; exact uG_at))))))))))))) kw_15 dX5_init_16 ?_
          refine rl_Aisle (v := 4) F hK hP ob_q1 (congrArg Int32.ofNat ((show pN P27 q1 = pN T25 q1 from by rw [hP27]; exact rfl).trans ((show pN T25 q1 = pN P24 q1 from by rw [hQ26]; exact rfl).trans ((show pN P24 q1 = pN P21 q1 from by rw [hP24]; exact rfl).trans ((show pN P21 q1 = pN T19 q1 from by rw [hP21]; exact rfl).trans ((show pN T19 q1 = pN P18 q1 from by rw [hQ20]; exact rfl).trans ((show pN P18 q1 = pN P15 q1 from by rw [hP18]; exact rfl).trans ((show pN P15 q1 = pN T13 q1 from by rw [hP15]; exact rfl).trans ((show pN T13 q1 = pN P12 q1 from by rw [hQ14]; exact rfl).trans ((show pN P12 q1 = pN P9 q1 from by rw [hP12]; exact rfl).trans ((show pN P9 q1 = pN T7 q1 from by rw [hP9]; exact rfl).trans ((show pN T7 q1 = pN P6 q1 from by rw [hQ8]; exact rfl).trans ((show pN P6 q1 = pN P3 q1 from by rw [hP6]; exact rfl).trans ((show pN P3 q1 = pN P2 q1 from by rw [hP3]; exact rfl).trans (show pN P2 q1 = 4 from by rw [hP2]; exact va_up_self _ _ _))))))))))))))) dX5_init_19 ?_
          refine lv_icmp_ge (tgt := 43) hx hb dX5_init_20 (by decide) (fun c28 => ?_) (fun c28 => ?_)
          · refine lv_aload_n hx hb dX5_init_43 rfl (lv_at hl 1 rfl) ?_
            refine lv_iconst (v := 3) hx hb dX5_init_44 (by decide) ?_
            refine rn_R_I (N := 3) F hK hP hD hS hA kw_18 (by decide) (by decide) (Nat.le_of_ble_eq_true rfl) (Nat.le_of_ble_eq_true rfl) (Nat.le_of_ble_eq_true rfl) dX5_init_45 (fun q29 H hq29 hP hD hS => ?_)
            have n_h_q29 : h ≠ q29 := fun e => hq29 (by rw [← e]; exact ob_h.1)
            have n_q29_h : q29 ≠ h := fun e => n_h_q29 e.symm
            have n_q1_q29 : q1 ≠ q29 := fun e => hq29 (by rw [← e]; exact ob_q1.1)
            have n_q29_q1 : q29 ≠ q1 := fun e => n_q1_q29 e.symm
            have n_q5_q29 : q5 ≠ q29 := fun e => hq29 (by rw [← e]; exact ob_q5.1)
            have n_q29_q5 : q29 ≠ q5 := fun e => n_q5_q29 e.symm
            have n_q11_q29 : q11 ≠ q29 := fun e => hq29 (by rw [← e]; exact ob_q11.1)
            have n_q29_q11 : q29 ≠ q11 := fun e => n_q11_q29 e.symm
            have n_q17_q29 : q17 ≠ q29 := fun e => hq29 (by rw [← e]; exact ob_q17.1)
            have n_q29_q17 : q29 ≠ q17 := fun e => n_q17_q29 e.symm
            have n_q23_q29 : q23 ≠ q29 := fun e => hq29 (by rw [← e]; exact ob_q23.1)
            have n_q29_q23 : q29 ≠ q23 := fun e => n_q23_q29 e.symm
            obtain ⟨P30, hP30⟩ : ∃ x : wPS, x = newA P27 q29 9 3 := ⟨_, rfl⟩
            rw [← hP30] at hP hD
            replace ob_h : Ob P30 5 h := by rw [hP30]; exact (obA_old hq29 ob_h)
            replace ob_q1 : Ob P30 11 q1 := by rw [hP30]; exact (obA_old hq29 ob_q1)
            replace ob_q5 : Ob P30 0 q5 := by rw [hP30]; exact (obA_old hq29 ob_q5)
            replace ob_q11 : Ob P30 0 q11 := by rw [hP30]; exact (obA_old hq29 ob_q11)
            replace ob_q17 : Ob P30 0 q17 := by rw [hP30]; exact (obA_old hq29 ob_q17)
            replace ob_q23 : Ob P30 0 q23 := by rw [hP30]; exact (obA_old hq29 ob_q23)
            have ob_q29 : Ob P30 9 q29 := by rw [hP30]; exact obA_new (n := 3)
            replace hall : ∀ a, a ∈ pL P30 → a ∈ [q29, q23, q17, q11, q5, q1, h] := fun a ha => by rw [hP30] at ha; exact (List.mem_append.mp ha).elim (fun h1 => List.mem_cons_of_mem _ (hall a h1)) (fun h1 => by rw [List.mem_singleton.mp h1]; exact List.mem_cons_self)
            refine rps_Pickwave_cutOffs F hK hP hD hS ob_h kw_19 hin rfl dX5_init_47 (fun H locs hP hD hS => ?_)
            obtain ⟨P31, hP31⟩ : ∃ x : wPS, x = setG P30 51 h (some q29) := ⟨_, rfl⟩
            rw [← hP31] at hP hD
            replace ob_h : Ob P31 5 h := by rw [hP31]; exact ob_h
            replace ob_q1 : Ob P31 11 q1 := by rw [hP31]; exact ob_q1
            replace ob_q5 : Ob P31 0 q5 := by rw [hP31]; exact ob_q5
            replace ob_q11 : Ob P31 0 q11 := by rw [hP31]; exact ob_q11
            replace ob_q17 : Ob P31 0 q17 := by rw [hP31]; exact ob_q17
            replace ob_q23 : Ob P31 0 q23 := by rw [hP31]; exact ob_q23
            replace ob_q29 : Ob P31 9 q29 := by rw [hP31]; exact ob_q29
            replace hall : ∀ a, a ∈ pL P31 → a ∈ [q29, q23, q17, q11, q5, q1, h] := fun a ha => hall a (by rw [hP31] at ha; exact ha)
            refine lv_iconst (v := 0) hx hb dX5_init_50 (by decide) ?_
            refine lv_istore_n (lv' := [(1, .int 0), (0, .ref h)]) hx hb dX5_init_51 rfl hl (by decide) rfl (fun ls hl => ?_)
            refine lv_iload_n hx hb dX5_init_52 rfl (lv_at hl 0 rfl) ?_
            refine lv_aload_n hx hb dX5_init_53 rfl (lv_at hl 1 rfl) ?_
            refine rs_Pickwave_cutOffs (b := q29) F hK hP ob_h (show pG P31 51 h = (some q29) from by rw [hP31]; exact uG_at) kw_19 dX5_init_54 ?_
            refine rl_I (v := 3) F hK hP ob_q29 (congrArg Int32.ofNat ((show pN P31 q29 = pN P30 q29 from by rw [hP31]; exact rfl).trans (show pN P30 q29 = 3 from by rw [hP30]; exact va_up_self _ _ _))) dX5_init_57 ?_
            refine lv_icmp_ge (tgt := 76) hx hb dX5_init_58 (by decide) (fun c32 => ?_) (fun c32 => ?_)
            · exact absurd c32 (by decide)
            · refine lv_aload_n hx hb dX5_init_61 rfl (lv_at hl 1 rfl) ?_
              refine rs_Pickwave_cutOffs (b := q29) F hK hP ob_h (show pG P31 51 h = (some q29) from by rw [hP31]; exact uG_at) kw_19 dX5_init_62 ?_
              refine lv_iload_n hx hb dX5_init_65 rfl (lv_at hl 0 rfl) ?_
              refine lv_sipush (v := 1439) hx hb dX5_init_66 (by decide) ?_
              refine rt_I F hK hP hD hS ob_q29 (by rw [((show pN P31 q29 = pN P30 q29 from by rw [hP31]; exact rfl).trans (show pN P30 q29 = 3 from by rw [hP30]; exact va_up_self _ _ _))]; exact vp_in_nI (n := 0) (by decide) (by decide)) dX5_init_69 (fun H locs hP hD hS => ?_)
              obtain ⟨P33, hP33⟩ : ∃ x : wPS, x = setX P31 q29 (upd (pX P31 q29) (0 : Int32).toNatClampNeg 1439) := ⟨_, rfl⟩
              rw [← hP33] at hP hD
              replace ob_h : Ob P33 5 h := by rw [hP33]; exact ob_h
              replace ob_q1 : Ob P33 11 q1 := by rw [hP33]; exact ob_q1
              replace ob_q5 : Ob P33 0 q5 := by rw [hP33]; exact ob_q5
              replace ob_q11 : Ob P33 0 q11 := by rw [hP33]; exact ob_q11
              replace ob_q17 : Ob P33 0 q17 := by rw [hP33]; exact ob_q17
              replace ob_q23 : Ob P33 0 q23 := by rw [hP33]; exact ob_q23
              replace ob_q29 : Ob P33 9 q29 := by rw [hP33]; exact ob_q29
              replace hall : ∀ a, a ∈ pL P33 → a ∈ [q29, q23, q17, q11, q5, q1, h] := fun a ha => hall a (by rw [hP33] at ha; exact ha)
              refine lv_iinc (v := 1) (lv' := [(1, .int 1), (0, .ref h)]) hx hb dX5_init_70 hl (k := 0) rfl (by decide) (by decide) rfl (fun ls hl => ?_)
              refine lv_goto (tgt := 52) hx hb dX5_init_73 (by decide) ?_
              refine lv_iload_n hx hb dX5_init_52 rfl (lv_at hl 0 rfl) ?_
              refine lv_aload_n hx hb dX5_init_53 rfl (lv_at hl 1 rfl) ?_
              refine rs_Pickwave_cutOffs (b := q29) F hK hP ob_h ((show pG P33 51 h = pG P31 51 h from by rw [hP33]; exact rfl).trans (show pG P31 51 h = (some q29) from by rw [hP31]; exact uG_at)) kw_19 dX5_init_54 ?_
              refine rl_I (v := 3) F hK hP ob_q29 (congrArg Int32.ofNat ((show pN P33 q29 = pN P31 q29 from by rw [hP33]; exact rfl).trans ((show pN P31 q29 = pN P30 q29 from by rw [hP31]; exact rfl).trans (show pN P30 q29 = 3 from by rw [hP30]; exact va_up_self _ _ _)))) dX5_init_57 ?_
              refine lv_icmp_ge (tgt := 76) hx hb dX5_init_58 (by decide) (fun c34 => ?_) (fun c34 => ?_)
              · exact absurd c34 (by decide)
              · refine lv_aload_n hx hb dX5_init_61 rfl (lv_at hl 1 rfl) ?_
                refine rs_Pickwave_cutOffs (b := q29) F hK hP ob_h ((show pG P33 51 h = pG P31 51 h from by rw [hP33]; exact rfl).trans (show pG P31 51 h = (some q29) from by rw [hP31]; exact uG_at)) kw_19 dX5_init_62 ?_
                refine lv_iload_n hx hb dX5_init_65 rfl (lv_at hl 0 rfl) ?_
                refine lv_sipush (v := 1439) hx hb dX5_init_66 (by decide) ?_
                refine rt_I F hK hP hD hS ob_q29 (by rw [((show pN P33 q29 = pN P31 q29 from by rw [hP33]; exact rfl).trans ((show pN P31 q29 = pN P30 q29 from by rw [hP31]; exact rfl).trans (show pN P30 q29 = 3 from by rw [hP30]; exact va_up_self _ _ _)))]; exact vp_in_nI (n := 1) (by decide) (by decide)) dX5_init_69 (fun H locs hP hD hS => ?_)
                obtain ⟨P35, hP35⟩ : ∃ x : wPS, x = setX P33 q29 (upd (pX P33 q29) (1 : Int32).toNatClampNeg 1439) := ⟨_, rfl⟩
                rw [← hP35] at hP hD
                replace ob_h : Ob P35 5 h := by rw [hP35]; exact ob_h
                replace ob_q1 : Ob P35 11 q1 := by rw [hP35]; exact ob_q1
                replace ob_q5 : Ob P35 0 q5 := by rw [hP35]; exact ob_q5
                replace ob_q11 : Ob P35 0 q11 := by rw [hP35]; exact ob_q11
                replace ob_q17 : Ob P35 0 q17 := by rw [hP35]; exact ob_q17
                replace ob_q23 : Ob P35 0 q23 := by rw [hP35]; exact ob_q23
                replace ob_q29 : Ob P35 9 q29 := by rw [hP35]; exact ob_q29
                replace hall : ∀ a, a ∈ pL P35 → a ∈ [q29, q23, q17, q11, q5, q1, h] := fun a ha => hall a (by rw [hP35] at ha; exact ha)
                refine lv_iinc (v := 2) (lv' := [(1, .int 2), (0, .ref h)]) hx hb dX5_init_70 hl (k := 0) rfl (by decide) (by decide) rfl (fun ls hl => ?_)
                refine lv_goto (tgt := 52) hx hb dX5_init_73 (by decide) ?_
                refine lv_iload_n hx hb dX5_init_52 rfl (lv_at hl 0 rfl) ?_
                refine lv_aload_n hx hb dX5_init_53 rfl (lv_at hl 1 rfl) ?_
                refine rs_Pickwave_cutOffs (b := q29) F hK hP ob_h ((show pG P35 51 h = pG P33 51 h from by rw [hP35]; exact rfl).trans ((show pG P33 51 h = pG P31 51 h from by rw [hP33]; exact rfl).trans (show pG P31 51 h = (some q29) from by rw [hP31]; exact uG_at))) kw_19 dX5_init_54 ?_
                refine rl_I (v := 3) F hK hP ob_q29 (congrArg Int32.ofNat ((show pN P35 q29 = pN P33 q29 from by rw [hP35]; exact rfl).trans ((show pN P33 q29 = pN P31 q29 from by rw [hP33]; exact rfl).trans ((show pN P31 q29 = pN P30 q29 from by rw [hP31]; exact rfl).trans (show pN P30 q29 = 3 from by rw [hP30]; exact va_up_self _ _ _))))) dX5_init_57 ?_
                refine lv_icmp_ge (tgt := 76) hx hb dX5_init_58 (by decide) (fun c36 => ?_) (fun c36 => ?_)
                · exact absurd c36 (by decide)
                · refine lv_aload_n hx hb dX5_init_61 rfl (lv_at hl 1 rfl) ?_
                  refine rs_Pickwave_cutOffs (b := q29) F hK hP ob_h ((show pG P35 51 h = pG P33 51 h from by rw [hP35]; exact rfl).trans ((show pG P33 51 h = pG P31 51 h from by rw [hP33]; exact rfl).trans (show pG P31 51 h = (some q29) from by rw [hP31]; exact uG_at))) kw_19 dX5_init_62 ?_
                  refine lv_iload_n hx hb dX5_init_65 rfl (lv_at hl 0 rfl) ?_
                  refine lv_sipush (v := 1439) hx hb dX5_init_66 (by decide) ?_
                  refine rt_I F hK hP hD hS ob_q29 (by rw [((show pN P35 q29 = pN P33 q29 from by rw [hP35]; exact rfl).trans ((show pN P33 q29 = pN P31 q29 from by rw [hP33]; exact rfl).trans ((show pN P31 q29 = pN P30 q29 from by rw [hP31]; exact rfl).trans (show pN P30 q29 = 3 from by rw [hP30]; exact va_up_self _ _ _))))]; exact vp_in_nI (n := 2) (by decide) (by decide)) dX5_init_69 (fun H locs hP hD hS => ?_)
                  obtain ⟨P37, hP37⟩ : ∃ x : wPS, x = setX P35 q29 (upd (pX P35 q29) (2 : Int32).toNatClampNeg 1439) := ⟨_, rfl⟩
                  rw [← hP37] at hP hD
                  replace ob_h : Ob P37 5 h := by rw [hP37]; exact ob_h
                  replace ob_q1 : Ob P37 11 q1 := by rw [hP37]; exact ob_q1
                  replace ob_q5 : Ob P37 0 q5 := by rw [hP37]; exact ob_q5
                  replace ob_q11 : Ob P37 0 q11 := by rw [hP37]; exact ob_q11
                  replace ob_q17 : Ob P37 0 q17 := by rw [hP37]; exact ob_q17
                  replace ob_q23 : Ob P37 0 q23 := by rw [hP37]; exact ob_q23
                  replace ob_q29 : Ob P37 9 q29 := by rw [hP37]; exact ob_q29
                  replace hall : ∀ a, a ∈ pL P37 → a ∈ [q29, q23, q17, q11, q5, q1, h] := fun a ha => hall a (by rw [hP37] at ha; exact ha)
                  refine lv_iinc (v := 3) (lv' := [(1, .int 3), (0, .ref h)]) hx hb dX5_init_70 hl (k := 0) rfl (by decide) (by decide) rfl (fun ls hl => ?_)
                  refine lv_goto (tgt := 52) hx hb dX5_init_73 (by decide) ?_
                  refine lv_iload_n hx hb dX5_init_52 rfl (lv_at hl 0 rfl) ?_
                  refine lv_aload_n hx hb dX5_init_53 rfl (lv_at hl 1 rfl) ?_
                  refine rs_Pickwave_cutOffs (b := q29) F hK hP ob_h ((show pG P37 51 h = pG P35 51 h from by rw [hP37]; exact rfl).trans ((show pG P35 51 h = pG P33 51 h from by rw [hP35]; exact rfl).trans ((show pG P33 51 h = pG P31 51 h from by rw [hP33]; exact rfl).trans (show pG P31 51 h = (some q29) from by rw [hP31]; exact uG_at)))) kw_19 dX5_init_54 ?_
                  refine rl_I (v := 3) F hK hP ob_q29 (congrArg Int32.ofNat ((show pN P37 q29 = pN P35 q29 from by rw [hP37]; exact rfl).trans ((show pN P35 q29 = pN P33 q29 from by rw [hP35]; exact rfl).trans ((show pN P33 q29 = pN P31 q29 from by rw [hP33]; exact rfl).trans ((show pN P31 q29 = pN P30 q29 from by rw [hP31]; exact rfl).trans (show pN P30 q29 = 3 from by rw [hP30]; exact va_up_self _ _ _)))))) dX5_init_57 ?_
                  refine lv_icmp_ge (tgt := 76) hx hb dX5_init_58 (by decide) (fun c38 => ?_) (fun c38 => ?_)
                  · refine lv_aload_n hx hb dX5_init_76 rfl (lv_at hl 1 rfl) ?_
                    refine lv_iconst (v := 2) hx hb dX5_init_77 (by decide) ?_
                    refine rn_R_Robot (N := 2) F hK hP hD hS hA kw_20 hE.2.2.2.2.2.2.1 (by decide) rfl (by decide) (Nat.le_of_ble_eq_true rfl) (Nat.le_of_ble_eq_true rfl) dX5_init_78 (fun q39 H hq39 hP hD hS => ?_)
                    have n_h_q39 : h ≠ q39 := fun e => hq39 (by rw [← e]; exact ob_h.1)
                    have n_q39_h : q39 ≠ h := fun e => n_h_q39 e.symm
                    have n_q1_q39 : q1 ≠ q39 := fun e => hq39 (by rw [← e]; exact ob_q1.1)
                    have n_q39_q1 : q39 ≠ q1 := fun e => n_q1_q39 e.symm
                    have n_q5_q39 : q5 ≠ q39 := fun e => hq39 (by rw [← e]; exact ob_q5.1)
                    have n_q39_q5 : q39 ≠ q5 := fun e => n_q5_q39 e.symm
                    have n_q11_q39 : q11 ≠ q39 := fun e => hq39 (by rw [← e]; exact ob_q11.1)
                    have n_q39_q11 : q39 ≠ q11 := fun e => n_q11_q39 e.symm
                    have n_q17_q39 : q17 ≠ q39 := fun e => hq39 (by rw [← e]; exact ob_q17.1)
                    have n_q39_q17 : q39 ≠ q17 := fun e => n_q17_q39 e.symm
                    have n_q23_q39 : q23 ≠ q39 := fun e => hq39 (by rw [← e]; exact ob_q23.1)
                    have n_q39_q23 : q39 ≠ q23 := fun e => n_q23_q39 e.symm
                    have n_q29_q39 : q29 ≠ q39 := fun e => hq39 (by rw [← e]; exact ob_q29.1)
                    have n_q39_q29 : q39 ≠ q29 := fun e => n_q29_q39 e.symm
                    obtain ⟨P40, hP40⟩ : ∃ x : wPS, x = newA P37 q39 12 2 := ⟨_, rfl⟩
                    rw [← hP40] at hP hD
                    replace ob_h : Ob P40 5 h := by rw [hP40]; exact (obA_old hq39 ob_h)
                    replace ob_q1 : Ob P40 11 q1 := by rw [hP40]; exact (obA_old hq39 ob_q1)
                    replace ob_q5 : Ob P40 0 q5 := by rw [hP40]; exact (obA_old hq39 ob_q5)
                    replace ob_q11 : Ob P40 0 q11 := by rw [hP40]; exact (obA_old hq39 ob_q11)
                    replace ob_q17 : Ob P40 0 q17 := by rw [hP40]; exact (obA_old hq39 ob_q17)
                    replace ob_q23 : Ob P40 0 q23 := by rw [hP40]; exact (obA_old hq39 ob_q23)
                    replace ob_q29 : Ob P40 9 q29 := by rw [hP40]; exact (obA_old hq39 ob_q29)
                    have ob_q39 : Ob P40 12 q39 := by rw [hP40]; exact obA_new (n := 2)
                    replace hall : ∀ a, a ∈ pL P40 → a ∈ [q39, q29, q23, q17, q11, q5, q1, h] := fun a ha => by rw [hP40] at ha; exact (List.mem_append.mp ha).elim (fun h1 => List.mem_cons_of_mem _ (hall a h1)) (fun h1 => by rw [List.mem_singleton.mp h1]; exact List.mem_cons_self)
                    refine rps_Pickwave_robots F hK hP hD hS ob_h kw_21 hin rfl dX5_init_81 (fun H locs hP hD hS => ?_)
                    obtain ⟨P41, hP41⟩ : ∃ x : wPS, x = setG P40 52 h (some q39) := ⟨_, rfl⟩
                    rw [← hP41] at hP hD
                    replace ob_h : Ob P41 5 h := by rw [hP41]; exact ob_h
                    replace ob_q1 : Ob P41 11 q1 := by rw [hP41]; exact ob_q1
                    replace ob_q5 : Ob P41 0 q5 := by rw [hP41]; exact ob_q5
                    replace ob_q11 : Ob P41 0 q11 := by rw [hP41]; exact ob_q11
                    replace ob_q17 : Ob P41 0 q17 := by rw [hP41]; exact ob_q17
                    replace ob_q23 : Ob P41 0 q23 := by rw [hP41]; exact ob_q23
                    replace ob_q29 : Ob P41 9 q29 := by rw [hP41]; exact ob_q29
                    replace ob_q39 : Ob P41 12 q39 := by rw [hP41]; exact ob_q39
                    replace hall : ∀ a, a ∈ pL P41 → a ∈ [q39, q29, q23, q17, q11, q5, q1, h] := fun a ha => hall a (by rw [hP41] at ha; exact ha)
                    refine lv_iconst (v := 0) hx hb dX5_init_84 (by decide) ?_
                    refine lv_istore_n (lv' := [(1, .int 0), (0, .ref h)]) hx hb dX5_init_85 rfl hl (by decide) rfl (fun ls hl => ?_)
                    refine lv_iload_n hx hb dX5_init_86 rfl (lv_at hl 0 rfl) ?_
                    refine lv_aload_n hx hb dX5_init_87 rfl (lv_at hl 1 rfl) ?_
                    refine rs_Pickwave_robots (b := q39) F hK hP ob_h (show pG P41 52 h = (some q39) from by rw [hP41]; exact uG_at) kw_21 dX5_init_88 ?_
                    refine rl_Robot (v := 2) F hK hP ob_q39 (congrArg Int32.ofNat ((show pN P41 q39 = pN P40 q39 from by rw [hP41]; exact rfl).trans (show pN P40 q39 = 2 from by rw [hP40]; exact va_up_self _ _ _))) dX5_init_91 ?_
                    refine lv_icmp_ge (tgt := 114) hx hb dX5_init_92 (by decide) (fun c42 => ?_) (fun c42 => ?_)
                    · exact absurd c42 (by decide)
                    · refine lv_aload_n hx hb dX5_init_95 rfl (lv_at hl 1 rfl) ?_
                      refine rs_Pickwave_robots (b := q39) F hK hP ob_h (show pG P41 52 h = (some q39) from by rw [hP41]; exact uG_at) kw_21 dX5_init_96 ?_
                      refine lv_iload_n hx hb dX5_init_99 rfl (lv_at hl 0 rfl) ?_
                      refine rn_Robot F hK hP hD hS hA kw_20 kw_22 kw_23 (Nat.le_of_ble_eq_true rfl) (Nat.le_of_ble_eq_true rfl) dX5_init_100 (fun q43 H hq43 hP hD hS => ?_)
                      have n_h_q43 : h ≠ q43 := fun e => hq43 (by rw [← e]; exact ob_h.1)
                      have n_q43_h : q43 ≠ h := fun e => n_h_q43 e.symm
                      have n_q1_q43 : q1 ≠ q43 := fun e => hq43 (by rw [← e]; exact ob_q1.1)
                      have n_q43_q1 : q43 ≠ q1 := fun e => n_q1_q43 e.symm
                      have n_q5_q43 : q5 ≠ q43 := fun e => hq43 (by rw [← e]; exact ob_q5.1)
                      have n_q43_q5 : q43 ≠ q5 := fun e => n_q5_q43 e.symm
                      have n_q11_q43 : q11 ≠ q43 := fun e => hq43 (by rw [← e]; exact ob_q11.1)
                      have n_q43_q11 : q43 ≠ q11 := fun e => n_q11_q43 e.symm
                      have n_q17_q43 : q17 ≠ q43 := fun e => hq43 (by rw [← e]; exact ob_q17.1)
                      have n_q43_q17 : q43 ≠ q17 := fun e => n_q17_q43 e.symm
                      have n_q23_q43 : q23 ≠ q43 := fun e => hq43 (by rw [← e]; exact ob_q23.1)
                      have n_q43_q23 : q43 ≠ q23 := fun e => n_q23_q43 e.symm
                      have n_q29_q43 : q29 ≠ q43 := fun e => hq43 (by rw [← e]; exact ob_q29.1)
                      have n_q43_q29 : q43 ≠ q29 := fun e => n_q29_q43 e.symm
                      have n_q39_q43 : q39 ≠ q43 := fun e => hq43 (by rw [← e]; exact ob_q39.1)
                      have n_q43_q39 : q43 ≠ q39 := fun e => n_q39_q43 e.symm
                      obtain ⟨P44, hP44⟩ : ∃ x : wPS, x = newO P41 q43 3 := ⟨_, rfl⟩
                      rw [← hP44] at hP hD
                      replace ob_h : Ob P44 5 h := by rw [hP44]; exact (obO_old hq43 ob_h)
                      replace ob_q1 : Ob P44 11 q1 := by rw [hP44]; exact (obO_old hq43 ob_q1)
                      replace ob_q5 : Ob P44 0 q5 := by rw [hP44]; exact (obO_old hq43 ob_q5)
                      replace ob_q11 : Ob P44 0 q11 := by rw [hP44]; exact (obO_old hq43 ob_q11)
                      replace ob_q17 : Ob P44 0 q17 := by rw [hP44]; exact (obO_old hq43 ob_q17)
                      replace ob_q23 : Ob P44 0 q23 := by rw [hP44]; exact (obO_old hq43 ob_q23)
                      replace ob_q29 : Ob P44 9 q29 := by rw [hP44]; exact (obO_old hq43 ob_q29)
                      replace ob_q39 : Ob P44 12 q39 := by rw [hP44]; exact (obO_old hq43 ob_q39)
                      have ob_q43 : Ob P44 3 q43 := by rw [hP44]; exact obO_new
                      replace hall : ∀ a, a ∈ pL P44 → a ∈ [q43, q39, q29, q23, q17, q11, q5, q1, h] := fun a ha => by rw [hP44] at ha; exact (List.mem_append.mp ha).elim (fun h1 => List.mem_cons_of_mem _ (hall a h1)) (fun h1 => by rw [List.mem_singleton.mp h1]; exact List.mem_cons_self)
                      refine lv_dup hx hb dX5_init_103 rfl ?_
                      refine kcallU (kInN (n := 0) (As := []) (rest := [.ref q43, .int 0, .ref q39]) (b := q43) F hE hK hP hD hS hA (c_X3_init l hl0 g e0 P44 _ q43 ob_q43) hE.2.2.2.2.2.2.2.2.2.2.2.2.1 kw_38 kw_23 kw_39 rfl (by decide +kernel) ⟨Nat.le_of_ble_eq_true rfl, Nat.le_of_ble_eq_true rfl⟩ rfl hl.1 rfl (Nat.le_of_ble_eq_true rfl) dX5_init_104 ⟨Nat.le_of_ble_eq_true rfl, Nat.le_of_ble_eq_true rfl⟩) rfl hD hS hA (fun _ _ _ _ _ h => False.elim h) (fun T45 H locs hp hP hD hS => ?_)
                      have hT := hp.symm
                      subst hT
                      refine rt_Robot_Robot F hK hP hD hS ob_q39 ob_q43 (by rw [((show pN P44 q39 = pN P41 q39 from by rw [hP44]; exact rfl).trans ((show pN P41 q39 = pN P40 q39 from by rw [hP41]; exact rfl).trans (show pN P40 q39 = 2 from by rw [hP40]; exact va_up_self _ _ _)))]; exact vp_in_nI (n := 0) (by decide) (by decide)) dX5_init_107 (fun H locs hP hD hS => ?_)
                      obtain ⟨P46, hP46⟩ : ∃ x : wPS, x = setY P44 q39 (va_up (pY P44 q39) (0 : Int32).toNatClampNeg (some q43)) := ⟨_, rfl⟩
                      rw [← hP46] at hP hD
                      replace ob_h : Ob P46 5 h := by rw [hP46]; exact ob_h
                      replace ob_q1 : Ob P46 11 q1 := by rw [hP46]; exact ob_q1
                      replace ob_q5 : Ob P46 0 q5 := by rw [hP46]; exact ob_q5
                      replace ob_q11 : Ob P46 0 q11 := by rw [hP46]; exact ob_q11
                      replace ob_q17 : Ob P46 0 q17 := by rw [hP46]; exact ob_q17
                      replace ob_q23 : Ob P46 0 q23 := by rw [hP46]; exact ob_q23
                      replace ob_q29 : Ob P46 9 q29 := by rw [hP46]; exact ob_q29
                      replace ob_q39 : Ob P46 12 q39 := by rw [hP46]; exact ob_q39
                      replace ob_q43 : Ob P46 3 q43 := by rw [hP46]; exact ob_q43
                      replace hall : ∀ a, a ∈ pL P46 → a ∈ [q43, q39, q29, q23, q17, q11, q5, q1, h] := fun a ha => hall a (by rw [hP46] at ha; exact ha)
                      refine lv_iinc (v := 1) (lv' := [(1, .int 1), (0, .ref h)]) hx hb dX5_init_108 hl (k := 0) rfl (by decide) (by decide) rfl (fun ls hl => ?_)
                      refine lv_goto (tgt := 86) hx hb dX5_init_111 (by decide) ?_
                      refine lv_iload_n hx hb dX5_init_86 rfl (lv_at hl 0 rfl) ?_
                      refine lv_aload_n hx hb dX5_init_87 rfl (lv_at hl 1 rfl) ?_
                      refine rs_Pickwave_robots (b := q39) F hK hP ob_h ((show pG P46 52 h = pG P44 52 h from by rw [hP46]; exact rfl).trans ((show pG P44 52 h = pG P41 52 h from by rw [hP44]; exact va_up_ne _ _ n_h_q43).trans (show pG P41 52 h = (some q39) from by rw [hP41]; exact uG_at))) kw_21 dX5_init_88 ?_
                      refine rl_Robot (v := 2) F hK hP ob_q39 (congrArg Int32.ofNat ((show pN P46 q39 = pN P44 q39 from by rw [hP46]; exact rfl).trans ((show pN P44 q39 = pN P41 q39 from by rw [hP44]; exact rfl).trans ((show pN P41 q39 = pN P40 q39 from by rw [hP41]; exact rfl).trans (show pN P40 q39 = 2 from by rw [hP40]; exact va_up_self _ _ _))))) dX5_init_91 ?_
                      refine lv_icmp_ge (tgt := 114) hx hb dX5_init_92 (by decide) (fun c47 => ?_) (fun c47 => ?_)
                      · exact absurd c47 (by decide)
                      · refine lv_aload_n hx hb dX5_init_95 rfl (lv_at hl 1 rfl) ?_
                        refine rs_Pickwave_robots (b := q39) F hK hP ob_h ((show pG P46 52 h = pG P44 52 h from by rw [hP46]; exact rfl).trans ((show pG P44 52 h = pG P41 52 h from by rw [hP44]; exact va_up_ne _ _ n_h_q43).trans (show pG P41 52 h = (some q39) from by rw [hP41]; exact uG_at))) kw_21 dX5_init_96 ?_
                        refine lv_iload_n hx hb dX5_init_99 rfl (lv_at hl 0 rfl) ?_
                        refine rn_Robot F hK hP hD hS hA kw_20 kw_22 kw_23 (Nat.le_of_ble_eq_true rfl) (Nat.le_of_ble_eq_true rfl) dX5_init_100 (fun q48 H hq48 hP hD hS => ?_)
                        have n_h_q48 : h ≠ q48 := fun e => hq48 (by rw [← e]; exact ob_h.1)
                        have n_q48_h : q48 ≠ h := fun e => n_h_q48 e.symm
                        have n_q1_q48 : q1 ≠ q48 := fun e => hq48 (by rw [← e]; exact ob_q1.1)
                        have n_q48_q1 : q48 ≠ q1 := fun e => n_q1_q48 e.symm
                        have n_q5_q48 : q5 ≠ q48 := fun e => hq48 (by rw [← e]; exact ob_q5.1)
                        have n_q48_q5 : q48 ≠ q5 := fun e => n_q5_q48 e.symm
                        have n_q11_q48 : q11 ≠ q48 := fun e => hq48 (by rw [← e]; exact ob_q11.1)
                        have n_q48_q11 : q48 ≠ q11 := fun e => n_q11_q48 e.symm
                        have n_q17_q48 : q17 ≠ q48 := fun e => hq48 (by rw [← e]; exact ob_q17.1)
                        have n_q48_q17 : q48 ≠ q17 := fun e => n_q17_q48 e.symm
                        have n_q23_q48 : q23 ≠ q48 := fun e => hq48 (by rw [← e]; exact ob_q23.1)
                        have n_q48_q23 : q48 ≠ q23 := fun e => n_q23_q48 e.symm
                        have n_q29_q48 : q29 ≠ q48 := fun e => hq48 (by rw [← e]; exact ob_q29.1)
                        have n_q48_q29 : q48 ≠ q29 := fun e => n_q29_q48 e.symm
                        have n_q39_q48 : q39 ≠ q48 := fun e => hq48 (by rw [← e]; exact ob_q39.1)
                        have n_q48_q39 : q48 ≠ q39 := fun e => n_q39_q48 e.symm
                        have n_q43_q48 : q43 ≠ q48 := fun e => hq48 (by rw [← e]; exact ob_q43.1)
                        have n_q48_q43 : q48 ≠ q43 := fun e => n_q43_q48 e.symm
                        obtain ⟨P49, hP49⟩ : ∃ x : wPS, x = newO P46 q48 3 := ⟨_, rfl⟩
                        rw [← hP49] at hP hD
                        replace ob_h : Ob P49 5 h := by rw [hP49]; exact (obO_old hq48 ob_h)
                        replace ob_q1 : Ob P49 11 q1 := by rw [hP49]; exact (obO_old hq48 ob_q1)
                        replace ob_q5 : Ob P49 0 q5 := by rw [hP49]; exact (obO_old hq48 ob_q5)
                        replace ob_q11 : Ob P49 0 q11 := by rw [hP49]; exact (obO_old hq48 ob_q11)
                        replace ob_q17 : Ob P49 0 q17 := by rw [hP49]; exact (obO_old hq48 ob_q17)
                        replace ob_q23 : Ob P49 0 q23 := by rw [hP49]; exact (obO_old hq48 ob_q23)
                        replace ob_q29 : Ob P49 9 q29 := by rw [hP49]; exact (obO_old hq48 ob_q29)
                        replace ob_q39 : Ob P49 12 q39 := by rw [hP49]; exact (obO_old hq48 ob_q39)
                        replace ob_q43 : Ob P49 3 q43 := by rw [hP49]; exact (obO_old hq48 ob_q43)
                        have ob_q48 : Ob P49 3 q48 := by rw [hP49]; exact obO_new
                        replace hall : ∀ a, a ∈ pL P49 → a ∈ [q48, q43, q39, q29, q23, q17, q11, q5, q1, h] := fun a ha => by rw [hP49] at ha; exact (List.mem_append.mp ha).elim (fun h1 => List.mem_cons_of_mem _ (hall a h1)) (fun h1 => by rw [List.mem_singleton.mp h1]; exact List.mem_cons_self)
                        refine lv_dup hx hb dX5_init_103 rfl ?_
                        refine kcallU (kInN (n := 0) (As := []) (rest := [.ref q48, .int 1, .ref q39]) (b := q48) F hE hK hP hD hS hA (c_X3_init l hl0 g e0 P49 _ q48 ob_q48) hE.2.2.2.2.2.2.2.2.2.2.2.2.1 kw_38 kw_23 kw_39 rfl (by decide +kernel) ⟨Nat.le_of_ble_eq_true rfl, Nat.le_of_ble_eq_true rfl⟩ rfl hl.1 rfl (Nat.le_of_ble_eq_true rfl) dX5_init_104 ⟨Nat.le_of_ble_eq_true rfl, Nat.le_of_ble_eq_true rfl⟩) rfl hD hS hA (fun _ _ _ _ _ h => False.elim h) (fun T50 H locs hp hP hD hS => ?_)
                        have hT := hp.symm
                        subst hT
                        refine rt_Robot_Robot F hK hP hD hS ob_q39 ob_q48 (by rw [((show pN P49 q39 = pN P46 q39 from by rw [hP49]; exact rfl).trans ((show pN P46 q39 = pN P44 q39 from by rw [hP46]; exact rfl).trans ((show pN P44 q39 = pN P41 q39 from by rw [hP44]; exact rfl).trans ((show pN P41 q39 = pN P40 q39 from by rw [hP41]; exact rfl).trans (show pN P40 q39 = 2 from by rw [hP40]; exact va_up_self _ _ _)))))]; exact vp_in_nI (n := 1) (by decide) (by decide)) dX5_init_107 (fun H locs hP hD hS => ?_)
                        obtain ⟨P51, hP51⟩ : ∃ x : wPS, x = setY P49 q39 (va_up (pY P49 q39) (1 : Int32).toNatClampNeg (some q48)) := ⟨_, rfl⟩
                        rw [← hP51] at hP hD
                        replace ob_h : Ob P51 5 h := by rw [hP51]; exact ob_h
                        replace ob_q1 : Ob P51 11 q1 := by rw [hP51]; exact ob_q1
                        replace ob_q5 : Ob P51 0 q5 := by rw [hP51]; exact ob_q5
                        replace ob_q11 : Ob P51 0 q11 := by rw [hP51]; exact ob_q11
                        replace ob_q17 : Ob P51 0 q17 := by rw [hP51]; exact ob_q17
                        replace ob_q23 : Ob P51 0 q23 := by rw [hP51]; exact ob_q23
                        replace ob_q29 : Ob P51 9 q29 := by rw [hP51]; exact ob_q29
                        replace ob_q39 : Ob P51 12 q39 := by rw [hP51]; exact ob_q39
                        replace ob_q43 : Ob P51 3 q43 := by rw [hP51]; exact ob_q43
                        replace ob_q48 : Ob P51 3 q48 := by rw [hP51]; exact ob_q48
                        replace hall : ∀ a, a ∈ pL P51 → a ∈ [q48, q43, q39, q29, q23, q17, q11, q5, q1, h] := fun a ha => hall a (by rw [hP51] at ha; exact ha)
                        refine lv_iinc (v := 2) (lv' := [(1, .int 2), (0, .ref h)]) hx hb dX5_init_108 hl (k := 0) rfl (by decide) (by decide) rfl (fun ls hl => ?_)
                        refine lv_goto (tgt := 86) hx hb dX5_init_111 (by decide) ?_
                        refine lv_iload_n hx hb dX5_init_86 rfl (lv_at hl 0 rfl) ?_
                        refine lv_aload_n hx hb dX5_init_87 rfl (lv_at hl 1 rfl) ?_
                        refine rs_Pickwave_robots (b := q39) F hK hP ob_h ((show pG P51 52 h = pG P49 52 h from by rw [hP51]; exact rfl).trans ((show pG P49 52 h = pG P46 52 h from by rw [hP49]; exact va_up_ne _ _ n_h_q48).trans ((show pG P46 52 h = pG P44 52 h from by rw [hP46]; exact rfl).trans ((show pG P44 52 h = pG P41 52 h from by rw [hP44]; exact va_up_ne _ _ n_h_q43).trans (show pG P41 52 h = (some q39) from by rw [hP41]; exact uG_at))))) kw_21 dX5_init_88 ?_
                        refine rl_Robot (v := 2) F hK hP ob_q39 (congrArg Int32.ofNat ((show pN P51 q39 = pN P49 q39 from by rw [hP51]; exact rfl).trans ((show pN P49 q39 = pN P46 q39 from by rw [hP49]; exact rfl).trans ((show pN P46 q39 = pN P44 q39 from by rw [hP46]; exact rfl).trans ((show pN P44 q39 = pN P41 q39 from by rw [hP44]; exact rfl).trans ((show pN P41 q39 = pN P40 q39 from by rw [hP41]; exact rfl).trans (show pN P40 q39 = 2 from by rw [hP40]; exact va_up_self _ _ _))))))) dX5_init_91 ?_
                        refine lv_icmp_ge (tgt := 114) hx hb dX5_init_92 (by decide) (fun c52 => ?_) (fun c52 => ?_)
                        · refine lv_aload_n hx hb dX5_init_114 rfl (lv_at hl 1 rfl) ?_
                          refine rn_ArrayList F hK hP hD hS hA kw_24 kw_25 kw_26 (Nat.le_of_ble_eq_true rfl) (Nat.le_of_ble_eq_true rfl) dX5_init_115 (fun q53 H hq53 hP hD hS => ?_)
                          have n_h_q53 : h ≠ q53 := fun e => hq53 (by rw [← e]; exact ob_h.1)
                          have n_q53_h : q53 ≠ h := fun e => n_h_q53 e.symm
                          have n_q1_q53 : q1 ≠ q53 := fun e => hq53 (by rw [← e]; exact ob_q1.1)
                          have n_q53_q1 : q53 ≠ q1 := fun e => n_q1_q53 e.symm
                          have n_q5_q53 : q5 ≠ q53 := fun e => hq53 (by rw [← e]; exact ob_q5.1)
                          have n_q53_q5 : q53 ≠ q5 := fun e => n_q5_q53 e.symm
                          have n_q11_q53 : q11 ≠ q53 := fun e => hq53 (by rw [← e]; exact ob_q11.1)
                          have n_q53_q11 : q53 ≠ q11 := fun e => n_q11_q53 e.symm
                          have n_q17_q53 : q17 ≠ q53 := fun e => hq53 (by rw [← e]; exact ob_q17.1)
                          have n_q53_q17 : q53 ≠ q17 := fun e => n_q17_q53 e.symm
                          have n_q23_q53 : q23 ≠ q53 := fun e => hq53 (by rw [← e]; exact ob_q23.1)
                          have n_q53_q23 : q53 ≠ q23 := fun e => n_q23_q53 e.symm
                          have n_q29_q53 : q29 ≠ q53 := fun e => hq53 (by rw [← e]; exact ob_q29.1)
                          have n_q53_q29 : q53 ≠ q29 := fun e => n_q29_q53 e.symm
                          have n_q39_q53 : q39 ≠ q53 := fun e => hq53 (by rw [← e]; exact ob_q39.1)
                          have n_q53_q39 : q53 ≠ q39 := fun e => n_q39_q53 e.symm
                          have n_q43_q53 : q43 ≠ q53 := fun e => hq53 (by rw [← e]; exact ob_q43.1)
                          have n_q53_q43 : q53 ≠ q43 := fun e => n_q43_q53 e.symm
                          have n_q48_q53 : q48 ≠ q53 := fun e => hq53 (by rw [← e]; exact ob_q48.1)
                          have n_q53_q48 : q53 ≠ q48 := fun e => n_q48_q53 e.symm
                          obtain ⟨P54, hP54⟩ : ∃ x : wPS, x = newO P51 q53 7 := ⟨_, rfl⟩
                          rw [← hP54] at hP hD
                          replace ob_h : Ob P54 5 h := by rw [hP54]; exact (obO_old hq53 ob_h)
                          replace ob_q1 : Ob P54 11 q1 := by rw [hP54]; exact (obO_old hq53 ob_q1)
                          replace ob_q5 : Ob P54 0 q5 := by rw [hP54]; exact (obO_old hq53 ob_q5)
                          replace ob_q11 : Ob P54 0 q11 := by rw [hP54]; exact (obO_old hq53 ob_q11)
                          replace ob_q17 : Ob P54 0 q17 := by rw [hP54]; exact (obO_old hq53 ob_q17)
                          replace ob_q23 : Ob P54 0 q23 := by rw [hP54]; exact (obO_old hq53 ob_q23)
                          replace ob_q29 : Ob P54 9 q29 := by rw [hP54]; exact (obO_old hq53 ob_q29)
                          replace ob_q39 : Ob P54 12 q39 := by rw [hP54]; exact (obO_old hq53 ob_q39)
                          replace ob_q43 : Ob P54 3 q43 := by rw [hP54]; exact (obO_old hq53 ob_q43)
                          replace ob_q48 : Ob P54 3 q48 := by rw [hP54]; exact (obO_old hq53 ob_q48)
                          have ob_q53 : Ob P54 7 q53 := by rw [hP54]; exact obO_new
                          replace hall : ∀ a, a ∈ pL P54 → a ∈ [q53, q48, q43, q39, q29, q23, q17, q11, q5, q1, h] := fun a ha => by rw [hP54] at ha; exact (List.mem_append.mp ha).elim (fun h1 => List.mem_cons_of_mem _ (hall a h1)) (fun h1 => by rw [List.mem_singleton.mp h1]; exact List.mem_cons_self)
                          refine lv_dup hx hb dX5_init_118 rfl ?_
                          refine kcallU (kIn (n := 0) (As := []) (rest := [.ref q53, .ref h]) (b := q53) F hE hK hP hD hS hA (c_Jx4a65c_init_da8c8 l hl0 g e0 P54 _ q53 ob_q53) kw_41 kw_42 kw_26 kw_43 rfl (by decide +kernel) ⟨Nat.le_of_ble_eq_true rfl, Nat.le_of_ble_eq_true rfl⟩ rfl hl.1 rfl (Nat.le_of_ble_eq_true rfl) dX5_init_119 ⟨Nat.le_of_ble_eq_true rfl, Nat.le_of_ble_eq_true rfl⟩) rfl hD hS hA (fun _ _ _ _ _ h => False.elim h) (fun T55 H locs hp hP hD hS => ?_)
                          obtain ⟨P56a, hQ56a, hQ56⟩ := hp
                          replace ob_h : Ob P56a 5 h := by rw [hQ56a]; exact ob_h
                          replace ob_q1 : Ob P56a 11 q1 := by rw [hQ56a]; exact ob_q1
                          replace ob_q5 : Ob P56a 0 q5 := by rw [hQ56a]; exact ob_q5
                          replace ob_q11 : Ob P56a 0 q11 := by rw [hQ56a]; exact ob_q11
                          replace ob_q17 : Ob P56a 0 q17 := by rw [hQ56a]; exact ob_q17
                          replace ob_q23 : Ob P56a 0 q23 := by rw [hQ56a]; exact ob_q23
                          replace ob_q29 : Ob P56a 9 q29 := by rw [hQ56a]; exact ob_q29
                          replace ob_q39 : Ob P56a 12 q39 := by rw [hQ56a]; exact ob_q39
                          replace ob_q43 : Ob P56a 3 q43 := by rw [hQ56a]; exact ob_q43
                          replace ob_q48 : Ob P56a 3 q48 := by rw [hQ56a]; exact ob_q48
                          replace ob_q53 : Ob P56a 7 q53 := by rw [hQ56a]; exact ob_q53
                          replace hall : ∀ a, a ∈ pL P56a → a ∈ [q53, q48, q43, q39, q29, q23, q17, q11, q5, q1, h] := fun a ha => hall a (by rw [hQ56a] at ha; exact ha)
                          replace ob_h : Ob T55 5 h := by rw [hQ56]; exact ob_h
                          replace ob_q1 : Ob T55 11 q1 := by rw [hQ56]; exact ob_q1
                          replace ob_q5 : Ob T55 0 q5 := by rw [hQ56]; exact ob_q5
                          replace ob_q11 : Ob T55 0 q11 := by rw [hQ56]; exact ob_q11
                          replace ob_q17 : Ob T55 0 q17 := by rw [hQ56]; exact ob_q17
                          replace ob_q23 : Ob T55 0 q23 := by rw [hQ56]; exact ob_q23
                          replace ob_q29 : Ob T55 9 q29 := by rw [hQ56]; exact ob_q29
                          replace ob_q39 : Ob T55 12 q39 := by rw [hQ56]; exact ob_q39
                          replace ob_q43 : Ob T55 3 q43 := by rw [hQ56]; exact ob_q43
                          replace ob_q48 : Ob T55 3 q48 := by rw [hQ56]; exact ob_q48
                          replace ob_q53 : Ob T55 7 q53 := by rw [hQ56]; exact ob_q53
                          replace hall : ∀ a, a ∈ pL T55 → a ∈ [q53, q48, q43, q39, q29, q23, q17, q11, q5, q1, h] := fun a ha => hall a (by rw [hQ56] at ha; exact ha)
                          refine rps_Pickwave_articles F hK hP hD hS ob_h kw_27 hin rfl dX5_init_122 (fun H locs hP hD hS => ?_)
                          obtain ⟨P57, hP57⟩ : ∃ x : wPS, x = setG T55 53 h (some q53) := ⟨_, rfl⟩
                          rw [← hP57] at hP hD
                          replace ob_h : Ob P57 5 h := by rw [hP57]; exact ob_h
                          replace ob_q1 : Ob P57 11 q1 := by rw [hP57]; exact ob_q1
                          replace ob_q5 : Ob P57 0 q5 := by rw [hP57]; exact ob_q5
                          replace ob_q11 : Ob P57 0 q11 := by rw [hP57]; exact ob_q11
                          replace ob_q17 : Ob P57 0 q17 := by rw [hP57]; exact ob_q17
                          replace ob_q23 : Ob P57 0 q23 := by rw [hP57]; exact ob_q23
                          replace ob_q29 : Ob P57 9 q29 := by rw [hP57]; exact ob_q29
                          replace ob_q39 : Ob P57 12 q39 := by rw [hP57]; exact ob_q39
                          replace ob_q43 : Ob P57 3 q43 := by rw [hP57]; exact ob_q43
                          replace ob_q48 : Ob P57 3 q48 := by rw [hP57]; exact ob_q48
                          replace ob_q53 : Ob P57 7 q53 := by rw [hP57]; exact ob_q53
                          replace hall : ∀ a, a ∈ pL P57 → a ∈ [q53, q48, q43, q39, q29, q23, q17, q11, q5, q1, h] := fun a ha => hall a (by rw [hP57] at ha; exact ha)
                          refine lv_aload_n hx hb dX5_init_125 rfl (lv_at hl 1 rfl) ?_
                          refine rn_ArrayList F hK hP hD hS hA kw_24 kw_25 kw_26 (Nat.le_of_ble_eq_true rfl) (Nat.le_of_ble_eq_true rfl) dX5_init_126 (fun q58 H hq58 hP hD hS => ?_)
                          have n_h_q58 : h ≠ q58 := fun e => hq58 (by rw [← e]; exact ob_h.1)
                          have n_q58_h : q58 ≠ h := fun e => n_h_q58 e.symm
                          have n_q1_q58 : q1 ≠ q58 := fun e => hq58 (by rw [← e]; exact ob_q1.1)
                          have n_q58_q1 : q58 ≠ q1 := fun e => n_q1_q58 e.symm
                          have n_q5_q58 : q5 ≠ q58 := fun e => hq58 (by rw [← e]; exact ob_q5.1)
                          have n_q58_q5 : q58 ≠ q5 := fun e => n_q5_q58 e.symm
                          have n_q11_q58 : q11 ≠ q58 := fun e => hq58 (by rw [← e]; exact ob_q11.1)
                          have n_q58_q11 : q58 ≠ q11 := fun e => n_q11_q58 e.symm
                          have n_q17_q58 : q17 ≠ q58 := fun e => hq58 (by rw [← e]; exact ob_q17.1)
                          have n_q58_q17 : q58 ≠ q17 := fun e => n_q17_q58 e.symm
                          have n_q23_q58 : q23 ≠ q58 := fun e => hq58 (by rw [← e]; exact ob_q23.1)
                          have n_q58_q23 : q58 ≠ q23 := fun e => n_q23_q58 e.symm
                          have n_q29_q58 : q29 ≠ q58 := fun e => hq58 (by rw [← e]; exact ob_q29.1)
                          have n_q58_q29 : q58 ≠ q29 := fun e => n_q29_q58 e.symm
                          have n_q39_q58 : q39 ≠ q58 := fun e => hq58 (by rw [← e]; exact ob_q39.1)
                          have n_q58_q39 : q58 ≠ q39 := fun e => n_q39_q58 e.symm
                          have n_q43_q58 : q43 ≠ q58 := fun e => hq58 (by rw [← e]; exact ob_q43.1)
                          have n_q58_q43 : q58 ≠ q43 := fun e => n_q43_q58 e.symm
                          have n_q48_q58 : q48 ≠ q58 := fun e => hq58 (by rw [← e]; exact ob_q48.1)
                          have n_q58_q48 : q58 ≠ q48 := fun e => n_q48_q58 e.symm
                          have n_q53_q58 : q53 ≠ q58 := fun e => hq58 (by rw [← e]; exact ob_q53.1)
                          have n_q58_q53 : q58 ≠ q53 := fun e => n_q53_q58 e.symm
                          obtain ⟨P59, hP59⟩ : ∃ x : wPS, x = newO P57 q58 7 := ⟨_, rfl⟩
                          rw [← hP59] at hP hD
                          replace ob_h : Ob P59 5 h := by rw [hP59]; exact (obO_old hq58 ob_h)
                          replace ob_q1 : Ob P59 11 q1 := by rw [hP59]; exact (obO_old hq58 ob_q1)
                          replace ob_q5 : Ob P59 0 q5 := by rw [hP59]; exact (obO_old hq58 ob_q5)
                          replace ob_q11 : Ob P59 0 q11 := by rw [hP59]; exact (obO_old hq58 ob_q11)
                          replace ob_q17 : Ob P59 0 q17 := by rw [hP59]; exact (obO_old hq58 ob_q17)
                          replace ob_q23 : Ob P59 0 q23 := by rw [hP59]; exact (obO_old hq58 ob_q23)
                          replace ob_q29 : Ob P59 9 q29 := by rw [hP59]; exact (obO_old hq58 ob_q29)
                          replace ob_q39 : Ob P59 12 q39 := by rw [hP59]; exact (obO_old hq58 ob_q39)
                          replace ob_q43 : Ob P59 3 q43 := by rw [hP59]; exact (obO_old hq58 ob_q43)
                          replace ob_q48 : Ob P59 3 q48 := by rw [hP59]; exact (obO_old hq58 ob_q48)
                          replace ob_q53 : Ob P59 7 q53 := by rw [hP59]; exact (obO_old hq58 ob_q53)
                          have ob_q58 : Ob P59 7 q58 := by rw [hP59]; exact obO_new
                          replace hall : ∀ a, a ∈ pL P59 → a ∈ [q58, q53, q48, q43, q39, q29, q23, q17, q11, q5, q1, h] := fun a ha => by rw [hP59] at ha; exact (List.mem_append.mp ha).elim (fun h1 => List.mem_cons_of_mem _ (hall a h1)) (fun h1 => by rw [List.mem_singleton.mp h1]; exact List.mem_cons_self)
                          refine lv_dup hx hb dX5_init_129 rfl ?_
                          refine kcallU (kIn (n := 0) (As := []) (rest := [.ref q58, .ref h]) (b := q58) F hE hK hP hD hS hA (c_Jx4a65c_init_da8c8 l hl0 g e0 P59 _ q58 ob_q58) kw_41 kw_42 kw_26 kw_43 rfl (by decide +kernel) ⟨Nat.le_of_ble_eq_true rfl, Nat.le_of_ble_eq_true rfl⟩ rfl hl.1 rfl (Nat.le_of_ble_eq_true rfl) dX5_init_130 ⟨Nat.le_of_ble_eq_true rfl, Nat.le_of_ble_eq_true rfl⟩) rfl hD hS hA (fun _ _ _ _ _ h => False.elim h) (fun T60 H locs hp hP hD hS => ?_)
                          obtain ⟨P61a, hQ61a, hQ61⟩ := hp
                          replace ob_h : Ob P61a 5 h := by rw [hQ61a]; exact ob_h
                          replace ob_q1 : Ob P61a 11 q1 := by rw [hQ61a]; exact ob_q1
                          replace ob_q5 : Ob P61a 0 q5 := by rw [hQ61a]; exact ob_q5
                          replace ob_q11 : Ob P61a 0 q11 := by rw [hQ61a]; exact ob_q11
                          replace ob_q17 : Ob P61a 0 q17 := by rw [hQ61a]; exact ob_q17
                          replace ob_q23 : Ob P61a 0 q23 := by rw [hQ61a]; exact ob_q23
                          replace ob_q29 : Ob P61a 9 q29 := by rw [hQ61a]; exact ob_q29
                          replace ob_q39 : Ob P61a 12 q39 := by rw [hQ61a]; exact ob_q39
                          replace ob_q43 : Ob P61a 3 q43 := by rw [hQ61a]; exact ob_q43
                          replace ob_q48 : Ob P61a 3 q48 := by rw [hQ61a]; exact ob_q48
                          replace ob_q53 : Ob P61a 7 q53 := by rw [hQ61a]; exact ob_q53
                          replace ob_q58 : Ob P61a 7 q58 := by rw [hQ61a]; exact ob_q58
                          replace hall : ∀ a, a ∈ pL P61a → a ∈ [q58, q53, q48, q43, q39, q29, q23, q17, q11, q5, q1, h] := fun a ha => hall a (by rw [hQ61a] at ha; exact ha)
                          replace ob_h : Ob T60 5 h := by rw [hQ61]; exact ob_h
                          replace ob_q1 : Ob T60 11 q1 := by rw [hQ61]; exact ob_q1
                          replace ob_q5 : Ob T60 0 q5 := by rw [hQ61]; exact ob_q5
                          replace ob_q11 : Ob T60 0 q11 := by rw [hQ61]; exact ob_q11
                          replace ob_q17 : Ob T60 0 q17 := by rw [hQ61]; exact ob_q17
                          replace ob_q23 : Ob T60 0 q23 := by rw [hQ61]; exact ob_q23
                          replace ob_q29 : Ob T60 9 q29 := by rw [hQ61]; exact ob_q29
                          replace ob_q39 : Ob T60 12 q39 := by rw [hQ61]; exact ob_q39
                          replace ob_q43 : Ob T60 3 q43 := by rw [hQ61]; exact ob_q43
                          replace ob_q48 : Ob T60 3 q48 := by rw [hQ61]; exact ob_q48
                          replace ob_q53 : Ob T60 7 q53 := by rw [hQ61]; exact ob_q53
                          replace ob_q58 : Ob T60 7 q58 := by rw [hQ61]; exact ob_q58
                          replace hall : ∀ a, a ∈ pL T60 → a ∈ [q58, q53, q48, q43, q39, q29, q23, q17, q11, q5, q1, h] := fun a ha => hall a (by rw [hQ61] at ha; exact ha)
                          refine rps_Pickwave_lines F hK hP hD hS ob_h kw_28 hin rfl dX5_init_133 (fun H locs hP hD hS => ?_)
                          obtain ⟨P62, hP62⟩ : ∃ x : wPS, x = setG T60 54 h (some q58) := ⟨_, rfl⟩
                          rw [← hP62] at hP hD
                          replace ob_h : Ob P62 5 h := by rw [hP62]; exact ob_h
                          replace ob_q1 : Ob P62 11 q1 := by rw [hP62]; exact ob_q1
                          replace ob_q5 : Ob P62 0 q5 := by rw [hP62]; exact ob_q5
                          replace ob_q11 : Ob P62 0 q11 := by rw [hP62]; exact ob_q11
                          replace ob_q17 : Ob P62 0 q17 := by rw [hP62]; exact ob_q17
                          replace ob_q23 : Ob P62 0 q23 := by rw [hP62]; exact ob_q23
                          replace ob_q29 : Ob P62 9 q29 := by rw [hP62]; exact ob_q29
                          replace ob_q39 : Ob P62 12 q39 := by rw [hP62]; exact ob_q39
                          replace ob_q43 : Ob P62 3 q43 := by rw [hP62]; exact ob_q43
                          replace ob_q48 : Ob P62 3 q48 := by rw [hP62]; exact ob_q48
                          replace ob_q53 : Ob P62 7 q53 := by rw [hP62]; exact ob_q53
                          replace ob_q58 : Ob P62 7 q58 := by rw [hP62]; exact ob_q58
                          replace hall : ∀ a, a ∈ pL P62 → a ∈ [q58, q53, q48, q43, q39, q29, q23, q17, q11, q5, q1, h] := fun a ha => hall a (by rw [hP62] at ha; exact ha)
                          refine lv_aload_n hx hb dX5_init_136 rfl (lv_at hl 1 rfl) ?_
                          refine rn_ScanLog F hK hP hD hS hA kw_29 kw_30 kw_31 (Nat.le_of_ble_eq_true rfl) (Nat.le_of_ble_eq_true rfl) dX5_init_137 (fun q63 H hq63 hP hD hS => ?_)
                          have n_h_q63 : h ≠ q63 := fun e => hq63 (by rw [← e]; exact ob_h.1)
                          have n_q63_h : q63 ≠ h := fun e => n_h_q63 e.symm
                          have n_q1_q63 : q1 ≠ q63 := fun e => hq63 (by rw [← e]; exact ob_q1.1)
                          have n_q63_q1 : q63 ≠ q1 := fun e => n_q1_q63 e.symm
                          have n_q5_q63 : q5 ≠ q63 := fun e => hq63 (by rw [← e]; exact ob_q5.1)
                          have n_q63_q5 : q63 ≠ q5 := fun e => n_q5_q63 e.symm
                          have n_q11_q63 : q11 ≠ q63 := fun e => hq63 (by rw [← e]; exact ob_q11.1)
                          have n_q63_q11 : q63 ≠ q11 := fun e => n_q11_q63 e.symm
                          have n_q17_q63 : q17 ≠ q63 := fun e => hq63 (by rw [← e]; exact ob_q17.1)
                          have n_q63_q17 : q63 ≠ q17 := fun e => n_q17_q63 e.symm
                          have n_q23_q63 : q23 ≠ q63 := fun e => hq63 (by rw [← e]; exact ob_q23.1)
                          have n_q63_q23 : q63 ≠ q23 := fun e => n_q23_q63 e.symm
                          have n_q29_q63 : q29 ≠ q63 := fun e => hq63 (by rw [← e]; exact ob_q29.1)
                          have n_q63_q29 : q63 ≠ q29 := fun e => n_q29_q63 e.symm
                          have n_q39_q63 : q39 ≠ q63 := fun e => hq63 (by rw [← e]; exact ob_q39.1)
                          have n_q63_q39 : q63 ≠ q39 := fun e => n_q39_q63 e.symm
                          have n_q43_q63 : q43 ≠ q63 := fun e => hq63 (by rw [← e]; exact ob_q43.1)
                          have n_q63_q43 : q63 ≠ q43 := fun e => n_q43_q63 e.symm
                          have n_q48_q63 : q48 ≠ q63 := fun e => hq63 (by rw [← e]; exact ob_q48.1)
                          have n_q63_q48 : q63 ≠ q48 := fun e => n_q48_q63 e.symm
                          have n_q53_q63 : q53 ≠ q63 := fun e => hq63 (by rw [← e]; exact ob_q53.1)
                          have n_q63_q53 : q63 ≠ q53 := fun e => n_q53_q63 e.symm
                          have n_q58_q63 : q58 ≠ q63 := fun e => hq63 (by rw [← e]; exact ob_q58.1)
                          have n_q63_q58 : q63 ≠ q58 := fun e => n_q58_q63 e.symm
                          obtain ⟨P64, hP64⟩ : ∃ x : wPS, x = newO P62 q63 4 := ⟨_, rfl⟩
                          rw [← hP64] at hP hD
                          replace ob_h : Ob P64 5 h := by rw [hP64]; exact (obO_old hq63 ob_h)
                          replace ob_q1 : Ob P64 11 q1 := by rw [hP64]; exact (obO_old hq63 ob_q1)
                          replace ob_q5 : Ob P64 0 q5 := by rw [hP64]; exact (obO_old hq63 ob_q5)
                          replace ob_q11 : Ob P64 0 q11 := by rw [hP64]; exact (obO_old hq63 ob_q11)
                          replace ob_q17 : Ob P64 0 q17 := by rw [hP64]; exact (obO_old hq63 ob_q17)
                          replace ob_q23 : Ob P64 0 q23 := by rw [hP64]; exact (obO_old hq63 ob_q23)
                          replace ob_q29 : Ob P64 9 q29 := by rw [hP64]; exact (obO_old hq63 ob_q29)
                          replace ob_q39 : Ob P64 12 q39 := by rw [hP64]; exact (obO_old hq63 ob_q39)
                          replace ob_q43 : Ob P64 3 q43 := by rw [hP64]; exact (obO_old hq63 ob_q43)
                          replace ob_q48 : Ob P64 3 q48 := by rw [hP64]; exact (obO_old hq63 ob_q48)
                          replace ob_q53 : Ob P64 7 q53 := by rw [hP64]; exact (obO_old hq63 ob_q53)
                          replace ob_q58 : Ob P64 7 q58 := by rw [hP64]; exact (obO_old hq63 ob_q58)
                          have ob_q63 : Ob P64 4 q63 := by rw [hP64]; exact obO_new
                          replace hall : ∀ a, a ∈ pL P64 → a ∈ [q63, q58, q53, q48, q43, q39, q29, q23, q17, q11, q5, q1, h] := fun a ha => by rw [hP64] at ha; exact (List.mem_append.mp ha).elim (fun h1 => List.mem_cons_of_mem _ (hall a h1)) (fun h1 => by rw [List.mem_singleton.mp h1]; exact List.mem_cons_self)
                          refine lv_dup hx hb dX5_init_140 rfl ?_
                          refine kcallU (kIn (n := 0) (As := []) (rest := [.ref q63, .ref h]) (b := q63) F hE hK hP hD hS hA (c_X4_init l hl0 g e0 P64 _ q63 ob_q63) kw_56 kw_57 kw_31 kw_58 rfl (by decide +kernel) ⟨Nat.le_of_ble_eq_true rfl, Nat.le_of_ble_eq_true rfl⟩ rfl hl.1 rfl (Nat.le_of_ble_eq_true rfl) dX5_init_141 ⟨Nat.le_of_ble_eq_true rfl, Nat.le_of_ble_eq_true rfl⟩) rfl hD hS hA (fun _ _ _ _ _ h => False.elim h) (fun T65 H locs hp hP hD hS => ?_)
                          obtain ⟨k1, k2, A1, A2, A3, hk1, hA1, hA2, hk2, hA3, hA4⟩ := hp
                          have n_h_k1 : h ≠ k1 := fun e => hk1 (by rw [← e]; exact ob_h.1)
                          have n_k1_h : k1 ≠ h := fun e => n_h_k1 e.symm
                          have n_q1_k1 : q1 ≠ k1 := fun e => hk1 (by rw [← e]; exact ob_q1.1)
                          have n_k1_q1 : k1 ≠ q1 := fun e => n_q1_k1 e.symm
                          have n_q5_k1 : q5 ≠ k1 := fun e => hk1 (by rw [← e]; exact ob_q5.1)
                          have n_k1_q5 : k1 ≠ q5 := fun e => n_q5_k1 e.symm
                          have n_q11_k1 : q11 ≠ k1 := fun e => hk1 (by rw [← e]; exact ob_q11.1)
                          have n_k1_q11 : k1 ≠ q11 := fun e => n_q11_k1 e.symm
                          have n_q17_k1 : q17 ≠ k1 := fun e => hk1 (by rw [← e]; exact ob_q17.1)
                          have n_k1_q17 : k1 ≠ q17 := fun e => n_q17_k1 e.symm
                          have n_q23_k1 : q23 ≠ k1 := fun e => hk1 (by rw [← e]; exact ob_q23.1)
                          have n_k1_q23 : k1 ≠ q23 := fun e => n_q23_k1 e.symm
                          have n_q29_k1 : q29 ≠ k1 := fun e => hk1 (by rw [← e]; exact ob_q29.1)
                          have n_k1_q29 : k1 ≠ q29 := fun e => n_q29_k1 e.symm
                          have n_q39_k1 : q39 ≠ k1 := fun e => hk1 (by rw [← e]; exact ob_q39.1)
                          have n_k1_q39 : k1 ≠ q39 := fun e => n_q39_k1 e.symm
                          have n_q43_k1 : q43 ≠ k1 := fun e => hk1 (by rw [← e]; exact ob_q43.1)
                          have n_k1_q43 : k1 ≠ q43 := fun e => n_q43_k1 e.symm
                          have n_q48_k1 : q48 ≠ k1 := fun e => hk1 (by rw [← e]; exact ob_q48.1)
                          have n_k1_q48 : k1 ≠ q48 := fun e => n_q48_k1 e.symm
                          have n_q53_k1 : q53 ≠ k1 := fun e => hk1 (by rw [← e]; exact ob_q53.1)
                          have n_k1_q53 : k1 ≠ q53 := fun e => n_q53_k1 e.symm
                          have n_q58_k1 : q58 ≠ k1 := fun e => hk1 (by rw [← e]; exact ob_q58.1)
                          have n_k1_q58 : k1 ≠ q58 := fun e => n_q58_k1 e.symm
                          have n_q63_k1 : q63 ≠ k1 := fun e => hk1 (by rw [← e]; exact ob_q63.1)
                          have n_k1_q63 : k1 ≠ q63 := fun e => n_q63_k1 e.symm
                          replace ob_h : Ob A1 5 h := by rw [hA1]; exact (obA_old hk1 ob_h)
                          replace ob_q1 : Ob A1 11 q1 := by rw [hA1]; exact (obA_old hk1 ob_q1)
                          replace ob_q5 : Ob A1 0 q5 := by rw [hA1]; exact (obA_old hk1 ob_q5)
                          replace ob_q11 : Ob A1 0 q11 := by rw [hA1]; exact (obA_old hk1 ob_q11)
                          replace ob_q17 : Ob A1 0 q17 := by rw [hA1]; exact (obA_old hk1 ob_q17)
                          replace ob_q23 : Ob A1 0 q23 := by rw [hA1]; exact (obA_old hk1 ob_q23)
                          replace ob_q29 : Ob A1 9 q29 := by rw [hA1]; exact (obA_old hk1 ob_q29)
                          replace ob_q39 : Ob A1 12 q39 := by rw [hA1]; exact (obA_old hk1 ob_q39)
                          replace ob_q43 : Ob A1 3 q43 := by rw [hA1]; exact (obA_old hk1 ob_q43)
                          replace ob_q48 : Ob A1 3 q48 := by rw [hA1]; exact (obA_old hk1 ob_q48)
                          replace ob_q53 : Ob A1 7 q53 := by rw [hA1]; exact (obA_old hk1 ob_q53)
                          replace ob_q58 : Ob A1 7 q58 := by rw [hA1]; exact (obA_old hk1 ob_q58)
                          replace ob_q63 : Ob A1 4 q63 := by rw [hA1]; exact (obA_old hk1 ob_q63)
                          have ob_k1 : Ob A1 9 k1 := by rw [hA1]; exact obA_new (n := 516)
                          replace hall : ∀ a, a ∈ pL A1 → a ∈ [k1, q63, q58, q53, q48, q43, q39, q29, q23, q17, q11, q5, q1, h] := fun a ha => by rw [hA1] at ha; exact (List.mem_append.mp ha).elim (fun h1 => List.mem_cons_of_mem _ (hall a h1)) (fun h1 => by rw [List.mem_singleton.mp h1]; exact List.mem_cons_self)
                          replace ob_h : Ob A2 5 h := by rw [hA2]; exact ob_h
                          replace ob_q1 : Ob A2 11 q1 := by rw [hA2]; exact ob_q1
                          replace ob_q5 : Ob A2 0 q5 := by rw [hA2]; exact ob_q5
                          replace ob_q11 : Ob A2 0 q11 := by rw [hA2]; exact ob_q11
                          replace ob_q17 : Ob A2 0 q17 := by rw [hA2]; exact ob_q17
                          replace ob_q23 : Ob A2 0 q23 := by rw [hA2]; exact ob_q23
                          replace ob_q29 : Ob A2 9 q29 := by rw [hA2]; exact ob_q29
                          replace ob_q39 : Ob A2 12 q39 := by rw [hA2]; exact ob_q39
                          replace ob_q43 : Ob A2 3 q43 := by rw [hA2]; exact ob_q43
                          replace ob_q48 : Ob A2 3 q48 := by rw [hA2]; exact ob_q48
                          replace ob_q53 : Ob A2 7 q53 := by rw [hA2]; exact ob_q53
                          replace ob_q58 : Ob A2 7 q58 := by rw [hA2]; exact ob_q58
                          replace ob_q63 : Ob A2 4 q63 := by rw [hA2]; exact ob_q63
                          replace ob_k1 : Ob A2 9 k1 := by rw [hA2]; exact ob_k1
                          replace hall : ∀ a, a ∈ pL A2 → a ∈ [k1, q63, q58, q53, q48, q43, q39, q29, q23, q17, q11, q5, q1, h] := fun a ha => hall a (by rw [hA2] at ha; exact ha)
                          have n_h_k2 : h ≠ k2 := fun e => hk2 (by rw [← e]; exact ob_h.1)
                          have n_k2_h : k2 ≠ h := fun e => n_h_k2 e.symm
                          have n_q1_k2 : q1 ≠ k2 := fun e => hk2 (by rw [← e]; exact ob_q1.1)
                          have n_k2_q1 : k2 ≠ q1 := fun e => n_q1_k2 e.symm
                          have n_q5_k2 : q5 ≠ k2 := fun e => hk2 (by rw [← e]; exact ob_q5.1)
                          have n_k2_q5 : k2 ≠ q5 := fun e => n_q5_k2 e.symm
                          have n_q11_k2 : q11 ≠ k2 := fun e => hk2 (by rw [← e]; exact ob_q11.1)
                          have n_k2_q11 : k2 ≠ q11 := fun e => n_q11_k2 e.symm
                          have n_q17_k2 : q17 ≠ k2 := fun e => hk2 (by rw [← e]; exact ob_q17.1)
                          have n_k2_q17 : k2 ≠ q17 := fun e => n_q17_k2 e.symm
                          have n_q23_k2 : q23 ≠ k2 := fun e => hk2 (by rw [← e]; exact ob_q23.1)
                          have n_k2_q23 : k2 ≠ q23 := fun e => n_q23_k2 e.symm
                          have n_q29_k2 : q29 ≠ k2 := fun e => hk2 (by rw [← e]; exact ob_q29.1)
                          have n_k2_q29 : k2 ≠ q29 := fun e => n_q29_k2 e.symm
                          have n_q39_k2 : q39 ≠ k2 := fun e => hk2 (by rw [← e]; exact ob_q39.1)
                          have n_k2_q39 : k2 ≠ q39 := fun e => n_q39_k2 e.symm
                          have n_q43_k2 : q43 ≠ k2 := fun e => hk2 (by rw [← e]; exact ob_q43.1)
                          have n_k2_q43 : k2 ≠ q43 := fun e => n_q43_k2 e.symm
                          have n_q48_k2 : q48 ≠ k2 := fun e => hk2 (by rw [← e]; exact ob_q48.1)
                          have n_k2_q48 : k2 ≠ q48 := fun e => n_q48_k2 e.symm
                          have n_q53_k2 : q53 ≠ k2 := fun e => hk2 (by rw [← e]; exact ob_q53.1)
                          have n_k2_q53 : k2 ≠ q53 := fun e => n_q53_k2 e.symm
                          have n_q58_k2 : q58 ≠ k2 := fun e => hk2 (by rw [← e]; exact ob_q58.1)
                          have n_k2_q58 : k2 ≠ q58 := fun e => n_q58_k2 e.symm
                          have n_q63_k2 : q63 ≠ k2 := fun e => hk2 (by rw [← e]; exact ob_q63.1)
                          have n_k2_q63 : k2 ≠ q63 := fun e => n_q63_k2 e.symm
                          have n_k1_k2 : k1 ≠ k2 := fun e => hk2 (by rw [← e]; exact ob_k1.1)
                          have n_k2_k1 : k2 ≠ k1 := fun e => n_k1_k2 e.symm
                          replace ob_h : Ob A3 5 h := by rw [hA3]; exact (obA_old hk2 ob_h)
                          replace ob_q1 : Ob A3 11 q1 := by rw [hA3]; exact (obA_old hk2 ob_q1)
                          replace ob_q5 : Ob A3 0 q5 := by rw [hA3]; exact (obA_old hk2 ob_q5)
                          replace ob_q11 : Ob A3 0 q11 := by rw [hA3]; exact (obA_old hk2 ob_q11)
                          replace ob_q17 : Ob A3 0 q17 := by rw [hA3]; exact (obA_old hk2 ob_q17)
                          replace ob_q23 : Ob A3 0 q23 := by rw [hA3]; exact (obA_old hk2 ob_q23)
                          replace ob_q29 : Ob A3 9 q29 := by rw [hA3]; exact (obA_old hk2 ob_q29)
                          replace ob_q39 : Ob A3 12 q39 := by rw [hA3]; exact (obA_old hk2 ob_q39)
                          replace ob_q43 : Ob A3 3 q43 := by rw [hA3]; exact (obA_old hk2 ob_q43)
                          replace ob_q48 : Ob A3 3 q48 := by rw [hA3]; exact (obA_old hk2 ob_q48)
                          replace ob_q53 : Ob A3 7 q53 := by rw [hA3]; exact (obA_old hk2 ob_q53)
                          replace ob_q58 : Ob A3 7 q58 := by rw [hA3]; exact (obA_old hk2 ob_q58)
                          replace ob_q63 : Ob A3 4 q63 := by rw [hA3]; exact (obA_old hk2 ob_q63)
                          replace ob_k1 : Ob A3 9 k1 := by rw [hA3]; exact (obA_old hk2 ob_k1)
                          have ob_k2 : Ob A3 8 k2 := by rw [hA3]; exact obA_new (n := 516)
                          replace hall : ∀ a, a ∈ pL A3 → a ∈ [k2, k1, q63, q58, q53, q48, q43, q39, q29, q23, q17, q11, q5, q1, h] := fun a ha => by rw [hA3] at ha; exact (List.mem_append.mp ha).elim (fun h1 => List.mem_cons_of_mem _ (hall a h1)) (fun h1 => by rw [List.mem_singleton.mp h1]; exact List.mem_cons_self)
                          replace ob_h : Ob T65 5 h := by rw [hA4]; exact ob_h
                          replace ob_q1 : Ob T65 11 q1 := by rw [hA4]; exact ob_q1
                          replace ob_q5 : Ob T65 0 q5 := by rw [hA4]; exact ob_q5
                          replace ob_q11 : Ob T65 0 q11 := by rw [hA4]; exact ob_q11
                          replace ob_q17 : Ob T65 0 q17 := by rw [hA4]; exact ob_q17
                          replace ob_q23 : Ob T65 0 q23 := by rw [hA4]; exact ob_q23
                          replace ob_q29 : Ob T65 9 q29 := by rw [hA4]; exact ob_q29
                          replace ob_q39 : Ob T65 12 q39 := by rw [hA4]; exact ob_q39
                          replace ob_q43 : Ob T65 3 q43 := by rw [hA4]; exact ob_q43
                          replace ob_q48 : Ob T65 3 q48 := by rw [hA4]; exact ob_q48
                          replace ob_q53 : Ob T65 7 q53 := by rw [hA4]; exact ob_q53
                          replace ob_q58 : Ob T65 7 q58 := by rw [hA4]; exact ob_q58
                          replace ob_q63 : Ob T65 4 q63 := by rw [hA4]; exact ob_q63
                          replace ob_k1 : Ob T65 9 k1 := by rw [hA4]; exact ob_k1
                          replace ob_k2 : Ob T65 8 k2 := by rw [hA4]; exact ob_k2
                          replace hall : ∀ a, a ∈ pL T65 → a ∈ [k2, k1, q63, q58, q53, q48, q43, q39, q29, q23, q17, q11, q5, q1, h] := fun a ha => hall a (by rw [hA4] at ha; exact ha)
                          refine rps_Pickwave_log F hK hP hD hS ob_h kw_32 hin rfl dX5_init_144 (fun H locs hP hD hS => ?_)
                          obtain ⟨P66, hP66⟩ : ∃ x : wPS, x = setG T65 55 h (some q63) := ⟨_, rfl⟩
                          rw [← hP66] at hP hD
                          replace ob_h : Ob P66 5 h := by rw [hP66]; exact ob_h
                          replace ob_q1 : Ob P66 11 q1 := by rw [hP66]; exact ob_q1
                          replace ob_q5 : Ob P66 0 q5 := by rw [hP66]; exact ob_q5
                          replace ob_q11 : Ob P66 0 q11 := by rw [hP66]; exact ob_q11
                          replace ob_q17 : Ob P66 0 q17 := by rw [hP66]; exact ob_q17
                          replace ob_q23 : Ob P66 0 q23 := by rw [hP66]; exact ob_q23
                          replace ob_q29 : Ob P66 9 q29 := by rw [hP66]; exact ob_q29
                          replace ob_q39 : Ob P66 12 q39 := by rw [hP66]; exact ob_q39
                          replace ob_q43 : Ob P66 3 q43 := by rw [hP66]; exact ob_q43
                          replace ob_q48 : Ob P66 3 q48 := by rw [hP66]; exact ob_q48
                          replace ob_q53 : Ob P66 7 q53 := by rw [hP66]; exact ob_q53
                          replace ob_q58 : Ob P66 7 q58 := by rw [hP66]; exact ob_q58
                          replace ob_q63 : Ob P66 4 q63 := by rw [hP66]; exact ob_q63
                          replace ob_k1 : Ob P66 9 k1 := by rw [hP66]; exact ob_k1
                          replace ob_k2 : Ob P66 8 k2 := by rw [hP66]; exact ob_k2
                          replace hall : ∀ a, a ∈ pL P66 → a ∈ [k2, k1, q63, q58, q53, q48, q43, q39, q29, q23, q17, q11, q5, q1, h] := fun a ha => hall a (by rw [hP66] at ha; exact ha)
                          obtain ⟨z, hz⟩ : ∃ z : Nat → Nat, z = (fun i => match i with | 0 => h | 1 => q1 | 2 => q5 | 3 => q11 | 4 => q17 | 5 => q23 | 6 => q29 | 7 => q39 | 8 => q43 | 9 => q48 | 10 => q53 | 11 => q58 | 12 => q63 | 13 => k1 | _ => k2) := ⟨_, rfl⟩
                          have z_0 : z 0 = h := congrFun hz 0
                          have z_1 : z 1 = q1 := congrFun hz 1
                          have z_2 : z 2 = q5 := congrFun hz 2
                          have z_3 : z 3 = q11 := congrFun hz 3
                          have z_4 : z 4 = q17 := congrFun hz 4
                          have z_5 : z 5 = q23 := congrFun hz 5
                          have z_6 : z 6 = q29 := congrFun hz 6
                          have z_7 : z 7 = q39 := congrFun hz 7
                          have z_8 : z 8 = q43 := congrFun hz 8
                          have z_9 : z 9 = q48 := congrFun hz 9
                          have z_10 : z 10 = q53 := congrFun hz 10
                          have z_11 : z 11 = q58 := congrFun hz 11
                          have z_12 : z 12 = q63 := congrFun hz 12
                          have z_13 : z 13 = k1 := congrFun hz 13
                          have z_14 : z 14 = k2 := congrFun hz 14
                          have hb : ∀ i, i < 15 → Ob P66 (kzK i) (z i) := by
                            intro i hi
                            rcases (show i = 0 ∨ i = 1 ∨ i = 2 ∨ i = 3 ∨ i = 4 ∨ i = 5 ∨ i = 6 ∨ i = 7 ∨ i = 8 ∨ i = 9 ∨ i = 10 ∨ i = 11 ∨ i = 12 ∨ i = 13 ∨ i = 14 by omega) with rfl | rfl | rfl | rfl | rfl | rfl | rfl | rfl | rfl | rfl | rfl | rfl | rfl | rfl | rfl
                            · rw [z_0]; exact ob_h
                            · rw [z_1]; exact ob_q1
                            · rw [z_2]; exact ob_q5
                            · rw [z_3]; exact ob_q11
                            · rw [z_4]; exact ob_q17
                            · rw [z_5]; exact ob_q23
                            · rw [z_6]; exact ob_q29
                            · rw [z_7]; exact ob_q39
                            · rw [z_8]; exact ob_q43
                            · rw [z_9]; exact ob_q48
                            · rw [z_10]; exact ob_q53
                            · rw [z_11]; exact ob_q58
                            · rw [z_12]; exact ob_q63
                            · rw [z_13]; exact ob_k1
                            · rw [z_14]; exact ob_k2
                          have hi2 : ∀ i j, i < 15 → j < 15 → z i = z j → i = j := by
                            intro i j hi hj
                            rcases (show i = 0 ∨ i = 1 ∨ i = 2 ∨ i = 3 ∨ i = 4 ∨ i = 5 ∨ i = 6 ∨ i = 7 ∨ i = 8 ∨ i = 9 ∨ i = 10 ∨ i = 11 ∨ i = 12 ∨ i = 13 ∨ i = 14 by omega) with rfl | rfl | rfl | rfl | rfl | rfl | rfl | rfl | rfl | rfl | rfl | rfl | rfl | rfl | rfl <;> rcases (show j = 0 ∨ j = 1 ∨ j = 2 ∨ j = 3 ∨ j = 4 ∨ j = 5 ∨ j = 6 ∨ j = 7 ∨ j = 8 ∨ j = 9 ∨ j = 10 ∨ j = 11 ∨ j = 12 ∨ j = 13 ∨ j = 14 by omega) with rfl | rfl | rfl | rfl | rfl | rfl | rfl | rfl | rfl | rfl | rfl | rfl | rfl | rfl | rfl
                            · exact fun _ => rfl
                            · rw [z_0, z_1]; exact fun e => absurd e n_h_q1
                            · rw [z_0, z_2]; exact fun e => absurd e n_h_q5
                            · rw [z_0, z_3]; exact fun e => absurd e n_h_q11
                            · rw [z_0, z_4]; exact fun e => absurd e n_h_q17
                            · rw [z_0, z_5]; exact fun e => absurd e n_h_q23
                            · rw [z_0, z_6]; exact fun e => absurd e n_h_q29
                            · rw [z_0, z_7]; exact fun e => absurd e n_h_q39
                            · rw [z_0, z_8]; exact fun e => absurd e n_h_q43
                            · rw [z_0, z_9]; exact fun e => absurd e n_h_q48
                            · rw [z_0, z_10]; exact fun e => absurd e n_h_q53
                            · rw [z_0, z_11]; exact fun e => absurd e n_h_q58
                            · rw [z_0, z_12]; exact fun e => absurd e n_h_q63
                            · rw [z_0, z_13]; exact fun e => absurd e n_h_k1
                            · rw [z_0, z_14]; exact fun e => absurd e n_h_k2
                            · rw [z_1, z_0]; exact fun e => absurd e n_q1_h
                            · exact fun _ => rfl
                            · rw [z_1, z_2]; exact fun e => absurd e n_q1_q5
                            · rw [z_1, z_3]; exact fun e => absurd e n_q1_q11
                            · rw [z_1, z_4]; exact fun e => absurd e n_q1_q17
                            · rw [z_1, z_5]; exact fun e => absurd e n_q1_q23
                            · rw [z_1, z_6]; exact fun e => absurd e n_q1_q29
                            · rw [z_1, z_7]; exact fun e => absurd e n_q1_q39
                            · rw [z_1, z_8]; exact fun e => absurd e n_q1_q43
                            · rw [z_1, z_9]; exact fun e => absurd e n_q1_q48
                            · rw [z_1, z_10]; exact fun e => absurd e n_q1_q53
                            · rw [z_1, z_11]; exact fun e => absurd e n_q1_q58
                            · rw [z_1, z_12]; exact fun e => absurd e n_q1_q63
                            · rw [z_1, z_13]; exact fun e => absurd e n_q1_k1
                            · rw [z_1, z_14]; exact fun e => absurd e n_q1_k2
                            · rw [z_2, z_0]; exact fun e => absurd e n_q5_h
                            · rw [z_2, z_1]; exact fun e => absurd e n_q5_q1
                            · exact fun _ => rfl
                            · rw [z_2, z_3]; exact fun e => absurd e n_q5_q11
                            · rw [z_2, z_4]; exact fun e => absurd e n_q5_q17
                            · rw [z_2, z_5]; exact fun e => absurd e n_q5_q23
                            · rw [z_2, z_6]; exact fun e => absurd e n_q5_q29
                            · rw [z_2, z_7]; exact fun e => absurd e n_q5_q39
                            · rw [z_2, z_8]; exact fun e => absurd e n_q5_q43
                            · rw [z_2, z_9]; exact fun e => absurd e n_q5_q48
                            · rw [z_2, z_10]; exact fun e => absurd e n_q5_q53
                            · rw [z_2, z_11]; exact fun e => absurd e n_q5_q58
                            · rw [z_2, z_12]; exact fun e => absurd e n_q5_q63
                            · rw [z_2, z_13]; exact fun e => absurd e n_q5_k1
                            · rw [z_2, z_14]; exact fun e => absurd e n_q5_k2
                            · rw [z_3, z_0]; exact fun e => absurd e n_q11_h
                            · rw [z_3, z_1]; exact fun e => absurd e n_q11_q1
                            · rw [z_3, z_2]; exact fun e => absurd e n_q11_q5
                            · exact fun _ => rfl
                            · rw [z_3, z_4]; exact fun e => absurd e n_q11_q17
                            · rw [z_3, z_5]; exact fun e => absurd e n_q11_q23
                            · rw [z_3, z_6]; exact fun e => absurd e n_q11_q29
                            · rw [z_3, z_7]; exact fun e => absurd e n_q11_q39
                            · rw [z_3, z_8]; exact fun e => absurd e n_q11_q43
                            · rw [z_3, z_9]; exact fun e => absurd e n_q11_q48
                            · rw [z_3, z_10]; exact fun e => absurd e n_q11_q53
                            · rw [z_3, z_11]; exact fun e => absurd e n_q11_q58
                            · rw [z_3, z_12]; exact fun e => absurd e n_q11_q63
                            · rw [z_3, z_13]; exact fun e => absurd e n_q11_k1
                            · rw [z_3, z_14]; exact fun e => absurd e n_q11_k2
                            · rw [z_4, z_0]; exact fun e => absurd e n_q17_h
                            · rw [z_4, z_1]; exact fun e => absurd e n_q17_q1
                            · rw [z_4, z_2]; exact fun e => absurd e n_q17_q5
                            · rw [z_4, z_3]; exact fun e => absurd e n_q17_q11
                            · exact fun _ => rfl
                            · rw [z_4, z_5]; exact fun e => absurd e n_q17_q23
                            · rw [z_4, z_6]; exact fun e => absurd e n_q17_q29
                            · rw [z_4, z_7]; exact fun e => absurd e n_q17_q39
                            · rw [z_4, z_8]; exact fun e => absurd e n_q17_q43
                            · rw [z_4, z_9]; exact fun e => absurd e n_q17_q48
                            · rw [z_4, z_10]; exact fun e => absurd e n_q17_q53
                            · rw [z_4, z_11]; exact fun e => absurd e n_q17_q58
                            · rw [z_4, z_12]; exact fun e => absurd e n_q17_q63
                            · rw [z_4, z_13]; exact fun e => absurd e n_q17_k1
                            · rw [z_4, z_14]; exact fun e => absurd e n_q17_k2
                            · rw [z_5, z_0]; exact fun e => absurd e n_q23_h
                            · rw [z_5, z_1]; exact fun e => absurd e n_q23_q1
                            · rw [z_5, z_2]; exact fun e => absurd e n_q23_q5
                            · rw [z_5, z_3]; exact fun e => absurd e n_q23_q11
                            · rw [z_5, z_4]; exact fun e => absurd e n_q23_q17
                            · exact fun _ => rfl
                            · rw [z_5, z_6]; exact fun e => absurd e n_q23_q29
                            · rw [z_5, z_7]; exact fun e => absurd e n_q23_q39
                            · rw [z_5, z_8]; exact fun e => absurd e n_q23_q43
                            · rw [z_5, z_9]; exact fun e => absurd e n_q23_q48
                            · rw [z_5, z_10]; exact fun e => absurd e n_q23_q53
                            · rw [z_5, z_11]; exact fun e => absurd e n_q23_q58
                            · rw [z_5, z_12]; exact fun e => absurd e n_q23_q63
                            · rw [z_5, z_13]; exact fun e => absurd e n_q23_k1
                            · rw [z_5, z_14]; exact fun e => absurd e n_q23_k2
                            · rw [z_6, z_0]; exact fun e => absurd e n_q29_h
                            · rw [z_6, z_1]; exact fun e => absurd e n_q29_q1
                            · rw [z_6, z_2]; exact fun e => absurd e n_q29_q5
                            · rw [z_6, z_3]; exact fun e => absurd e n_q29_q11
                            · rw [z_6, z_4]; exact fun e => absurd e n_q29_q17
                            · rw [z_6, z_5]; exact fun e => absurd e n_q29_q23
                            · exact fun _ => rfl
                            · rw [z_6, z_7]; exact fun e => absurd e n_q29_q39
                            · rw [z_6, z_8]; exact fun e => absurd e n_q29_q43
                            · rw [z_6, z_9]; exact fun e => absurd e n_q29_q48
                            · rw [z_6, z_10]; exact fun e => absurd e n_q29_q53
                            · rw [z_6, z_11]; exact fun e => absurd e n_q29_q58
                            · rw [z_6, z_12]; exact fun e => absurd e n_q29_q63
                            · rw [z_6, z_13]; exact fun e => absurd e n_q29_k1
                            · rw [z_6, z_14]; exact fun e => absurd e n_q29_k2
                            · rw [z_7, z_0]; exact fun e => absurd e n_q39_h
                            · rw [z_7, z_1]; exact fun e => absurd e n_q39_q1
                            · rw [z_7, z_2]; exact fun e => absurd e n_q39_q5
                            · rw [z_7, z_3]; exact fun e => absurd e n_q39_q11
                            · rw [z_7, z_4]; exact fun e => absurd e n_q39_q17
                            · rw [z_7, z_5]; exact fun e => absurd e n_q39_q23
                            · rw [z_7, z_6]; exact fun e => absurd e n_q39_q29
                            · exact fun _ => rfl
                            · rw [z_7, z_8]; exact fun e => absurd e n_q39_q43
                            · rw [z_7, z_9]; exact fun e => absurd e n_q39_q48
                            · rw [z_7, z_10]; exact fun e => absurd e n_q39_q53
                            · rw [z_7, z_11]; exact fun e => absurd e n_q39_q58
                            · rw [z_7, z_12]; exact fun e => absurd e n_q39_q63
                            · rw [z_7, z_13]; exact fun e => absurd e n_q39_k1
                            · rw [z_7, z_14]; exact fun e => absurd e n_q39_k2
                            · rw [z_8, z_0]; exact fun e => absurd e n_q43_h
                            · rw [z_8, z_1]; exact fun e => absurd e n_q43_q1
                            · rw [z_8, z_2]; exact fun e => absurd e n_q43_q5
                            · rw [z_8, z_3]; exact fun e => absurd e n_q43_q11
                            · rw [z_8, z_4]; exact fun e => absurd e n_q43_q17
                            · rw [z_8, z_5]; exact fun e => absurd e n_q43_q23
                            · rw [z_8, z_6]; exact fun e => absurd e n_q43_q29
                            · rw [z_8, z_7]; exact fun e => absurd e n_q43_q39
                            · exact fun _ => rfl
                            · rw [z_8, z_9]; exact fun e => absurd e n_q43_q48
                            · rw [z_8, z_10]; exact fun e => absurd e n_q43_q53
                            · rw [z_8, z_11]; exact fun e => absurd e n_q43_q58
                            · rw [z_8, z_12]; exact fun e => absurd e n_q43_q63
                            · rw [z_8, z_13]; exact fun e => absurd e n_q43_k1
                            · rw [z_8, z_14]; exact fun e => absurd e n_q43_k2
                            · rw [z_9, z_0]; exact fun e => absurd e n_q48_h
                            · rw [z_9, z_1]; exact fun e => absurd e n_q48_q1
                            · rw [z_9, z_2]; exact fun e => absurd e n_q48_q5
                            · rw [z_9, z_3]; exact fun e => absurd e n_q48_q11
                            · rw [z_9, z_4]; exact fun e => absurd e n_q48_q17
                            · rw [z_9, z_5]; exact fun e => absurd e n_q48_q23
                            · rw [z_9, z_6]; exact fun e => absurd e n_q48_q29
                            · rw [z_9, z_7]; exact fun e => absurd e n_q48_q39
                            · rw [z_9, z_8]; exact fun e => absurd e n_q48_q43
                            · exact fun _ => rfl
                            · rw [z_9, z_10]; exact fun e => absurd e n_q48_q53
                            · rw [z_9, z_11]; exact fun e => absurd e n_q48_q58
                            · rw [z_9, z_12]; exact fun e => absurd e n_q48_q63
                            · rw [z_9, z_13]; exact fun e => absurd e n_q48_k1
                            · rw [z_9, z_14]; exact fun e => absurd e n_q48_k2
                            · rw [z_10, z_0]; exact fun e => absurd e n_q53_h
                            · rw [z_10, z_1]; exact fun e => absurd e n_q53_q1
                            · rw [z_10, z_2]; exact fun e => absurd e n_q53_q5
                            · rw [z_10, z_3]; exact fun e => absurd e n_q53_q11
                            · rw [z_10, z_4]; exact fun e => absurd e n_q53_q17
                            · rw [z_10, z_5]; exact fun e => absurd e n_q53_q23
                            · rw [z_10, z_6]; exact fun e => absurd e n_q53_q29
                            · rw [z_10, z_7]; exact fun e => absurd e n_q53_q39
                            · rw [z_10, z_8]; exact fun e => absurd e n_q53_q43
                            · rw [z_10, z_9]; exact fun e => absurd e n_q53_q48
                            · exact fun _ => rfl
                            · rw [z_10, z_11]; exact fun e => absurd e n_q53_q58
                            · rw [z_10, z_12]; exact fun e => absurd e n_q53_q63
                            · rw [z_10, z_13]; exact fun e => absurd e n_q53_k1
                            · rw [z_10, z_14]; exact fun e => absurd e n_q53_k2
                            · rw [z_11, z_0]; exact fun e => absurd e n_q58_h
                            · rw [z_11, z_1]; exact fun e => absurd e n_q58_q1
                            · rw [z_11, z_2]; exact fun e => absurd e n_q58_q5
                            · rw [z_11, z_3]; exact fun e => absurd e n_q58_q11
                            · rw [z_11, z_4]; exact fun e => absurd e n_q58_q17
                            · rw [z_11, z_5]; exact fun e => absurd e n_q58_q23
                            · rw [z_11, z_6]; exact fun e => absurd e n_q58_q29
                            · rw [z_11, z_7]; exact fun e => absurd e n_q58_q39
                            · rw [z_11, z_8]; exact fun e => absurd e n_q58_q43
                            · rw [z_11, z_9]; exact fun e => absurd e n_q58_q48
                            · rw [z_11, z_10]; exact fun e => absurd e n_q58_q53
                            · exact fun _ => rfl
                            · rw [z_11, z_12]; exact fun e => absurd e n_q58_q63
                            · rw [z_11, z_13]; exact fun e => absurd e n_q58_k1
                            · rw [z_11, z_14]; exact fun e => absurd e n_q58_k2
                            · rw [z_12, z_0]; exact fun e => absurd e n_q63_h
                            · rw [z_12, z_1]; exact fun e => absurd e n_q63_q1
                            · rw [z_12, z_2]; exact fun e => absurd e n_q63_q5
                            · rw [z_12, z_3]; exact fun e => absurd e n_q63_q11
                            · rw [z_12, z_4]; exact fun e => absurd e n_q63_q17
                            · rw [z_12, z_5]; exact fun e => absurd e n_q63_q23
                            · rw [z_12, z_6]; exact fun e => absurd e n_q63_q29
                            · rw [z_12, z_7]; exact fun e => absurd e n_q63_q39
                            · rw [z_12, z_8]; exact fun e => absurd e n_q63_q43
                            · rw [z_12, z_9]; exact fun e => absurd e n_q63_q48
                            · rw [z_12, z_10]; exact fun e => absurd e n_q63_q53
                            · rw [z_12, z_11]; exact fun e => absurd e n_q63_q58
                            · exact fun _ => rfl
                            · rw [z_12, z_13]; exact fun e => absurd e n_q63_k1
                            · rw [z_12, z_14]; exact fun e => absurd e n_q63_k2
                            · rw [z_13, z_0]; exact fun e => absurd e n_k1_h
                            · rw [z_13, z_1]; exact fun e => absurd e n_k1_q1
                            · rw [z_13, z_2]; exact fun e => absurd e n_k1_q5
                            · rw [z_13, z_3]; exact fun e => absurd e n_k1_q11
                            · rw [z_13, z_4]; exact fun e => absurd e n_k1_q17
                            · rw [z_13, z_5]; exact fun e => absurd e n_k1_q23
                            · rw [z_13, z_6]; exact fun e => absurd e n_k1_q29
                            · rw [z_13, z_7]; exact fun e => absurd e n_k1_q39
                            · rw [z_13, z_8]; exact fun e => absurd e n_k1_q43
                            · rw [z_13, z_9]; exact fun e => absurd e n_k1_q48
                            · rw [z_13, z_10]; exact fun e => absurd e n_k1_q53
                            · rw [z_13, z_11]; exact fun e => absurd e n_k1_q58
                            · rw [z_13, z_12]; exact fun e => absurd e n_k1_q63
                            · exact fun _ => rfl
                            · rw [z_13, z_14]; exact fun e => absurd e n_k1_k2
                            · rw [z_14, z_0]; exact fun e => absurd e n_k2_h
                            · rw [z_14, z_1]; exact fun e => absurd e n_k2_q1
                            · rw [z_14, z_2]; exact fun e => absurd e n_k2_q5
                            · rw [z_14, z_3]; exact fun e => absurd e n_k2_q11
                            · rw [z_14, z_4]; exact fun e => absurd e n_k2_q17
                            · rw [z_14, z_5]; exact fun e => absurd e n_k2_q23
                            · rw [z_14, z_6]; exact fun e => absurd e n_k2_q29
                            · rw [z_14, z_7]; exact fun e => absurd e n_k2_q39
                            · rw [z_14, z_8]; exact fun e => absurd e n_k2_q43
                            · rw [z_14, z_9]; exact fun e => absurd e n_k2_q48
                            · rw [z_14, z_10]; exact fun e => absurd e n_k2_q53
                            · rw [z_14, z_11]; exact fun e => absurd e n_k2_q58
                            · rw [z_14, z_12]; exact fun e => absurd e n_k2_q63
                            · rw [z_14, z_13]; exact fun e => absurd e n_k2_k1
                            · exact fun _ => rfl
                          have hk2 : kI2 z P66 := by
                            unfold kI2
                            rw [z_0, z_1, z_6, z_7, z_10, z_11, z_12, z_13, z_14]
                            exact ⟨((show pG P66 50 h = pG T65 50 h from by rw [hP66]; exact uG_of (Or.inl (by decide))).trans ((show pG T65 50 h = pG A3 50 h from by rw [hA4]; exact uG_of (Or.inl (by decide))).trans ((show pG A3 50 h = pG A2 50 h from by rw [hA3]; exact rfl).trans ((show pG A2 50 h = pG A1 50 h from by rw [hA2]; exact uG_of (Or.inl (by decide))).trans ((show pG A1 50 h = pG P64 50 h from by rw [hA1]; exact rfl).trans ((show pG P64 50 h = pG P62 50 h from by rw [hP64]; exact va_up_ne _ _ n_h_q63).trans ((show pG P62 50 h = pG T60 50 h from by rw [hP62]; exact uG_of (Or.inl (by decide))).trans ((show pG T60 50 h = pG P61a 50 h from by rw [hQ61]; exact uG_of (Or.inl (by decide))).trans ((show pG P61a 50 h = pG P59 50 h from by rw [hQ61a]; exact rfl).trans ((show pG P59 50 h = pG P57 50 h from by rw [hP59]; exact va_up_ne _ _ n_h_q58).trans ((show pG P57 50 h = pG T55 50 h from by rw [hP57]; exact uG_of (Or.inl (by decide))).trans ((show pG T55 50 h = pG P56a 50 h from by rw [hQ56]; exact uG_of (Or.inl (by decide))).trans ((show pG P56a 50 h = pG P54 50 h from by rw [hQ56a]; exact rfl).trans ((show pG P54 50 h = pG P51 50 h from by rw [hP54]; exact va_up_ne _ _ n_h_q53).trans ((show pG P51 50 h = pG P49 50 h from by rw [hP51]; exact rfl).trans ((show pG P49 50 h = pG P46 50 h from by rw [hP49]; exact va_up_ne _ _ n_h_q48).trans ((show pG P46 50 h = pG P44 50 h from by rw [hP46]; exact rfl).trans ((show pG P44 50 h = pG P41 50 h from by rw [hP44]; exact va_up_ne _ _ n_h_q43).trans ((show pG P41 50 h = pG P40 50 h from by rw [hP41]; exact uG_of (Or.inl (by decide))).trans ((show pG P40 50 h = pG P37 50 h from by rw [hP40]; exact rfl).trans ((show pG P37 50 h = pG P35 50 h from by rw [hP37]; exact rfl).trans ((show pG P35 50 h = pG P33 50 h from by rw [hP35]; exact rfl).trans ((show pG P33 50 h = pG P31 50 h from by rw [hP33]; exact rfl).trans ((show pG P31 50 h = pG P30 50 h from by rw [hP31]; exact uG_of (Or.inl (by decide))).trans ((show pG P30 50 h = pG P27 50 h from by rw [hP30]; exact rfl).trans ((show pG P27 50 h = pG T25 50 h from by rw [hP27]; exact rfl).trans ((show pG T25 50 h = pG P24 50 h from by rw [hQ26]; exact rfl).trans ((show pG P24 50 h = pG P21 50 h from by rw [hP24]; exact va_up_ne _ _ n_h_q23).trans ((show pG P21 50 h = pG T19 50 h from by rw [hP21]; exact rfl).trans ((show pG T19 50 h = pG P18 50 h from by rw [hQ20]; exact rfl).trans ((show pG P18 50 h = pG P15 50 h from by rw [hP18]; exact va_up_ne _ _ n_h_q17).trans ((show pG P15 50 h = pG T13 50 h from by rw [hP15]; exact rfl).trans ((show pG T13 50 h = pG P12 50 h from by rw [hQ14]; exact rfl).trans ((show pG P12 50 h = pG P9 50 h from by rw [hP12]; exact va_up_ne _ _ n_h_q11).trans ((show pG P9 50 h = pG T7 50 h from by rw [hP9]; exact rfl).trans ((show pG T7 50 h = pG P6 50 h from by rw [hQ8]; exact rfl).trans ((show pG P6 50 h = pG P3 50 h from by rw [hP6]; exact va_up_ne _ _ n_h_q5).trans (show pG P3 50 h = (some q1) from by rw [hP3]; exact uG_at)))))))))))))))))))))))))))))))))))))), ((show pG P66 51 h = pG T65 51 h from by rw [hP66]; exact uG_of (Or.inl (by decide))).trans ((show pG T65 51 h = pG A3 51 h from by rw [hA4]; exact uG_of (Or.inl (by decide))).trans ((show pG A3 51 h = pG A2 51 h from by rw [hA3]; exact rfl).trans ((show pG A2 51 h = pG A1 51 h from by rw [hA2]; exact uG_of (Or.inl (by decide))).trans ((show pG A1 51 h = pG P64 51 h from by rw [hA1]; exact rfl).trans ((show pG P64 51 h = pG P62 51 h from by rw [hP64]; exact va_up_ne _ _ n_h_q63).trans ((show pG P62 51 h = pG T60 51 h from by rw [hP62]; exact uG_of (Or.inl (by decide))).trans ((show pG T60 51 h = pG P61a 51 h from by rw [hQ61]; exact uG_of (Or.inl (by decide))).trans ((show pG P61a 51 h = pG P59 51 h from by rw [hQ61a]; exact rfl).trans ((show pG P59 51 h = pG P57 51 h from by rw [hP59]; exact va_up_ne _ _ n_h_q58).trans ((show pG P57 51 h = pG T55 51 h from by rw [hP57]; exact uG_of (Or.inl (by decide))).trans ((show pG T55 51 h = pG P56a 51 h from by rw [hQ56]; exact uG_of (Or.inl (by decide))).trans ((show pG P56a 51 h = pG P54 51 h from by rw [hQ56a]; exact rfl).trans ((show pG P54 51 h = pG P51 51 h from by rw [hP54]; exact va_up_ne _ _ n_h_q53).trans ((show pG P51 51 h = pG P49 51 h from by rw [hP51]; exact rfl).trans ((show pG P49 51 h = pG P46 51 h from by rw [hP49]; exact va_up_ne _ _ n_h_q48).trans ((show pG P46 51 h = pG P44 51 h from by rw [hP46]; exact rfl).trans ((show pG P44 51 h = pG P41 51 h from by rw [hP44]; exact va_up_ne _ _ n_h_q43).trans ((show pG P41 51 h = pG P40 51 h from by rw [hP41]; exact uG_of (Or.inl (by decide))).trans ((show pG P40 51 h = pG P37 51 h from by rw [hP40]; exact rfl).trans ((show pG P37 51 h = pG P35 51 h from by rw [hP37]; exact rfl).trans ((show pG P35 51 h = pG P33 51 h from by rw [hP35]; exact rfl).trans ((show pG P33 51 h = pG P31 51 h from by rw [hP33]; exact rfl).trans (show pG P31 51 h = (some q29) from by rw [hP31]; exact uG_at)))))))))))))))))))))))), ((show pG P66 52 h = pG T65 52 h from by rw [hP66]; exact uG_of (Or.inl (by decide))).trans ((show pG T65 52 h = pG A3 52 h from by rw [hA4]; exact uG_of (Or.inl (by decide))).trans ((show pG A3 52 h = pG A2 52 h from by rw [hA3]; exact rfl).trans ((show pG A2 52 h = pG A1 52 h from by rw [hA2]; exact uG_of (Or.inl (by decide))).trans ((show pG A1 52 h = pG P64 52 h from by rw [hA1]; exact rfl).trans ((show pG P64 52 h = pG P62 52 h from by rw [hP64]; exact va_up_ne _ _ n_h_q63).trans ((show pG P62 52 h = pG T60 52 h from by rw [hP62]; exact uG_of (Or.inl (by decide))).trans ((show pG T60 52 h = pG P61a 52 h from by rw [hQ61]; exact uG_of (Or.inl (by decide))).trans ((show pG P61a 52 h = pG P59 52 h from by rw [hQ61a]; exact rfl).trans ((show pG P59 52 h = pG P57 52 h from by rw [hP59]; exact va_up_ne _ _ n_h_q58).trans ((show pG P57 52 h = pG T55 52 h from by rw [hP57]; exact uG_of (Or.inl (by decide))).trans ((show pG T55 52 h = pG P56a 52 h from by rw [hQ56]; exact uG_of (Or.inl (by decide))).trans ((show pG P56a 52 h = pG P54 52 h from by rw [hQ56a]; exact rfl).trans ((show pG P54 52 h = pG P51 52 h from by rw [hP54]; exact va_up_ne _ _ n_h_q53).trans ((show pG P51 52 h = pG P49 52 h from by rw [hP51]; exact rfl).trans ((show pG P49 52 h = pG P46 52 h from by rw [hP49]; exact va_up_ne _ _ n_h_q48).trans ((show pG P46 52 h = pG P44 52 h from by rw [hP46]; exact rfl).trans ((show pG P44 52 h = pG P41 52 h from by rw [hP44]; exact va_up_ne _ _ n_h_q43).trans (show pG P41 52 h = (some q39) from by rw [hP41]; exact uG_at))))))))))))))))))), ((show pG P66 53 h = pG T65 53 h from by rw [hP66]; exact uG_of (Or.inl (by decide))).trans ((show pG T65 53 h = pG A3 53 h from by rw [hA4]; exact uG_of (Or.inl (by decide))).trans ((show pG A3 53 h = pG A2 53 h from by rw [hA3]; exact rfl).trans ((show pG A2 53 h = pG A1 53 h from by rw [hA2]; exact uG_of (Or.inl (by decide))).trans ((show pG A1 53 h = pG P64 53 h from by rw [hA1]; exact rfl).trans ((show pG P64 53 h = pG P62 53 h from by rw [hP64]; exact va_up_ne _ _ n_h_q63).trans ((show pG P62 53 h = pG T60 53 h from by rw [hP62]; exact uG_of (Or.inl (by decide))).trans ((show pG T60 53 h = pG P61a 53 h from by rw [hQ61]; exact uG_of (Or.inl (by decide))).trans ((show pG P61a 53 h = pG P59 53 h from by rw [hQ61a]; exact rfl).trans ((show pG P59 53 h = pG P57 53 h from by rw [hP59]; exact va_up_ne _ _ n_h_q58).trans (show pG P57 53 h = (some q53) from by rw [hP57]; exact uG_at))))))))))), ((show pG P66 54 h = pG T65 54 h from by rw [hP66]; exact uG_of (Or.inl (by decide))).trans ((show pG T65 54 h = pG A3 54 h from by rw [hA4]; exact uG_of (Or.inl (by decide))).trans ((show pG A3 54 h = pG A2 54 h from by rw [hA3]; exact rfl).trans ((show pG A2 54 h = pG A1 54 h from by rw [hA2]; exact uG_of (Or.inl (by decide))).trans ((show pG A1 54 h = pG P64 54 h from by rw [hA1]; exact rfl).trans ((show pG P64 54 h = pG P62 54 h from by rw [hP64]; exact va_up_ne _ _ n_h_q63).trans (show pG P62 54 h = (some q58) from by rw [hP62]; exact uG_at))))))), (show pG P66 55 h = (some q63) from by rw [hP66]; exact uG_at), ((show pG P66 40 q63 = pG T65 40 q63 from by rw [hP66]; exact uG_of (Or.inl (by decide))).trans ((show pG T65 40 q63 = pG A3 40 q63 from by rw [hA4]; exact uG_of (Or.inl (by decide))).trans ((show pG A3 40 q63 = pG A2 40 q63 from by rw [hA3]; exact rfl).trans (show pG A2 40 q63 = (some k1) from by rw [hA2]; exact uG_at)))), ((show pG P66 41 q63 = pG T65 41 q63 from by rw [hP66]; exact uG_of (Or.inl (by decide))).trans (show pG T65 41 q63 = (some k2) from by rw [hA4]; exact uG_at))⟩
                          have hk3 : kI3 z P66 := by
                            unfold kI3
                            rw [z_1, z_6, z_7, z_13, z_14]
                            refine ⟨((show pN P66 q1 = pN T65 q1 from by rw [hP66]; exact rfl).trans ((show pN T65 q1 = pN A3 q1 from by rw [hA4]; exact rfl).trans ((show pN A3 q1 = pN A2 q1 from by rw [hA3]; exact va_up_ne _ _ n_q1_k2).trans ((show pN A2 q1 = pN A1 q1 from by rw [hA2]; exact rfl).trans ((show pN A1 q1 = pN P64 q1 from by rw [hA1]; exact va_up_ne _ _ n_q1_k1).trans ((show pN P64 q1 = pN P62 q1 from by rw [hP64]; exact rfl).trans ((show pN P62 q1 = pN T60 q1 from by rw [hP62]; exact rfl).trans ((show pN T60 q1 = pN P61a q1 from by rw [hQ61]; exact rfl).trans ((show pN P61a q1 = pN P59 q1 from by rw [hQ61a]; exact rfl).trans ((show pN P59 q1 = pN P57 q1 from by rw [hP59]; exact rfl).trans ((show pN P57 q1 = pN T55 q1 from by rw [hP57]; exact rfl).trans ((show pN T55 q1 = pN P56a q1 from by rw [hQ56]; exact rfl).trans ((show pN P56a q1 = pN P54 q1 from by rw [hQ56a]; exact rfl).trans ((show pN P54 q1 = pN P51 q1 from by rw [hP54]; exact rfl).trans ((show pN P51 q1 = pN P49 q1 from by rw [hP51]; exact rfl).trans ((show pN P49 q1 = pN P46 q1 from by rw [hP49]; exact rfl).trans ((show pN P46 q1 = pN P44 q1 from by rw [hP46]; exact rfl).trans ((show pN P44 q1 = pN P41 q1 from by rw [hP44]; exact rfl).trans ((show pN P41 q1 = pN P40 q1 from by rw [hP41]; exact rfl).trans ((show pN P40 q1 = pN P37 q1 from by rw [hP40]; exact va_up_ne _ _ n_q1_q39).trans ((show pN P37 q1 = pN P35 q1 from by rw [hP37]; exact rfl).trans ((show pN P35 q1 = pN P33 q1 from by rw [hP35]; exact rfl).trans ((show pN P33 q1 = pN P31 q1 from by rw [hP33]; exact rfl).trans ((show pN P31 q1 = pN P30 q1 from by rw [hP31]; exact rfl).trans ((show pN P30 q1 = pN P27 q1 from by rw [hP30]; exact va_up_ne _ _ n_q1_q29).trans ((show pN P27 q1 = pN T25 q1 from by rw [hP27]; exact rfl).trans ((show pN T25 q1 = pN P24 q1 from by rw [hQ26]; exact rfl).trans ((show pN P24 q1 = pN P21 q1 from by rw [hP24]; exact rfl).trans ((show pN P21 q1 = pN T19 q1 from by rw [hP21]; exact rfl).trans ((show pN T19 q1 = pN P18 q1 from by rw [hQ20]; exact rfl).trans ((show pN P18 q1 = pN P15 q1 from by rw [hP18]; exact rfl).trans ((show pN P15 q1 = pN T13 q1 from by rw [hP15]; exact rfl).trans ((show pN T13 q1 = pN P12 q1 from by rw [hQ14]; exact rfl).trans ((show pN P12 q1 = pN P9 q1 from by rw [hP12]; exact rfl).trans ((show pN P9 q1 = pN T7 q1 from by rw [hP9]; exact rfl).trans ((show pN T7 q1 = pN P6 q1 from by rw [hQ8]; exact rfl).trans ((show pN P6 q1 = pN P3 q1 from by rw [hP6]; exact rfl).trans ((show pN P3 q1 = pN P2 q1 from by rw [hP3]; exact rfl).trans (show pN P2 q1 = 4 from by rw [hP2]; exact va_up_self _ _ _))))))))))))))))))))))))))))))))))))))), ?_, ((show pN P66 q29 = pN T65 q29 from by rw [hP66]; exact rfl).trans ((show pN T65 q29 = pN A3 q29 from by rw [hA4]; exact rfl).trans ((show pN A3 q29 = pN A2 q29 from by rw [hA3]; exact va_up_ne _ _ n_q29_k2).trans ((show pN A2 q29 = pN A1 q29 from by rw [hA2]; exact rfl).trans ((show pN A1 q29 = pN P64 q29 from by rw [hA1]; exact va_up_ne _ _ n_q29_k1).trans ((show pN P64 q29 = pN P62 q29 from by rw [hP64]; exact rfl).trans ((show pN P62 q29 = pN T60 q29 from by rw [hP62]; exact rfl).trans ((show pN T60 q29 = pN P61a q29 from by rw [hQ61]; exact rfl).trans ((show pN P61a q29 = pN P59 q29 from by rw [hQ61a]; exact rfl).trans ((show pN P59 q29 = pN P57 q29 from by rw [hP59]; exact rfl).trans ((show pN P57 q29 = pN T55 q29 from by rw [hP57]; exact rfl).trans ((show pN T55 q29 = pN P56a q29 from by rw [hQ56]; exact rfl).trans ((show pN P56a q29 = pN P54 q29 from by rw [hQ56a]; exact rfl).trans ((show pN P54 q29 = pN P51 q29 from by rw [hP54]; exact rfl).trans ((show pN P51 q29 = pN P49 q29 from by rw [hP51]; exact rfl).trans ((show pN P49 q29 = pN P46 q29 from by rw [hP49]; exact rfl).trans ((show pN P46 q29 = pN P44 q29 from by rw [hP46]; exact rfl).trans ((show pN P44 q29 = pN P41 q29 from by rw [hP44]; exact rfl).trans ((show pN P41 q29 = pN P40 q29 from by rw [hP41]; exact rfl).trans ((show pN P40 q29 = pN P37 q29 from by rw [hP40]; exact va_up_ne _ _ n_q29_q39).trans ((show pN P37 q29 = pN P35 q29 from by rw [hP37]; exact rfl).trans ((show pN P35 q29 = pN P33 q29 from by rw [hP35]; exact rfl).trans ((show pN P33 q29 = pN P31 q29 from by rw [hP33]; exact rfl).trans ((show pN P31 q29 = pN P30 q29 from by rw [hP31]; exact rfl).trans (show pN P30 q29 = 3 from by rw [hP30]; exact va_up_self _ _ _))))))))))))))))))))))))), ((show pN P66 q39 = pN T65 q39 from by rw [hP66]; exact rfl).trans ((show pN T65 q39 = pN A3 q39 from by rw [hA4]; exact rfl).trans ((show pN A3 q39 = pN A2 q39 from by rw [hA3]; exact va_up_ne _ _ n_q39_k2).trans ((show pN A2 q39 = pN A1 q39 from by rw [hA2]; exact rfl).trans ((show pN A1 q39 = pN P64 q39 from by rw [hA1]; exact va_up_ne _ _ n_q39_k1).trans ((show pN P64 q39 = pN P62 q39 from by rw [hP64]; exact rfl).trans ((show pN P62 q39 = pN T60 q39 from by rw [hP62]; exact rfl).trans ((show pN T60 q39 = pN P61a q39 from by rw [hQ61]; exact rfl).trans ((show pN P61a q39 = pN P59 q39 from by rw [hQ61a]; exact rfl).trans ((show pN P59 q39 = pN P57 q39 from by rw [hP59]; exact rfl).trans ((show pN P57 q39 = pN T55 q39 from by rw [hP57]; exact rfl).trans ((show pN T55 q39 = pN P56a q39 from by rw [hQ56]; exact rfl).trans ((show pN P56a q39 = pN P54 q39 from by rw [hQ56a]; exact rfl).trans ((show pN P54 q39 = pN P51 q39 from by rw [hP54]; exact rfl).trans ((show pN P51 q39 = pN P49 q39 from by rw [hP51]; exact rfl).trans ((show pN P49 q39 = pN P46 q39 from by rw [hP49]; exact rfl).trans ((show pN P46 q39 = pN P44 q39 from by rw [hP46]; exact rfl).trans ((show pN P44 q39 = pN P41 q39 from by rw [hP44]; exact rfl).trans ((show pN P41 q39 = pN P40 q39 from by rw [hP41]; exact rfl).trans (show pN P40 q39 = 2 from by rw [hP40]; exact va_up_self _ _ _)))))))))))))))))))), ?_, ((show pN P66 k1 = pN T65 k1 from by rw [hP66]; exact rfl).trans ((show pN T65 k1 = pN A3 k1 from by rw [hA4]; exact rfl).trans ((show pN A3 k1 = pN A2 k1 from by rw [hA3]; exact va_up_ne _ _ n_k1_k2).trans ((show pN A2 k1 = pN A1 k1 from by rw [hA2]; exact rfl).trans (show pN A1 k1 = 516 from by rw [hA1]; exact va_up_self _ _ _))))), ((show pN P66 k2 = pN T65 k2 from by rw [hP66]; exact rfl).trans ((show pN T65 k2 = pN A3 k2 from by rw [hA4]; exact rfl).trans (show pN A3 k2 = 516 from by rw [hA3]; exact va_up_self _ _ _)))⟩
                            ·
                              intro i hi
                              rcases (show i = 0 ∨ i = 1 ∨ i = 2 ∨ i = 3 by omega) with rfl | rfl | rfl | rfl
                              · rw [show z (2 + 0) = q5 from z_2]; exact ((show pY P66 q1 0 = pY T65 q1 0 from by rw [hP66]; exact rfl).trans ((show pY T65 q1 0 = pY A3 q1 0 from by rw [hA4]; exact rfl).trans ((show pY A3 q1 0 = pY A2 q1 0 from by rw [hA3]; exact congrFun (va_up_ne _ _ n_q1_k2) 0).trans ((show pY A2 q1 0 = pY A1 q1 0 from by rw [hA2]; exact rfl).trans ((show pY A1 q1 0 = pY P64 q1 0 from by rw [hA1]; exact congrFun (va_up_ne _ _ n_q1_k1) 0).trans ((show pY P64 q1 0 = pY P62 q1 0 from by rw [hP64]; exact rfl).trans ((show pY P62 q1 0 = pY T60 q1 0 from by rw [hP62]; exact rfl).trans ((show pY T60 q1 0 = pY P61a q1 0 from by rw [hQ61]; exact rfl).trans ((show pY P61a q1 0 = pY P59 q1 0 from by rw [hQ61a]; exact rfl).trans ((show pY P59 q1 0 = pY P57 q1 0 from by rw [hP59]; exact rfl).trans ((show pY P57 q1 0 = pY T55 q1 0 from by rw [hP57]; exact rfl).trans ((show pY T55 q1 0 = pY P56a q1 0 from by rw [hQ56]; exact rfl).trans ((show pY P56a q1 0 = pY P54 q1 0 from by rw [hQ56a]; exact rfl).trans ((show pY P54 q1 0 = pY P51 q1 0 from by rw [hP54]; exact rfl).trans ((show pY P51 q1 0 = pY P49 q1 0 from by rw [hP51]; exact congrFun (va_up_ne _ _ n_q1_q39) 0).trans ((show pY P49 q1 0 = pY P46 q1 0 from by rw [hP49]; exact rfl).trans ((show pY P46 q1 0 = pY P44 q1 0 from by rw [hP46]; exact congrFun (va_up_ne _ _ n_q1_q39) 0).trans ((show pY P44 q1 0 = pY P41 q1 0 from by rw [hP44]; exact rfl).trans ((show pY P41 q1 0 = pY P40 q1 0 from by rw [hP41]; exact rfl).trans ((show pY P40 q1 0 = pY P37 q1 0 from by rw [hP40]; exact congrFun (va_up_ne _ _ n_q1_q39) 0).trans ((show pY P37 q1 0 = pY P35 q1 0 from by rw [hP37]; exact rfl).trans ((show pY P35 q1 0 = pY P33 q1 0 from by rw [hP35]; exact rfl).trans ((show pY P33 q1 0 = pY P31 q1 0 from by rw [hP33]; exact rfl).trans ((show pY P31 q1 0 = pY P30 q1 0 from by rw [hP31]; exact rfl).trans ((show pY P30 q1 0 = pY P27 q1 0 from by rw [hP30]; exact congrFun (va_up_ne _ _ n_q1_q29) 0).trans ((show pY P27 q1 0 = pY T25 q1 0 from by rw [hP27]; exact (congrFun (va_up_self _ _ _) 0).trans rfl).trans ((show pY T25 q1 0 = pY P24 q1 0 from by rw [hQ26]; exact rfl).trans ((show pY P24 q1 0 = pY P21 q1 0 from by rw [hP24]; exact rfl).trans ((show pY P21 q1 0 = pY T19 q1 0 from by rw [hP21]; exact (congrFun (va_up_self _ _ _) 0).trans rfl).trans ((show pY T19 q1 0 = pY P18 q1 0 from by rw [hQ20]; exact rfl).trans ((show pY P18 q1 0 = pY P15 q1 0 from by rw [hP18]; exact rfl).trans ((show pY P15 q1 0 = pY T13 q1 0 from by rw [hP15]; exact (congrFun (va_up_self _ _ _) 0).trans rfl).trans ((show pY T13 q1 0 = pY P12 q1 0 from by rw [hQ14]; exact rfl).trans ((show pY P12 q1 0 = pY P9 q1 0 from by rw [hP12]; exact rfl).trans (show pY P9 q1 0 = (some q5) from by rw [hP9]; exact (congrFun (va_up_self _ _ _) 0).trans rfl)))))))))))))))))))))))))))))))))))
                              · rw [show z (2 + 1) = q11 from z_3]; exact ((show pY P66 q1 1 = pY T65 q1 1 from by rw [hP66]; exact rfl).trans ((show pY T65 q1 1 = pY A3 q1 1 from by rw [hA4]; exact rfl).trans ((show pY A3 q1 1 = pY A2 q1 1 from by rw [hA3]; exact congrFun (va_up_ne _ _ n_q1_k2) 1).trans ((show pY A2 q1 1 = pY A1 q1 1 from by rw [hA2]; exact rfl).trans ((show pY A1 q1 1 = pY P64 q1 1 from by rw [hA1]; exact congrFun (va_up_ne _ _ n_q1_k1) 1).trans ((show pY P64 q1 1 = pY P62 q1 1 from by rw [hP64]; exact rfl).trans ((show pY P62 q1 1 = pY T60 q1 1 from by rw [hP62]; exact rfl).trans ((show pY T60 q1 1 = pY P61a q1 1 from by rw [hQ61]; exact rfl).trans ((show pY P61a q1 1 = pY P59 q1 1 from by rw [hQ61a]; exact rfl).trans ((show pY P59 q1 1 = pY P57 q1 1 from by rw [hP59]; exact rfl).trans ((show pY P57 q1 1 = pY T55 q1 1 from by rw [hP57]; exact rfl).trans ((show pY T55 q1 1 = pY P56a q1 1 from by rw [hQ56]; exact rfl).trans ((show pY P56a q1 1 = pY P54 q1 1 from by rw [hQ56a]; exact rfl).trans ((show pY P54 q1 1 = pY P51 q1 1 from by rw [hP54]; exact rfl).trans ((show pY P51 q1 1 = pY P49 q1 1 from by rw [hP51]; exact congrFun (va_up_ne _ _ n_q1_q39) 1).trans ((show pY P49 q1 1 = pY P46 q1 1 from by rw [hP49]; exact rfl).trans ((show pY P46 q1 1 = pY P44 q1 1 from by rw [hP46]; exact congrFun (va_up_ne _ _ n_q1_q39) 1).trans ((show pY P44 q1 1 = pY P41 q1 1 from by rw [hP44]; exact rfl).trans ((show pY P41 q1 1 = pY P40 q1 1 from by rw [hP41]; exact rfl).trans ((show pY P40 q1 1 = pY P37 q1 1 from by rw [hP40]; exact congrFun (va_up_ne _ _ n_q1_q39) 1).trans ((show pY P37 q1 1 = pY P35 q1 1 from by rw [hP37]; exact rfl).trans ((show pY P35 q1 1 = pY P33 q1 1 from by rw [hP35]; exact rfl).trans ((show pY P33 q1 1 = pY P31 q1 1 from by rw [hP33]; exact rfl).trans ((show pY P31 q1 1 = pY P30 q1 1 from by rw [hP31]; exact rfl).trans ((show pY P30 q1 1 = pY P27 q1 1 from by rw [hP30]; exact congrFun (va_up_ne _ _ n_q1_q29) 1).trans ((show pY P27 q1 1 = pY T25 q1 1 from by rw [hP27]; exact (congrFun (va_up_self _ _ _) 1).trans rfl).trans ((show pY T25 q1 1 = pY P24 q1 1 from by rw [hQ26]; exact rfl).trans ((show pY P24 q1 1 = pY P21 q1 1 from by rw [hP24]; exact rfl).trans ((show pY P21 q1 1 = pY T19 q1 1 from by rw [hP21]; exact (congrFun (va_up_self _ _ _) 1).trans rfl).trans ((show pY T19 q1 1 = pY P18 q1 1 from by rw [hQ20]; exact rfl).trans ((show pY P18 q1 1 = pY P15 q1 1 from by rw [hP18]; exact rfl).trans (show pY P15 q1 1 = (some q11) from by rw [hP15]; exact (congrFun (va_up_self _ _ _) 1).trans rfl))))))))))))))))))))))))))))))))
                              · rw [show z (2 + 2) = q17 from z_4]; exact ((show pY P66 q1 2 = pY T65 q1 2 from by rw [hP66]; exact rfl).trans ((show pY T65 q1 2 = pY A3 q1 2 from by rw [hA4]; exact rfl).trans ((show pY A3 q1 2 = pY A2 q1 2 from by rw [hA3]; exact congrFun (va_up_ne _ _ n_q1_k2) 2).trans ((show pY A2 q1 2 = pY A1 q1 2 from by rw [hA2]; exact rfl).trans ((show pY A1 q1 2 = pY P64 q1 2 from by rw [hA1]; exact congrFun (va_up_ne _ _ n_q1_k1) 2).trans ((show pY P64 q1 2 = pY P62 q1 2 from by rw [hP64]; exact rfl).trans ((show pY P62 q1 2 = pY T60 q1 2 from by rw [hP62]; exact rfl).trans ((show pY T60 q1 2 = pY P61a q1 2 from by rw [hQ61]; exact rfl).trans ((show pY P61a q1 2 = pY P59 q1 2 from by rw [hQ61a]; exact rfl).trans ((show pY P59 q1 2 = pY P57 q1 2 from by rw [hP59]; exact rfl).trans ((show pY P57 q1 2 = pY T55 q1 2 from by rw [hP57]; exact rfl).trans ((show pY T55 q1 2 = pY P56a q1 2 from by rw [hQ56]; exact rfl).trans ((show pY P56a q1 2 = pY P54 q1 2 from by rw [hQ56a]; exact rfl).trans ((show pY P54 q1 2 = pY P51 q1 2 from by rw [hP54]; exact rfl).trans ((show pY P51 q1 2 = pY P49 q1 2 from by rw [hP51]; exact congrFun (va_up_ne _ _ n_q1_q39) 2).trans ((show pY P49 q1 2 = pY P46 q1 2 from by rw [hP49]; exact rfl).trans ((show pY P46 q1 2 = pY P44 q1 2 from by rw [hP46]; exact congrFun (va_up_ne _ _ n_q1_q39) 2).trans ((show pY P44 q1 2 = pY P41 q1 2 from by rw [hP44]; exact rfl).trans ((show pY P41 q1 2 = pY P40 q1 2 from by rw [hP41]; exact rfl).trans ((show pY P40 q1 2 = pY P37 q1 2 from by rw [hP40]; exact congrFun (va_up_ne _ _ n_q1_q39) 2).trans ((show pY P37 q1 2 = pY P35 q1 2 from by rw [hP37]; exact rfl).trans ((show pY P35 q1 2 = pY P33 q1 2 from by rw [hP35]; exact rfl).trans ((show pY P33 q1 2 = pY P31 q1 2 from by rw [hP33]; exact rfl).trans ((show pY P31 q1 2 = pY P30 q1 2 from by rw [hP31]; exact rfl).trans ((show pY P30 q1 2 = pY P27 q1 2 from by rw [hP30]; exact congrFun (va_up_ne _ _ n_q1_q29) 2).trans ((show pY P27 q1 2 = pY T25 q1 2 from by rw [hP27]; exact (congrFun (va_up_self _ _ _) 2).trans rfl).trans ((show pY T25 q1 2 = pY P24 q1 2 from by rw [hQ26]; exact rfl).trans ((show pY P24 q1 2 = pY P21 q1 2 from by rw [hP24]; exact rfl).trans (show pY P21 q1 2 = (some q17) from by rw [hP21]; exact (congrFun (va_up_self _ _ _) 2).trans rfl)))))))))))))))))))))))))))))
                              · rw [show z (2 + 3) = q23 from z_5]; exact ((show pY P66 q1 3 = pY T65 q1 3 from by rw [hP66]; exact rfl).trans ((show pY T65 q1 3 = pY A3 q1 3 from by rw [hA4]; exact rfl).trans ((show pY A3 q1 3 = pY A2 q1 3 from by rw [hA3]; exact congrFun (va_up_ne _ _ n_q1_k2) 3).trans ((show pY A2 q1 3 = pY A1 q1 3 from by rw [hA2]; exact rfl).trans ((show pY A1 q1 3 = pY P64 q1 3 from by rw [hA1]; exact congrFun (va_up_ne _ _ n_q1_k1) 3).trans ((show pY P64 q1 3 = pY P62 q1 3 from by rw [hP64]; exact rfl).trans ((show pY P62 q1 3 = pY T60 q1 3 from by rw [hP62]; exact rfl).trans ((show pY T60 q1 3 = pY P61a q1 3 from by rw [hQ61]; exact rfl).trans ((show pY P61a q1 3 = pY P59 q1 3 from by rw [hQ61a]; exact rfl).trans ((show pY P59 q1 3 = pY P57 q1 3 from by rw [hP59]; exact rfl).trans ((show pY P57 q1 3 = pY T55 q1 3 from by rw [hP57]; exact rfl).trans ((show pY T55 q1 3 = pY P56a q1 3 from by rw [hQ56]; exact rfl).trans ((show pY P56a q1 3 = pY P54 q1 3 from by rw [hQ56a]; exact rfl).trans ((show pY P54 q1 3 = pY P51 q1 3 from by rw [hP54]; exact rfl).trans ((show pY P51 q1 3 = pY P49 q1 3 from by rw [hP51]; exact congrFun (va_up_ne _ _ n_q1_q39) 3).trans ((show pY P49 q1 3 = pY P46 q1 3 from by rw [hP49]; exact rfl).trans ((show pY P46 q1 3 = pY P44 q1 3 from by rw [hP46]; exact congrFun (va_up_ne _ _ n_q1_q39) 3).trans ((show pY P44 q1 3 = pY P41 q1 3 from by rw [hP44]; exact rfl).trans ((show pY P41 q1 3 = pY P40 q1 3 from by rw [hP41]; exact rfl).trans ((show pY P40 q1 3 = pY P37 q1 3 from by rw [hP40]; exact congrFun (va_up_ne _ _ n_q1_q39) 3).trans ((show pY P37 q1 3 = pY P35 q1 3 from by rw [hP37]; exact rfl).trans ((show pY P35 q1 3 = pY P33 q1 3 from by rw [hP35]; exact rfl).trans ((show pY P33 q1 3 = pY P31 q1 3 from by rw [hP33]; exact rfl).trans ((show pY P31 q1 3 = pY P30 q1 3 from by rw [hP31]; exact rfl).trans ((show pY P30 q1 3 = pY P27 q1 3 from by rw [hP30]; exact congrFun (va_up_ne _ _ n_q1_q29) 3).trans (show pY P27 q1 3 = (some q23) from by rw [hP27]; exact (congrFun (va_up_self _ _ _) 3).trans rfl))))))))))))))))))))))))))
                            ·
                              intro i hi
                              rcases (show i = 0 ∨ i = 1 by omega) with rfl | rfl
                              · rw [show z (8 + 0) = q43 from z_8]; exact ((show pY P66 q39 0 = pY T65 q39 0 from by rw [hP66]; exact rfl).trans ((show pY T65 q39 0 = pY A3 q39 0 from by rw [hA4]; exact rfl).trans ((show pY A3 q39 0 = pY A2 q39 0 from by rw [hA3]; exact congrFun (va_up_ne _ _ n_q39_k2) 0).trans ((show pY A2 q39 0 = pY A1 q39 0 from by rw [hA2]; exact rfl).trans ((show pY A1 q39 0 = pY P64 q39 0 from by rw [hA1]; exact congrFun (va_up_ne _ _ n_q39_k1) 0).trans ((show pY P64 q39 0 = pY P62 q39 0 from by rw [hP64]; exact rfl).trans ((show pY P62 q39 0 = pY T60 q39 0 from by rw [hP62]; exact rfl).trans ((show pY T60 q39 0 = pY P61a q39 0 from by rw [hQ61]; exact rfl).trans ((show pY P61a q39 0 = pY P59 q39 0 from by rw [hQ61a]; exact rfl).trans ((show pY P59 q39 0 = pY P57 q39 0 from by rw [hP59]; exact rfl).trans ((show pY P57 q39 0 = pY T55 q39 0 from by rw [hP57]; exact rfl).trans ((show pY T55 q39 0 = pY P56a q39 0 from by rw [hQ56]; exact rfl).trans ((show pY P56a q39 0 = pY P54 q39 0 from by rw [hQ56a]; exact rfl).trans ((show pY P54 q39 0 = pY P51 q39 0 from by rw [hP54]; exact rfl).trans ((show pY P51 q39 0 = pY P49 q39 0 from by rw [hP51]; exact (congrFun (va_up_self _ _ _) 0).trans rfl).trans ((show pY P49 q39 0 = pY P46 q39 0 from by rw [hP49]; exact rfl).trans (show pY P46 q39 0 = (some q43) from by rw [hP46]; exact (congrFun (va_up_self _ _ _) 0).trans rfl)))))))))))))))))
                              · rw [show z (8 + 1) = q48 from z_9]; exact ((show pY P66 q39 1 = pY T65 q39 1 from by rw [hP66]; exact rfl).trans ((show pY T65 q39 1 = pY A3 q39 1 from by rw [hA4]; exact rfl).trans ((show pY A3 q39 1 = pY A2 q39 1 from by rw [hA3]; exact congrFun (va_up_ne _ _ n_q39_k2) 1).trans ((show pY A2 q39 1 = pY A1 q39 1 from by rw [hA2]; exact rfl).trans ((show pY A1 q39 1 = pY P64 q39 1 from by rw [hA1]; exact congrFun (va_up_ne _ _ n_q39_k1) 1).trans ((show pY P64 q39 1 = pY P62 q39 1 from by rw [hP64]; exact rfl).trans ((show pY P62 q39 1 = pY T60 q39 1 from by rw [hP62]; exact rfl).trans ((show pY T60 q39 1 = pY P61a q39 1 from by rw [hQ61]; exact rfl).trans ((show pY P61a q39 1 = pY P59 q39 1 from by rw [hQ61a]; exact rfl).trans ((show pY P59 q39 1 = pY P57 q39 1 from by rw [hP59]; exact rfl).trans ((show pY P57 q39 1 = pY T55 q39 1 from by rw [hP57]; exact rfl).trans ((show pY T55 q39 1 = pY P56a q39 1 from by rw [hQ56]; exact rfl).trans ((show pY P56a q39 1 = pY P54 q39 1 from by rw [hQ56a]; exact rfl).trans ((show pY P54 q39 1 = pY P51 q39 1 from by rw [hP54]; exact rfl).trans (show pY P51 q39 1 = (some q48) from by rw [hP51]; exact (congrFun (va_up_self _ _ _) 1).trans rfl)))))))))))))))
                          have hno : ∀ k a, k = 1 ∨ k = 2 → ¬ Ob P66 k a := by
                            intro k a hk ha
                            have h1 := hall a ha.1
                            simp only [List.mem_cons, List.not_mem_nil, or_false] at h1
                            rcases h1 with h1 | h1 | h1 | h1 | h1 | h1 | h1 | h1 | h1 | h1 | h1 | h1 | h1 | h1 | h1
                            · rw [h1] at ha; exact absurd (ob_k2.2.symm.trans ha.2) (by omega)
                            · rw [h1] at ha; exact absurd (ob_k1.2.symm.trans ha.2) (by omega)
                            · rw [h1] at ha; exact absurd (ob_q63.2.symm.trans ha.2) (by omega)
                            · rw [h1] at ha; exact absurd (ob_q58.2.symm.trans ha.2) (by omega)
                            · rw [h1] at ha; exact absurd (ob_q53.2.symm.trans ha.2) (by omega)
                            · rw [h1] at ha; exact absurd (ob_q48.2.symm.trans ha.2) (by omega)
                            · rw [h1] at ha; exact absurd (ob_q43.2.symm.trans ha.2) (by omega)
                            · rw [h1] at ha; exact absurd (ob_q39.2.symm.trans ha.2) (by omega)
                            · rw [h1] at ha; exact absurd (ob_q29.2.symm.trans ha.2) (by omega)
                            · rw [h1] at ha; exact absurd (ob_q23.2.symm.trans ha.2) (by omega)
                            · rw [h1] at ha; exact absurd (ob_q17.2.symm.trans ha.2) (by omega)
                            · rw [h1] at ha; exact absurd (ob_q11.2.symm.trans ha.2) (by omega)
                            · rw [h1] at ha; exact absurd (ob_q5.2.symm.trans ha.2) (by omega)
                            · rw [h1] at ha; exact absurd (ob_q1.2.symm.trans ha.2) (by omega)
                            · rw [h1] at ha; exact absurd (ob_h.2.symm.trans ha.2) (by omega)
                          have hk4 : kI4 z P66 := by
                            refine ⟨⟨0, by decide, ?_⟩, fun i => ?_, ?_, fun a ha => absurd ha (hno 2 a (Or.inr rfl))⟩
                            · rw [z_12]; exact ((show pF P66 42 q63 = pF T65 42 q63 from by rw [hP66]; exact rfl).trans ((show pF T65 42 q63 = pF A3 42 q63 from by rw [hA4]; exact rfl).trans ((show pF A3 42 q63 = pF A2 42 q63 from by rw [hA3]; exact rfl).trans ((show pF A2 42 q63 = pF A1 42 q63 from by rw [hA2]; exact rfl).trans ((show pF A1 42 q63 = pF P64 42 q63 from by rw [hA1]; exact rfl).trans (show pF P64 42 q63 = 0 from by rw [hP64]; exact va_up_self _ _ _))))))
                            · rw [z_14, ((show pX P66 k2 i = pX T65 k2 i from by rw [hP66]; exact rfl).trans ((show pX T65 k2 i = pX A3 k2 i from by rw [hA4]; exact rfl).trans (show pX A3 k2 i = 0 from by rw [hA3]; exact congrFun (va_up_self _ _ _) i)))]; exact ⟨rfl, rfl⟩
                            ·
                              intro i hi
                              rcases (show i = 0 ∨ i = 1 ∨ i = 2 ∨ i = 3 by omega) with rfl | rfl | rfl | rfl
                              · rw [show z (2 + 0) = q5 from z_2]; exact Or.inl ((show pF P66 1 q5 = pF T65 1 q5 from by rw [hP66]; exact rfl).trans ((show pF T65 1 q5 = pF A3 1 q5 from by rw [hA4]; exact rfl).trans ((show pF A3 1 q5 = pF A2 1 q5 from by rw [hA3]; exact rfl).trans ((show pF A2 1 q5 = pF A1 1 q5 from by rw [hA2]; exact rfl).trans ((show pF A1 1 q5 = pF P64 1 q5 from by rw [hA1]; exact rfl).trans ((show pF P64 1 q5 = pF P62 1 q5 from by rw [hP64]; exact va_up_ne _ _ n_q5_q63).trans ((show pF P62 1 q5 = pF T60 1 q5 from by rw [hP62]; exact rfl).trans ((show pF T60 1 q5 = pF P61a 1 q5 from by rw [hQ61]; exact rfl).trans ((show pF P61a 1 q5 = pF P59 1 q5 from by rw [hQ61a]; exact uF_of (Or.inl (by decide))).trans ((show pF P59 1 q5 = pF P57 1 q5 from by rw [hP59]; exact va_up_ne _ _ n_q5_q58).trans ((show pF P57 1 q5 = pF T55 1 q5 from by rw [hP57]; exact rfl).trans ((show pF T55 1 q5 = pF P56a 1 q5 from by rw [hQ56]; exact rfl).trans ((show pF P56a 1 q5 = pF P54 1 q5 from by rw [hQ56a]; exact uF_of (Or.inl (by decide))).trans ((show pF P54 1 q5 = pF P51 1 q5 from by rw [hP54]; exact va_up_ne _ _ n_q5_q53).trans ((show pF P51 1 q5 = pF P49 1 q5 from by rw [hP51]; exact rfl).trans ((show pF P49 1 q5 = pF P46 1 q5 from by rw [hP49]; exact va_up_ne _ _ n_q5_q48).trans ((show pF P46 1 q5 = pF P44 1 q5 from by rw [hP46]; exact rfl).trans ((show pF P44 1 q5 = pF P41 1 q5 from by rw [hP44]; exact va_up_ne _ _ n_q5_q43).trans ((show pF P41 1 q5 = pF P40 1 q5 from by rw [hP41]; exact rfl).trans ((show pF P40 1 q5 = pF P37 1 q5 from by rw [hP40]; exact rfl).trans ((show pF P37 1 q5 = pF P35 1 q5 from by rw [hP37]; exact rfl).trans ((show pF P35 1 q5 = pF P33 1 q5 from by rw [hP35]; exact rfl).trans ((show pF P33 1 q5 = pF P31 1 q5 from by rw [hP33]; exact rfl).trans ((show pF P31 1 q5 = pF P30 1 q5 from by rw [hP31]; exact rfl).trans ((show pF P30 1 q5 = pF P27 1 q5 from by rw [hP30]; exact rfl).trans ((show pF P27 1 q5 = pF T25 1 q5 from by rw [hP27]; exact rfl).trans ((show pF T25 1 q5 = pF P24 1 q5 from by rw [hQ26]; exact uF_of (Or.inl (by decide))).trans ((show pF P24 1 q5 = pF P21 1 q5 from by rw [hP24]; exact va_up_ne _ _ n_q5_q23).trans ((show pF P21 1 q5 = pF T19 1 q5 from by rw [hP21]; exact rfl).trans ((show pF T19 1 q5 = pF P18 1 q5 from by rw [hQ20]; exact uF_of (Or.inl (by decide))).trans ((show pF P18 1 q5 = pF P15 1 q5 from by rw [hP18]; exact va_up_ne _ _ n_q5_q17).trans ((show pF P15 1 q5 = pF T13 1 q5 from by rw [hP15]; exact rfl).trans ((show pF T13 1 q5 = pF P12 1 q5 from by rw [hQ14]; exact uF_of (Or.inl (by decide))).trans ((show pF P12 1 q5 = pF P9 1 q5 from by rw [hP12]; exact va_up_ne _ _ n_q5_q11).trans ((show pF P9 1 q5 = pF T7 1 q5 from by rw [hP9]; exact rfl).trans ((show pF T7 1 q5 = pF P6 1 q5 from by rw [hQ8]; exact uF_of (Or.inl (by decide))).trans (show pF P6 1 q5 = 0 from by rw [hP6]; exact va_up_self _ _ _)))))))))))))))))))))))))))))))))))))
                              · rw [show z (2 + 1) = q11 from z_3]; exact Or.inl ((show pF P66 1 q11 = pF T65 1 q11 from by rw [hP66]; exact rfl).trans ((show pF T65 1 q11 = pF A3 1 q11 from by rw [hA4]; exact rfl).trans ((show pF A3 1 q11 = pF A2 1 q11 from by rw [hA3]; exact rfl).trans ((show pF A2 1 q11 = pF A1 1 q11 from by rw [hA2]; exact rfl).trans ((show pF A1 1 q11 = pF P64 1 q11 from by rw [hA1]; exact rfl).trans ((show pF P64 1 q11 = pF P62 1 q11 from by rw [hP64]; exact va_up_ne _ _ n_q11_q63).trans ((show pF P62 1 q11 = pF T60 1 q11 from by rw [hP62]; exact rfl).trans ((show pF T60 1 q11 = pF P61a 1 q11 from by rw [hQ61]; exact rfl).trans ((show pF P61a 1 q11 = pF P59 1 q11 from by rw [hQ61a]; exact uF_of (Or.inl (by decide))).trans ((show pF P59 1 q11 = pF P57 1 q11 from by rw [hP59]; exact va_up_ne _ _ n_q11_q58).trans ((show pF P57 1 q11 = pF T55 1 q11 from by rw [hP57]; exact rfl).trans ((show pF T55 1 q11 = pF P56a 1 q11 from by rw [hQ56]; exact rfl).trans ((show pF P56a 1 q11 = pF P54 1 q11 from by rw [hQ56a]; exact uF_of (Or.inl (by decide))).trans ((show pF P54 1 q11 = pF P51 1 q11 from by rw [hP54]; exact va_up_ne _ _ n_q11_q53).trans ((show pF P51 1 q11 = pF P49 1 q11 from by rw [hP51]; exact rfl).trans ((show pF P49 1 q11 = pF P46 1 q11 from by rw [hP49]; exact va_up_ne _ _ n_q11_q48).trans ((show pF P46 1 q11 = pF P44 1 q11 from by rw [hP46]; exact rfl).trans ((show pF P44 1 q11 = pF P41 1 q11 from by rw [hP44]; exact va_up_ne _ _ n_q11_q43).trans ((show pF P41 1 q11 = pF P40 1 q11 from by rw [hP41]; exact rfl).trans ((show pF P40 1 q11 = pF P37 1 q11 from by rw [hP40]; exact rfl).trans ((show pF P37 1 q11 = pF P35 1 q11 from by rw [hP37]; exact rfl).trans ((show pF P35 1 q11 = pF P33 1 q11 from by rw [hP35]; exact rfl).trans ((show pF P33 1 q11 = pF P31 1 q11 from by rw [hP33]; exact rfl).trans ((show pF P31 1 q11 = pF P30 1 q11 from by rw [hP31]; exact rfl).trans ((show pF P30 1 q11 = pF P27 1 q11 from by rw [hP30]; exact rfl).trans ((show pF P27 1 q11 = pF T25 1 q11 from by rw [hP27]; exact rfl).trans ((show pF T25 1 q11 = pF P24 1 q11 from by rw [hQ26]; exact uF_of (Or.inl (by decide))).trans ((show pF P24 1 q11 = pF P21 1 q11 from by rw [hP24]; exact va_up_ne _ _ n_q11_q23).trans ((show pF P21 1 q11 = pF T19 1 q11 from by rw [hP21]; exact rfl).trans ((show pF T19 1 q11 = pF P18 1 q11 from by rw [hQ20]; exact uF_of (Or.inl (by decide))).trans ((show pF P18 1 q11 = pF P15 1 q11 from by rw [hP18]; exact va_up_ne _ _ n_q11_q17).trans ((show pF P15 1 q11 = pF T13 1 q11 from by rw [hP15]; exact rfl).trans ((show pF T13 1 q11 = pF P12 1 q11 from by rw [hQ14]; exact uF_of (Or.inl (by decide))).trans (show pF P12 1 q11 = 0 from by rw [hP12]; exact va_up_self _ _ _))))))))))))))))))))))))))))))))))
                              · rw [show z (2 + 2) = q17 from z_4]; exact Or.inl ((show pF P66 1 q17 = pF T65 1 q17 from by rw [hP66]; exact rfl).trans ((show pF T65 1 q17 = pF A3 1 q17 from by rw [hA4]; exact rfl).trans ((show pF A3 1 q17 = pF A2 1 q17 from by rw [hA3]; exact rfl).trans ((show pF A2 1 q17 = pF A1 1 q17 from by rw [hA2]; exact rfl).trans ((show pF A1 1 q17 = pF P64 1 q17 from by rw [hA1]; exact rfl).trans ((show pF P64 1 q17 = pF P62 1 q17 from by rw [hP64]; exact va_up_ne _ _ n_q17_q63).trans ((show pF P62 1 q17 = pF T60 1 q17 from by rw [hP62]; exact rfl).trans ((show pF T60 1 q17 = pF P61a 1 q17 from by rw [hQ61]; exact rfl).trans ((show pF P61a 1 q17 = pF P59 1 q17 from by rw [hQ61a]; exact uF_of (Or.inl (by decide))).trans ((show pF P59 1 q17 = pF P57 1 q17 from by rw [hP59]; exact va_up_ne _ _ n_q17_q58).trans ((show pF P57 1 q17 = pF T55 1 q17 from by rw [hP57]; exact rfl).trans ((show pF T55 1 q17 = pF P56a 1 q17 from by rw [hQ56]; exact rfl).trans ((show pF P56a 1 q17 = pF P54 1 q17 from by rw [hQ56a]; exact uF_of (Or.inl (by decide))).trans ((show pF P54 1 q17 = pF P51 1 q17 from by rw [hP54]; exact va_up_ne _ _ n_q17_q53).trans ((show pF P51 1 q17 = pF P49 1 q17 from by rw [hP51]; exact rfl).trans ((show pF P49 1 q17 = pF P46 1 q17 from by rw [hP49]; exact va_up_ne _ _ n_q17_q48).trans ((show pF P46 1 q17 = pF P44 1 q17 from by rw [hP46]; exact rfl).trans ((show pF P44 1 q17 = pF P41 1 q17 from by rw [hP44]; exact va_up_ne _ _ n_q17_q43).trans ((show pF P41 1 q17 = pF P40 1 q17 from by rw [hP41]; exact rfl).trans ((show pF P40 1 q17 = pF P37 1 q17 from by rw [hP40]; exact rfl).trans ((show pF P37 1 q17 = pF P35 1 q17 from by rw [hP37]; exact rfl).trans ((show pF P35 1 q17 = pF P33 1 q17 from by rw [hP35]; exact rfl).trans ((show pF P33 1 q17 = pF P31 1 q17 from by rw [hP33]; exact rfl).trans ((show pF P31 1 q17 = pF P30 1 q17 from by rw [hP31]; exact rfl).trans ((show pF P30 1 q17 = pF P27 1 q17 from by rw [hP30]; exact rfl).trans ((show pF P27 1 q17 = pF T25 1 q17 from by rw [hP27]; exact rfl).trans ((show pF T25 1 q17 = pF P24 1 q17 from by rw [hQ26]; exact uF_of (Or.inl (by decide))).trans ((show pF P24 1 q17 = pF P21 1 q17 from by rw [hP24]; exact va_up_ne _ _ n_q17_q23).trans ((show pF P21 1 q17 = pF T19 1 q17 from by rw [hP21]; exact rfl).trans ((show pF T19 1 q17 = pF P18 1 q17 from by rw [hQ20]; exact uF_of (Or.inl (by decide))).trans (show pF P18 1 q17 = 0 from by rw [hP18]; exact va_up_self _ _ _)))))))))))))))))))))))))))))))
                              · rw [show z (2 + 3) = q23 from z_5]; exact Or.inl ((show pF P66 1 q23 = pF T65 1 q23 from by rw [hP66]; exact rfl).trans ((show pF T65 1 q23 = pF A3 1 q23 from by rw [hA4]; exact rfl).trans ((show pF A3 1 q23 = pF A2 1 q23 from by rw [hA3]; exact rfl).trans ((show pF A2 1 q23 = pF A1 1 q23 from by rw [hA2]; exact rfl).trans ((show pF A1 1 q23 = pF P64 1 q23 from by rw [hA1]; exact rfl).trans ((show pF P64 1 q23 = pF P62 1 q23 from by rw [hP64]; exact va_up_ne _ _ n_q23_q63).trans ((show pF P62 1 q23 = pF T60 1 q23 from by rw [hP62]; exact rfl).trans ((show pF T60 1 q23 = pF P61a 1 q23 from by rw [hQ61]; exact rfl).trans ((show pF P61a 1 q23 = pF P59 1 q23 from by rw [hQ61a]; exact uF_of (Or.inl (by decide))).trans ((show pF P59 1 q23 = pF P57 1 q23 from by rw [hP59]; exact va_up_ne _ _ n_q23_q58).trans ((show pF P57 1 q23 = pF T55 1 q23 from by rw [hP57]; exact rfl).trans ((show pF T55 1 q23 = pF P56a 1 q23 from by rw [hQ56]; exact rfl).trans ((show pF P56a 1 q23 = pF P54 1 q23 from by rw [hQ56a]; exact uF_of (Or.inl (by decide))).trans ((show pF P54 1 q23 = pF P51 1 q23 from by rw [hP54]; exact va_up_ne _ _ n_q23_q53).trans ((show pF P51 1 q23 = pF P49 1 q23 from by rw [hP51]; exact rfl).trans ((show pF P49 1 q23 = pF P46 1 q23 from by rw [hP49]; exact va_up_ne _ _ n_q23_q48).trans ((show pF P46 1 q23 = pF P44 1 q23 from by rw [hP46]; exact rfl).trans ((show pF P44 1 q23 = pF P41 1 q23 from by rw [hP44]; exact va_up_ne _ _ n_q23_q43).trans ((show pF P41 1 q23 = pF P40 1 q23 from by rw [hP41]; exact rfl).trans ((show pF P40 1 q23 = pF P37 1 q23 from by rw [hP40]; exact rfl).trans ((show pF P37 1 q23 = pF P35 1 q23 from by rw [hP37]; exact rfl).trans ((show pF P35 1 q23 = pF P33 1 q23 from by rw [hP35]; exact rfl).trans ((show pF P33 1 q23 = pF P31 1 q23 from by rw [hP33]; exact rfl).trans ((show pF P31 1 q23 = pF P30 1 q23 from by rw [hP31]; exact rfl).trans ((show pF P30 1 q23 = pF P27 1 q23 from by rw [hP30]; exact rfl).trans ((show pF P27 1 q23 = pF T25 1 q23 from by rw [hP27]; exact rfl).trans ((show pF T25 1 q23 = pF P24 1 q23 from by rw [hQ26]; exact uF_of (Or.inl (by decide))).trans (show pF P24 1 q23 = 0 from by rw [hP24]; exact va_up_self _ _ _))))))))))))))))))))))))))))
                          have hk5 : kI5 z e0 P66 := by
                            unfold kI5
                            rw [z_10, z_11]
                            exact ⟨⟨0, by decide, ((show pF P66 72 q53 = pF T65 72 q53 from by rw [hP66]; exact rfl).trans ((show pF T65 72 q53 = pF A3 72 q53 from by rw [hA4]; exact rfl).trans ((show pF A3 72 q53 = pF A2 72 q53 from by rw [hA3]; exact rfl).trans ((show pF A2 72 q53 = pF A1 72 q53 from by rw [hA2]; exact rfl).trans ((show pF A1 72 q53 = pF P64 72 q53 from by rw [hA1]; exact rfl).trans ((show pF P64 72 q53 = pF P62 72 q53 from by rw [hP64]; exact va_up_ne _ _ n_q53_q63).trans ((show pF P62 72 q53 = pF T60 72 q53 from by rw [hP62]; exact rfl).trans ((show pF T60 72 q53 = pF P61a 72 q53 from by rw [hQ61]; exact rfl).trans ((show pF P61a 72 q53 = pF P59 72 q53 from by rw [hQ61a]; exact uF_of (Or.inl (by decide))).trans ((show pF P59 72 q53 = pF P57 72 q53 from by rw [hP59]; exact va_up_ne _ _ n_q53_q58).trans ((show pF P57 72 q53 = pF T55 72 q53 from by rw [hP57]; exact rfl).trans ((show pF T55 72 q53 = pF P56a 72 q53 from by rw [hQ56]; exact rfl).trans ((show pF P56a 72 q53 = pF P54 72 q53 from by rw [hQ56a]; exact uF_of (Or.inl (by decide))).trans (show pF P54 72 q53 = 0 from by rw [hP54]; exact va_up_self _ _ _)))))))))))))), Or.inl ⟨rfl, ((show pG P66 71 q53 = pG T65 71 q53 from by rw [hP66]; exact uG_of (Or.inl (by decide))).trans ((show pG T65 71 q53 = pG A3 71 q53 from by rw [hA4]; exact uG_of (Or.inl (by decide))).trans ((show pG A3 71 q53 = pG A2 71 q53 from by rw [hA3]; exact rfl).trans ((show pG A2 71 q53 = pG A1 71 q53 from by rw [hA2]; exact uG_of (Or.inl (by decide))).trans ((show pG A1 71 q53 = pG P64 71 q53 from by rw [hA1]; exact rfl).trans ((show pG P64 71 q53 = pG P62 71 q53 from by rw [hP64]; exact va_up_ne _ _ n_q53_q63).trans ((show pG P62 71 q53 = pG T60 71 q53 from by rw [hP62]; exact uG_of (Or.inl (by decide))).trans ((show pG T60 71 q53 = pG P61a 71 q53 from by rw [hQ61]; exact uG_of (Or.inr n_q53_q58)).trans ((show pG P61a 71 q53 = pG P59 71 q53 from by rw [hQ61a]; exact rfl).trans ((show pG P59 71 q53 = pG P57 71 q53 from by rw [hP59]; exact va_up_ne _ _ n_q53_q58).trans ((show pG P57 71 q53 = pG T55 71 q53 from by rw [hP57]; exact uG_of (Or.inl (by decide))).trans (show pG T55 71 q53 = (some e0) from by rw [hQ56]; exact uG_at))))))))))))⟩⟩, ⟨0, by decide, ((show pF P66 72 q58 = pF T65 72 q58 from by rw [hP66]; exact rfl).trans ((show pF T65 72 q58 = pF A3 72 q58 from by rw [hA4]; exact rfl).trans ((show pF A3 72 q58 = pF A2 72 q58 from by rw [hA3]; exact rfl).trans ((show pF A2 72 q58 = pF A1 72 q58 from by rw [hA2]; exact rfl).trans ((show pF A1 72 q58 = pF P64 72 q58 from by rw [hA1]; exact rfl).trans ((show pF P64 72 q58 = pF P62 72 q58 from by rw [hP64]; exact va_up_ne _ _ n_q58_q63).trans ((show pF P62 72 q58 = pF T60 72 q58 from by rw [hP62]; exact rfl).trans ((show pF T60 72 q58 = pF P61a 72 q58 from by rw [hQ61]; exact rfl).trans ((show pF P61a 72 q58 = pF P59 72 q58 from by rw [hQ61a]; exact uF_of (Or.inl (by decide))).trans (show pF P59 72 q58 = 0 from by rw [hP59]; exact va_up_self _ _ _)))))))))), Or.inl ⟨rfl, ((show pG P66 71 q58 = pG T65 71 q58 from by rw [hP66]; exact uG_of (Or.inl (by decide))).trans ((show pG T65 71 q58 = pG A3 71 q58 from by rw [hA4]; exact uG_of (Or.inl (by decide))).trans ((show pG A3 71 q58 = pG A2 71 q58 from by rw [hA3]; exact rfl).trans ((show pG A2 71 q58 = pG A1 71 q58 from by rw [hA2]; exact uG_of (Or.inl (by decide))).trans ((show pG A1 71 q58 = pG P64 71 q58 from by rw [hA1]; exact rfl).trans ((show pG P64 71 q58 = pG P62 71 q58 from by rw [hP64]; exact va_up_ne _ _ n_q58_q63).trans ((show pG P62 71 q58 = pG T60 71 q58 from by rw [hP62]; exact uG_of (Or.inl (by decide))).trans (show pG T60 71 q58 = (some e0) from by rw [hQ61]; exact uG_at))))))))⟩⟩, fun d h1 _ => Option.some.inj (h1.symm.trans ((show pG P66 71 q53 = pG T65 71 q53 from by rw [hP66]; exact uG_of (Or.inl (by decide))).trans ((show pG T65 71 q53 = pG A3 71 q53 from by rw [hA4]; exact uG_of (Or.inl (by decide))).trans ((show pG A3 71 q53 = pG A2 71 q53 from by rw [hA3]; exact rfl).trans ((show pG A2 71 q53 = pG A1 71 q53 from by rw [hA2]; exact uG_of (Or.inl (by decide))).trans ((show pG A1 71 q53 = pG P64 71 q53 from by rw [hA1]; exact rfl).trans ((show pG P64 71 q53 = pG P62 71 q53 from by rw [hP64]; exact va_up_ne _ _ n_q53_q63).trans ((show pG P62 71 q53 = pG T60 71 q53 from by rw [hP62]; exact uG_of (Or.inl (by decide))).trans ((show pG T60 71 q53 = pG P61a 71 q53 from by rw [hQ61]; exact uG_of (Or.inr n_q53_q58)).trans ((show pG P61a 71 q53 = pG P59 71 q53 from by rw [hQ61a]; exact rfl).trans ((show pG P59 71 q53 = pG P57 71 q53 from by rw [hP59]; exact va_up_ne _ _ n_q53_q58).trans ((show pG P57 71 q53 = pG T55 71 q53 from by rw [hP57]; exact uG_of (Or.inl (by decide))).trans (show pG T55 71 q53 = (some e0) from by rw [hQ56]; exact uG_at))))))))))))), fun hm => hE.2.1.out (kD_in hD hm)⟩
                          have hrb : ∀ i, i < 2 → pG P66 30 (z (8 + i)) = none := by
                              intro i hi
                              rcases (show i = 0 ∨ i = 1 by omega) with rfl | rfl
                              · rw [show z (8 + 0) = q43 from z_8]; exact ((show pG P66 30 q43 = pG T65 30 q43 from by rw [hP66]; exact uG_of (Or.inl (by decide))).trans ((show pG T65 30 q43 = pG A3 30 q43 from by rw [hA4]; exact uG_of (Or.inl (by decide))).trans ((show pG A3 30 q43 = pG A2 30 q43 from by rw [hA3]; exact rfl).trans ((show pG A2 30 q43 = pG A1 30 q43 from by rw [hA2]; exact uG_of (Or.inl (by decide))).trans ((show pG A1 30 q43 = pG P64 30 q43 from by rw [hA1]; exact rfl).trans ((show pG P64 30 q43 = pG P62 30 q43 from by rw [hP64]; exact va_up_ne _ _ n_q43_q63).trans ((show pG P62 30 q43 = pG T60 30 q43 from by rw [hP62]; exact uG_of (Or.inl (by decide))).trans ((show pG T60 30 q43 = pG P61a 30 q43 from by rw [hQ61]; exact uG_of (Or.inl (by decide))).trans ((show pG P61a 30 q43 = pG P59 30 q43 from by rw [hQ61a]; exact rfl).trans ((show pG P59 30 q43 = pG P57 30 q43 from by rw [hP59]; exact va_up_ne _ _ n_q43_q58).trans ((show pG P57 30 q43 = pG T55 30 q43 from by rw [hP57]; exact uG_of (Or.inl (by decide))).trans ((show pG T55 30 q43 = pG P56a 30 q43 from by rw [hQ56]; exact uG_of (Or.inl (by decide))).trans ((show pG P56a 30 q43 = pG P54 30 q43 from by rw [hQ56a]; exact rfl).trans ((show pG P54 30 q43 = pG P51 30 q43 from by rw [hP54]; exact va_up_ne _ _ n_q43_q53).trans ((show pG P51 30 q43 = pG P49 30 q43 from by rw [hP51]; exact rfl).trans ((show pG P49 30 q43 = pG P46 30 q43 from by rw [hP49]; exact va_up_ne _ _ n_q43_q48).trans ((show pG P46 30 q43 = pG P44 30 q43 from by rw [hP46]; exact rfl).trans (show pG P44 30 q43 = none from by rw [hP44]; exact va_up_self _ _ _))))))))))))))))))
                              · rw [show z (8 + 1) = q48 from z_9]; exact ((show pG P66 30 q48 = pG T65 30 q48 from by rw [hP66]; exact uG_of (Or.inl (by decide))).trans ((show pG T65 30 q48 = pG A3 30 q48 from by rw [hA4]; exact uG_of (Or.inl (by decide))).trans ((show pG A3 30 q48 = pG A2 30 q48 from by rw [hA3]; exact rfl).trans ((show pG A2 30 q48 = pG A1 30 q48 from by rw [hA2]; exact uG_of (Or.inl (by decide))).trans ((show pG A1 30 q48 = pG P64 30 q48 from by rw [hA1]; exact rfl).trans ((show pG P64 30 q48 = pG P62 30 q48 from by rw [hP64]; exact va_up_ne _ _ n_q48_q63).trans ((show pG P62 30 q48 = pG T60 30 q48 from by rw [hP62]; exact uG_of (Or.inl (by decide))).trans ((show pG T60 30 q48 = pG P61a 30 q48 from by rw [hQ61]; exact uG_of (Or.inl (by decide))).trans ((show pG P61a 30 q48 = pG P59 30 q48 from by rw [hQ61a]; exact rfl).trans ((show pG P59 30 q48 = pG P57 30 q48 from by rw [hP59]; exact va_up_ne _ _ n_q48_q58).trans ((show pG P57 30 q48 = pG T55 30 q48 from by rw [hP57]; exact uG_of (Or.inl (by decide))).trans ((show pG T55 30 q48 = pG P56a 30 q48 from by rw [hQ56]; exact uG_of (Or.inl (by decide))).trans ((show pG P56a 30 q48 = pG P54 30 q48 from by rw [hQ56a]; exact rfl).trans ((show pG P54 30 q48 = pG P51 30 q48 from by rw [hP54]; exact va_up_ne _ _ n_q48_q53).trans ((show pG P51 30 q48 = pG P49 30 q48 from by rw [hP51]; exact rfl).trans (show pG P49 30 q48 = none from by rw [hP49]; exact va_up_self _ _ _))))))))))))))))
                          have hk6 : kI6 z P66 := by
                            refine ⟨fun a ha => absurd ha (hno 1 a (Or.inl rfl)), fun a ha => absurd ha (hno 2 a (Or.inr rfl)), fun a ha => Or.inl ?_⟩
                            have h1 := hall a ha.1
                            simp only [List.mem_cons, List.not_mem_nil, or_false] at h1
                            rcases h1 with h1 | h1 | h1 | h1 | h1 | h1 | h1 | h1 | h1 | h1 | h1 | h1 | h1 | h1 | h1
                            · rw [h1] at ha; exact absurd (ob_k2.2.symm.trans ha.2) (by decide)
                            · rw [h1] at ha; exact absurd (ob_k1.2.symm.trans ha.2) (by decide)
                            · rw [h1] at ha; exact absurd (ob_q63.2.symm.trans ha.2) (by decide)
                            · rw [h1] at ha; exact absurd (ob_q58.2.symm.trans ha.2) (by decide)
                            · rw [h1] at ha; exact absurd (ob_q53.2.symm.trans ha.2) (by decide)
                            · rw [h1]; exact ((show pG P66 30 q48 = pG T65 30 q48 from by rw [hP66]; exact uG_of (Or.inl (by decide))).trans ((show pG T65 30 q48 = pG A3 30 q48 from by rw [hA4]; exact uG_of (Or.inl (by decide))).trans ((show pG A3 30 q48 = pG A2 30 q48 from by rw [hA3]; exact rfl).trans ((show pG A2 30 q48 = pG A1 30 q48 from by rw [hA2]; exact uG_of (Or.inl (by decide))).trans ((show pG A1 30 q48 = pG P64 30 q48 from by rw [hA1]; exact rfl).trans ((show pG P64 30 q48 = pG P62 30 q48 from by rw [hP64]; exact va_up_ne _ _ n_q48_q63).trans ((show pG P62 30 q48 = pG T60 30 q48 from by rw [hP62]; exact uG_of (Or.inl (by decide))).trans ((show pG T60 30 q48 = pG P61a 30 q48 from by rw [hQ61]; exact uG_of (Or.inl (by decide))).trans ((show pG P61a 30 q48 = pG P59 30 q48 from by rw [hQ61a]; exact rfl).trans ((show pG P59 30 q48 = pG P57 30 q48 from by rw [hP59]; exact va_up_ne _ _ n_q48_q58).trans ((show pG P57 30 q48 = pG T55 30 q48 from by rw [hP57]; exact uG_of (Or.inl (by decide))).trans ((show pG T55 30 q48 = pG P56a 30 q48 from by rw [hQ56]; exact uG_of (Or.inl (by decide))).trans ((show pG P56a 30 q48 = pG P54 30 q48 from by rw [hQ56a]; exact rfl).trans ((show pG P54 30 q48 = pG P51 30 q48 from by rw [hP54]; exact va_up_ne _ _ n_q48_q53).trans ((show pG P51 30 q48 = pG P49 30 q48 from by rw [hP51]; exact rfl).trans (show pG P49 30 q48 = none from by rw [hP49]; exact va_up_self _ _ _))))))))))))))))
                            · rw [h1]; exact ((show pG P66 30 q43 = pG T65 30 q43 from by rw [hP66]; exact uG_of (Or.inl (by decide))).trans ((show pG T65 30 q43 = pG A3 30 q43 from by rw [hA4]; exact uG_of (Or.inl (by decide))).trans ((show pG A3 30 q43 = pG A2 30 q43 from by rw [hA3]; exact rfl).trans ((show pG A2 30 q43 = pG A1 30 q43 from by rw [hA2]; exact uG_of (Or.inl (by decide))).trans ((show pG A1 30 q43 = pG P64 30 q43 from by rw [hA1]; exact rfl).trans ((show pG P64 30 q43 = pG P62 30 q43 from by rw [hP64]; exact va_up_ne _ _ n_q43_q63).trans ((show pG P62 30 q43 = pG T60 30 q43 from by rw [hP62]; exact uG_of (Or.inl (by decide))).trans ((show pG T60 30 q43 = pG P61a 30 q43 from by rw [hQ61]; exact uG_of (Or.inl (by decide))).trans ((show pG P61a 30 q43 = pG P59 30 q43 from by rw [hQ61a]; exact rfl).trans ((show pG P59 30 q43 = pG P57 30 q43 from by rw [hP59]; exact va_up_ne _ _ n_q43_q58).trans ((show pG P57 30 q43 = pG T55 30 q43 from by rw [hP57]; exact uG_of (Or.inl (by decide))).trans ((show pG T55 30 q43 = pG P56a 30 q43 from by rw [hQ56]; exact uG_of (Or.inl (by decide))).trans ((show pG P56a 30 q43 = pG P54 30 q43 from by rw [hQ56a]; exact rfl).trans ((show pG P54 30 q43 = pG P51 30 q43 from by rw [hP54]; exact va_up_ne _ _ n_q43_q53).trans ((show pG P51 30 q43 = pG P49 30 q43 from by rw [hP51]; exact rfl).trans ((show pG P49 30 q43 = pG P46 30 q43 from by rw [hP49]; exact va_up_ne _ _ n_q43_q48).trans ((show pG P46 30 q43 = pG P44 30 q43 from by rw [hP46]; exact rfl).trans (show pG P44 30 q43 = none from by rw [hP44]; exact va_up_self _ _ _))))))))))))))))))
                            · rw [h1] at ha; exact absurd (ob_q39.2.symm.trans ha.2) (by decide)
                            · rw [h1] at ha; exact absurd (ob_q29.2.symm.trans ha.2) (by decide)
                            · rw [h1] at ha; exact absurd (ob_q23.2.symm.trans ha.2) (by decide)
                            · rw [h1] at ha; exact absurd (ob_q17.2.symm.trans ha.2) (by decide)
                            · rw [h1] at ha; exact absurd (ob_q11.2.symm.trans ha.2) (by decide)
                            · rw [h1] at ha; exact absurd (ob_q5.2.symm.trans ha.2) (by decide)
                            · rw [h1] at ha; exact absurd (ob_q1.2.symm.trans ha.2) (by decide)
                            · rw [h1] at ha; exact absurd (ob_h.2.symm.trans ha.2) (by decide)
                          have hfr : Fr z P66 := by
                            unfold Fr
                            rw [z_10, z_11, z_12, z_0, z_6]
                            refine ⟨((show pF P66 72 q53 = pF T65 72 q53 from by rw [hP66]; exact rfl).trans ((show pF T65 72 q53 = pF A3 72 q53 from by rw [hA4]; exact rfl).trans ((show pF A3 72 q53 = pF A2 72 q53 from by rw [hA3]; exact rfl).trans ((show pF A2 72 q53 = pF A1 72 q53 from by rw [hA2]; exact rfl).trans ((show pF A1 72 q53 = pF P64 72 q53 from by rw [hA1]; exact rfl).trans ((show pF P64 72 q53 = pF P62 72 q53 from by rw [hP64]; exact va_up_ne _ _ n_q53_q63).trans ((show pF P62 72 q53 = pF T60 72 q53 from by rw [hP62]; exact rfl).trans ((show pF T60 72 q53 = pF P61a 72 q53 from by rw [hQ61]; exact rfl).trans ((show pF P61a 72 q53 = pF P59 72 q53 from by rw [hQ61a]; exact uF_of (Or.inl (by decide))).trans ((show pF P59 72 q53 = pF P57 72 q53 from by rw [hP59]; exact va_up_ne _ _ n_q53_q58).trans ((show pF P57 72 q53 = pF T55 72 q53 from by rw [hP57]; exact rfl).trans ((show pF T55 72 q53 = pF P56a 72 q53 from by rw [hQ56]; exact rfl).trans ((show pF P56a 72 q53 = pF P54 72 q53 from by rw [hQ56a]; exact uF_of (Or.inl (by decide))).trans (show pF P54 72 q53 = 0 from by rw [hP54]; exact va_up_self _ _ _)))))))))))))), ((show pF P66 72 q58 = pF T65 72 q58 from by rw [hP66]; exact rfl).trans ((show pF T65 72 q58 = pF A3 72 q58 from by rw [hA4]; exact rfl).trans ((show pF A3 72 q58 = pF A2 72 q58 from by rw [hA3]; exact rfl).trans ((show pF A2 72 q58 = pF A1 72 q58 from by rw [hA2]; exact rfl).trans ((show pF A1 72 q58 = pF P64 72 q58 from by rw [hA1]; exact rfl).trans ((show pF P64 72 q58 = pF P62 72 q58 from by rw [hP64]; exact va_up_ne _ _ n_q58_q63).trans ((show pF P62 72 q58 = pF T60 72 q58 from by rw [hP62]; exact rfl).trans ((show pF T60 72 q58 = pF P61a 72 q58 from by rw [hQ61]; exact rfl).trans ((show pF P61a 72 q58 = pF P59 72 q58 from by rw [hQ61a]; exact uF_of (Or.inl (by decide))).trans (show pF P59 72 q58 = 0 from by rw [hP59]; exact va_up_self _ _ _)))))))))), ((show pF P66 42 q63 = pF T65 42 q63 from by rw [hP66]; exact rfl).trans ((show pF T65 42 q63 = pF A3 42 q63 from by rw [hA4]; exact rfl).trans ((show pF A3 42 q63 = pF A2 42 q63 from by rw [hA3]; exact rfl).trans ((show pF A2 42 q63 = pF A1 42 q63 from by rw [hA2]; exact rfl).trans ((show pF A1 42 q63 = pF P64 42 q63 from by rw [hA1]; exact rfl).trans (show pF P64 42 q63 = 0 from by rw [hP64]; exact va_up_self _ _ _)))))), ((show pF P66 56 h = pF T65 56 h from by rw [hP66]; exact rfl).trans ((show pF T65 56 h = pF A3 56 h from by rw [hA4]; exact rfl).trans ((show pF A3 56 h = pF A2 56 h from by rw [hA3]; exact rfl).trans ((show pF A2 56 h = pF A1 56 h from by rw [hA2]; exact rfl).trans ((show pF A1 56 h = pF P64 56 h from by rw [hA1]; exact rfl).trans ((show pF P64 56 h = pF P62 56 h from by rw [hP64]; exact va_up_ne _ _ n_h_q63).trans ((show pF P62 56 h = pF T60 56 h from by rw [hP62]; exact rfl).trans ((show pF T60 56 h = pF P61a 56 h from by rw [hQ61]; exact rfl).trans ((show pF P61a 56 h = pF P59 56 h from by rw [hQ61a]; exact uF_of (Or.inl (by decide))).trans ((show pF P59 56 h = pF P57 56 h from by rw [hP59]; exact va_up_ne _ _ n_h_q58).trans ((show pF P57 56 h = pF T55 56 h from by rw [hP57]; exact rfl).trans ((show pF T55 56 h = pF P56a 56 h from by rw [hQ56]; exact rfl).trans ((show pF P56a 56 h = pF P54 56 h from by rw [hQ56a]; exact uF_of (Or.inl (by decide))).trans ((show pF P54 56 h = pF P51 56 h from by rw [hP54]; exact va_up_ne _ _ n_h_q53).trans ((show pF P51 56 h = pF P49 56 h from by rw [hP51]; exact rfl).trans ((show pF P49 56 h = pF P46 56 h from by rw [hP49]; exact va_up_ne _ _ n_h_q48).trans ((show pF P46 56 h = pF P44 56 h from by rw [hP46]; exact rfl).trans ((show pF P44 56 h = pF P41 56 h from by rw [hP44]; exact va_up_ne _ _ n_h_q43).trans ((show pF P41 56 h = pF P40 56 h from by rw [hP41]; exact rfl).trans ((show pF P40 56 h = pF P37 56 h from by rw [hP40]; exact rfl).trans ((show pF P37 56 h = pF P35 56 h from by rw [hP37]; exact rfl).trans ((show pF P35 56 h = pF P33 56 h from by rw [hP35]; exact rfl).trans ((show pF P33 56 h = pF P31 56 h from by rw [hP33]; exact rfl).trans ((show pF P31 56 h = pF P30 56 h from by rw [hP31]; exact rfl).trans ((show pF P30 56 h = pF P27 56 h from by rw [hP30]; exact rfl).trans ((show pF P27 56 h = pF T25 56 h from by rw [hP27]; exact rfl).trans ((show pF T25 56 h = pF P24 56 h from by rw [hQ26]; exact uF_of (Or.inl (by decide))).trans ((show pF P24 56 h = pF P21 56 h from by rw [hP24]; exact va_up_ne _ _ n_h_q23).trans ((show pF P21 56 h = pF T19 56 h from by rw [hP21]; exact rfl).trans ((show pF T19 56 h = pF P18 56 h from by rw [hQ20]; exact uF_of (Or.inl (by decide))).trans ((show pF P18 56 h = pF P15 56 h from by rw [hP18]; exact va_up_ne _ _ n_h_q17).trans ((show pF P15 56 h = pF T13 56 h from by rw [hP15]; exact rfl).trans ((show pF T13 56 h = pF P12 56 h from by rw [hQ14]; exact uF_of (Or.inl (by decide))).trans ((show pF P12 56 h = pF P9 56 h from by rw [hP12]; exact va_up_ne _ _ n_h_q11).trans ((show pF P9 56 h = pF T7 56 h from by rw [hP9]; exact rfl).trans ((show pF T7 56 h = pF P6 56 h from by rw [hQ8]; exact uF_of (Or.inl (by decide))).trans ((show pF P6 56 h = pF P3 56 h from by rw [hP6]; exact va_up_ne _ _ n_h_q5).trans ((show pF P3 56 h = pF P2 56 h from by rw [hP3]; exact rfl).trans ((show pF P2 56 h = pF S 56 h from by rw [hP2]; exact rfl).trans h56))))))))))))))))))))))))))))))))))))))), ((show pF P66 57 h = pF T65 57 h from by rw [hP66]; exact rfl).trans ((show pF T65 57 h = pF A3 57 h from by rw [hA4]; exact rfl).trans ((show pF A3 57 h = pF A2 57 h from by rw [hA3]; exact rfl).trans ((show pF A2 57 h = pF A1 57 h from by rw [hA2]; exact rfl).trans ((show pF A1 57 h = pF P64 57 h from by rw [hA1]; exact rfl).trans ((show pF P64 57 h = pF P62 57 h from by rw [hP64]; exact va_up_ne _ _ n_h_q63).trans ((show pF P62 57 h = pF T60 57 h from by rw [hP62]; exact rfl).trans ((show pF T60 57 h = pF P61a 57 h from by rw [hQ61]; exact rfl).trans ((show pF P61a 57 h = pF P59 57 h from by rw [hQ61a]; exact uF_of (Or.inl (by decide))).trans ((show pF P59 57 h = pF P57 57 h from by rw [hP59]; exact va_up_ne _ _ n_h_q58).trans ((show pF P57 57 h = pF T55 57 h from by rw [hP57]; exact rfl).trans ((show pF T55 57 h = pF P56a 57 h from by rw [hQ56]; exact rfl).trans ((show pF P56a 57 h = pF P54 57 h from by rw [hQ56a]; exact uF_of (Or.inl (by decide))).trans ((show pF P54 57 h = pF P51 57 h from by rw [hP54]; exact va_up_ne _ _ n_h_q53).trans ((show pF P51 57 h = pF P49 57 h from by rw [hP51]; exact rfl).trans ((show pF P49 57 h = pF P46 57 h from by rw [hP49]; exact va_up_ne _ _ n_h_q48).trans ((show pF P46 57 h = pF P44 57 h from by rw [hP46]; exact rfl).trans ((show pF P44 57 h = pF P41 57 h from by rw [hP44]; exact va_up_ne _ _ n_h_q43).trans ((show pF P41 57 h = pF P40 57 h from by rw [hP41]; exact rfl).trans ((show pF P40 57 h = pF P37 57 h from by rw [hP40]; exact rfl).trans ((show pF P37 57 h = pF P35 57 h from by rw [hP37]; exact rfl).trans ((show pF P35 57 h = pF P33 57 h from by rw [hP35]; exact rfl).trans ((show pF P33 57 h = pF P31 57 h from by rw [hP33]; exact rfl).trans ((show pF P31 57 h = pF P30 57 h from by rw [hP31]; exact rfl).trans ((show pF P30 57 h = pF P27 57 h from by rw [hP30]; exact rfl).trans ((show pF P27 57 h = pF T25 57 h from by rw [hP27]; exact rfl).trans ((show pF T25 57 h = pF P24 57 h from by rw [hQ26]; exact uF_of (Or.inl (by decide))).trans ((show pF P24 57 h = pF P21 57 h from by rw [hP24]; exact va_up_ne _ _ n_h_q23).trans ((show pF P21 57 h = pF T19 57 h from by rw [hP21]; exact rfl).trans ((show pF T19 57 h = pF P18 57 h from by rw [hQ20]; exact uF_of (Or.inl (by decide))).trans ((show pF P18 57 h = pF P15 57 h from by rw [hP18]; exact va_up_ne _ _ n_h_q17).trans ((show pF P15 57 h = pF T13 57 h from by rw [hP15]; exact rfl).trans ((show pF T13 57 h = pF P12 57 h from by rw [hQ14]; exact uF_of (Or.inl (by decide))).trans ((show pF P12 57 h = pF P9 57 h from by rw [hP12]; exact va_up_ne _ _ n_h_q11).trans ((show pF P9 57 h = pF T7 57 h from by rw [hP9]; exact rfl).trans ((show pF T7 57 h = pF P6 57 h from by rw [hQ8]; exact uF_of (Or.inl (by decide))).trans ((show pF P6 57 h = pF P3 57 h from by rw [hP6]; exact va_up_ne _ _ n_h_q5).trans ((show pF P3 57 h = pF P2 57 h from by rw [hP3]; exact rfl).trans ((show pF P2 57 h = pF S 57 h from by rw [hP2]; exact rfl).trans h57))))))))))))))))))))))))))))))))))))))), ((show pF P66 58 h = pF T65 58 h from by rw [hP66]; exact rfl).trans ((show pF T65 58 h = pF A3 58 h from by rw [hA4]; exact rfl).trans ((show pF A3 58 h = pF A2 58 h from by rw [hA3]; exact rfl).trans ((show pF A2 58 h = pF A1 58 h from by rw [hA2]; exact rfl).trans ((show pF A1 58 h = pF P64 58 h from by rw [hA1]; exact rfl).trans ((show pF P64 58 h = pF P62 58 h from by rw [hP64]; exact va_up_ne _ _ n_h_q63).trans ((show pF P62 58 h = pF T60 58 h from by rw [hP62]; exact rfl).trans ((show pF T60 58 h = pF P61a 58 h from by rw [hQ61]; exact rfl).trans ((show pF P61a 58 h = pF P59 58 h from by rw [hQ61a]; exact uF_of (Or.inl (by decide))).trans ((show pF P59 58 h = pF P57 58 h from by rw [hP59]; exact va_up_ne _ _ n_h_q58).trans ((show pF P57 58 h = pF T55 58 h from by rw [hP57]; exact rfl).trans ((show pF T55 58 h = pF P56a 58 h from by rw [hQ56]; exact rfl).trans ((show pF P56a 58 h = pF P54 58 h from by rw [hQ56a]; exact uF_of (Or.inl (by decide))).trans ((show pF P54 58 h = pF P51 58 h from by rw [hP54]; exact va_up_ne _ _ n_h_q53).trans ((show pF P51 58 h = pF P49 58 h from by rw [hP51]; exact rfl).trans ((show pF P49 58 h = pF P46 58 h from by rw [hP49]; exact va_up_ne _ _ n_h_q48).trans ((show pF P46 58 h = pF P44 58 h from by rw [hP46]; exact rfl).trans ((show pF P44 58 h = pF P41 58 h from by rw [hP44]; exact va_up_ne _ _ n_h_q43).trans ((show pF P41 58 h = pF P40 58 h from by rw [hP41]; exact rfl).trans ((show pF P40 58 h = pF P37 58 h from by rw [hP40]; exact rfl).trans ((show pF P37 58 h = pF P35 58 h from by rw [hP37]; exact rfl).trans ((show pF P35 58 h = pF P33 58 h from by rw [hP35]; exact rfl).trans ((show pF P33 58 h = pF P31 58 h from by rw [hP33]; exact rfl).trans ((show pF P31 58 h = pF P30 58 h from by rw [hP31]; exact rfl).trans ((show pF P30 58 h = pF P27 58 h from by rw [hP30]; exact rfl).trans ((show pF P27 58 h = pF T25 58 h from by rw [hP27]; exact rfl).trans ((show pF T25 58 h = pF P24 58 h from by rw [hQ26]; exact uF_of (Or.inl (by decide))).trans ((show pF P24 58 h = pF P21 58 h from by rw [hP24]; exact va_up_ne _ _ n_h_q23).trans ((show pF P21 58 h = pF T19 58 h from by rw [hP21]; exact rfl).trans ((show pF T19 58 h = pF P18 58 h from by rw [hQ20]; exact uF_of (Or.inl (by decide))).trans ((show pF P18 58 h = pF P15 58 h from by rw [hP18]; exact va_up_ne _ _ n_h_q17).trans ((show pF P15 58 h = pF T13 58 h from by rw [hP15]; exact rfl).trans ((show pF T13 58 h = pF P12 58 h from by rw [hQ14]; exact uF_of (Or.inl (by decide))).trans ((show pF P12 58 h = pF P9 58 h from by rw [hP12]; exact va_up_ne _ _ n_h_q11).trans ((show pF P9 58 h = pF T7 58 h from by rw [hP9]; exact rfl).trans ((show pF T7 58 h = pF P6 58 h from by rw [hQ8]; exact uF_of (Or.inl (by decide))).trans ((show pF P6 58 h = pF P3 58 h from by rw [hP6]; exact va_up_ne _ _ n_h_q5).trans ((show pF P3 58 h = pF P2 58 h from by rw [hP3]; exact rfl).trans ((show pF P2 58 h = pF S 58 h from by rw [hP2]; exact rfl).trans h58))))))))))))))))))))))))))))))))))))))), ((show pJ P66 h = pJ T65 h from by rw [hP66]; exact rfl).trans ((show pJ T65 h = pJ A3 h from by rw [hA4]; exact rfl).trans ((show pJ A3 h = pJ A2 h from by rw [hA3]; exact rfl).trans ((show pJ A2 h = pJ A1 h from by rw [hA2]; exact rfl).trans ((show pJ A1 h = pJ P64 h from by rw [hA1]; exact rfl).trans ((show pJ P64 h = pJ P62 h from by rw [hP64]; exact va_up_ne _ _ n_h_q63).trans ((show pJ P62 h = pJ T60 h from by rw [hP62]; exact rfl).trans ((show pJ T60 h = pJ P61a h from by rw [hQ61]; exact rfl).trans ((show pJ P61a h = pJ P59 h from by rw [hQ61a]; exact rfl).trans ((show pJ P59 h = pJ P57 h from by rw [hP59]; exact va_up_ne _ _ n_h_q58).trans ((show pJ P57 h = pJ T55 h from by rw [hP57]; exact rfl).trans ((show pJ T55 h = pJ P56a h from by rw [hQ56]; exact rfl).trans ((show pJ P56a h = pJ P54 h from by rw [hQ56a]; exact rfl).trans ((show pJ P54 h = pJ P51 h from by rw [hP54]; exact va_up_ne _ _ n_h_q53).trans ((show pJ P51 h = pJ P49 h from by rw [hP51]; exact rfl).trans ((show pJ P49 h = pJ P46 h from by rw [hP49]; exact va_up_ne _ _ n_h_q48).trans ((show pJ P46 h = pJ P44 h from by rw [hP46]; exact rfl).trans ((show pJ P44 h = pJ P41 h from by rw [hP44]; exact va_up_ne _ _ n_h_q43).trans ((show pJ P41 h = pJ P40 h from by rw [hP41]; exact rfl).trans ((show pJ P40 h = pJ P37 h from by rw [hP40]; exact rfl).trans ((show pJ P37 h = pJ P35 h from by rw [hP37]; exact rfl).trans ((show pJ P35 h = pJ P33 h from by rw [hP35]; exact rfl).trans ((show pJ P33 h = pJ P31 h from by rw [hP33]; exact rfl).trans ((show pJ P31 h = pJ P30 h from by rw [hP31]; exact rfl).trans ((show pJ P30 h = pJ P27 h from by rw [hP30]; exact rfl).trans ((show pJ P27 h = pJ T25 h from by rw [hP27]; exact rfl).trans ((show pJ T25 h = pJ P24 h from by rw [hQ26]; exact rfl).trans ((show pJ P24 h = pJ P21 h from by rw [hP24]; exact va_up_ne _ _ n_h_q23).trans ((show pJ P21 h = pJ T19 h from by rw [hP21]; exact rfl).trans ((show pJ T19 h = pJ P18 h from by rw [hQ20]; exact rfl).trans ((show pJ P18 h = pJ P15 h from by rw [hP18]; exact va_up_ne _ _ n_h_q17).trans ((show pJ P15 h = pJ T13 h from by rw [hP15]; exact rfl).trans ((show pJ T13 h = pJ P12 h from by rw [hQ14]; exact rfl).trans ((show pJ P12 h = pJ P9 h from by rw [hP12]; exact va_up_ne _ _ n_h_q11).trans ((show pJ P9 h = pJ T7 h from by rw [hP9]; exact rfl).trans ((show pJ T7 h = pJ P6 h from by rw [hQ8]; exact rfl).trans ((show pJ P6 h = pJ P3 h from by rw [hP6]; exact va_up_ne _ _ n_h_q5).trans ((show pJ P3 h = pJ P2 h from by rw [hP3]; exact rfl).trans ((show pJ P2 h = pJ S h from by rw [hP2]; exact rfl).trans h59))))))))))))))))))))))))))))))))))))))), ?_, ?_, ?_⟩
                            ·
                              intro i hi
                              rcases (show i = 0 ∨ i = 1 ∨ i = 2 ∨ i = 3 by omega) with rfl | rfl | rfl | rfl
                              · rw [show z (2 + 0) = q5 from z_2]; exact ⟨((show pF P66 1 q5 = pF T65 1 q5 from by rw [hP66]; exact rfl).trans ((show pF T65 1 q5 = pF A3 1 q5 from by rw [hA4]; exact rfl).trans ((show pF A3 1 q5 = pF A2 1 q5 from by rw [hA3]; exact rfl).trans ((show pF A2 1 q5 = pF A1 1 q5 from by rw [hA2]; exact rfl).trans ((show pF A1 1 q5 = pF P64 1 q5 from by rw [hA1]; exact rfl).trans ((show pF P64 1 q5 = pF P62 1 q5 from by rw [hP64]; exact va_up_ne _ _ n_q5_q63).trans ((show pF P62 1 q5 = pF T60 1 q5 from by rw [hP62]; exact rfl).trans ((show pF T60 1 q5 = pF P61a 1 q5 from by rw [hQ61]; exact rfl).trans ((show pF P61a 1 q5 = pF P59 1 q5 from by rw [hQ61a]; exact uF_of (Or.inl (by decide))).trans ((show pF P59 1 q5 = pF P57 1 q5 from by rw [hP59]; exact va_up_ne _ _ n_q5_q58).trans ((show pF P57 1 q5 = pF T55 1 q5 from by rw [hP57]; exact rfl).trans ((show pF T55 1 q5 = pF P56a 1 q5 from by rw [hQ56]; exact rfl).trans ((show pF P56a 1 q5 = pF P54 1 q5 from by rw [hQ56a]; exact uF_of (Or.inl (by decide))).trans ((show pF P54 1 q5 = pF P51 1 q5 from by rw [hP54]; exact va_up_ne _ _ n_q5_q53).trans ((show pF P51 1 q5 = pF P49 1 q5 from by rw [hP51]; exact rfl).trans ((show pF P49 1 q5 = pF P46 1 q5 from by rw [hP49]; exact va_up_ne _ _ n_q5_q48).trans ((show pF P46 1 q5 = pF P44 1 q5 from by rw [hP46]; exact rfl).trans ((show pF P44 1 q5 = pF P41 1 q5 from by rw [hP44]; exact va_up_ne _ _ n_q5_q43).trans ((show pF P41 1 q5 = pF P40 1 q5 from by rw [hP41]; exact rfl).trans ((show pF P40 1 q5 = pF P37 1 q5 from by rw [hP40]; exact rfl).trans ((show pF P37 1 q5 = pF P35 1 q5 from by rw [hP37]; exact rfl).trans ((show pF P35 1 q5 = pF P33 1 q5 from by rw [hP35]; exact rfl).trans ((show pF P33 1 q5 = pF P31 1 q5 from by rw [hP33]; exact rfl).trans ((show pF P31 1 q5 = pF P30 1 q5 from by rw [hP31]; exact rfl).trans ((show pF P30 1 q5 = pF P27 1 q5 from by rw [hP30]; exact rfl).trans ((show pF P27 1 q5 = pF T25 1 q5 from by rw [hP27]; exact rfl).trans ((show pF T25 1 q5 = pF P24 1 q5 from by rw [hQ26]; exact uF_of (Or.inl (by decide))).trans ((show pF P24 1 q5 = pF P21 1 q5 from by rw [hP24]; exact va_up_ne _ _ n_q5_q23).trans ((show pF P21 1 q5 = pF T19 1 q5 from by rw [hP21]; exact rfl).trans ((show pF T19 1 q5 = pF P18 1 q5 from by rw [hQ20]; exact uF_of (Or.inl (by decide))).trans ((show pF P18 1 q5 = pF P15 1 q5 from by rw [hP18]; exact va_up_ne _ _ n_q5_q17).trans ((show pF P15 1 q5 = pF T13 1 q5 from by rw [hP15]; exact rfl).trans ((show pF T13 1 q5 = pF P12 1 q5 from by rw [hQ14]; exact uF_of (Or.inl (by decide))).trans ((show pF P12 1 q5 = pF P9 1 q5 from by rw [hP12]; exact va_up_ne _ _ n_q5_q11).trans ((show pF P9 1 q5 = pF T7 1 q5 from by rw [hP9]; exact rfl).trans ((show pF T7 1 q5 = pF P6 1 q5 from by rw [hQ8]; exact uF_of (Or.inl (by decide))).trans (show pF P6 1 q5 = 0 from by rw [hP6]; exact va_up_self _ _ _))))))))))))))))))))))))))))))))))))), ((show pF P66 2 q5 = pF T65 2 q5 from by rw [hP66]; exact rfl).trans ((show pF T65 2 q5 = pF A3 2 q5 from by rw [hA4]; exact rfl).trans ((show pF A3 2 q5 = pF A2 2 q5 from by rw [hA3]; exact rfl).trans ((show pF A2 2 q5 = pF A1 2 q5 from by rw [hA2]; exact rfl).trans ((show pF A1 2 q5 = pF P64 2 q5 from by rw [hA1]; exact rfl).trans ((show pF P64 2 q5 = pF P62 2 q5 from by rw [hP64]; exact va_up_ne _ _ n_q5_q63).trans ((show pF P62 2 q5 = pF T60 2 q5 from by rw [hP62]; exact rfl).trans ((show pF T60 2 q5 = pF P61a 2 q5 from by rw [hQ61]; exact rfl).trans ((show pF P61a 2 q5 = pF P59 2 q5 from by rw [hQ61a]; exact uF_of (Or.inl (by decide))).trans ((show pF P59 2 q5 = pF P57 2 q5 from by rw [hP59]; exact va_up_ne _ _ n_q5_q58).trans ((show pF P57 2 q5 = pF T55 2 q5 from by rw [hP57]; exact rfl).trans ((show pF T55 2 q5 = pF P56a 2 q5 from by rw [hQ56]; exact rfl).trans ((show pF P56a 2 q5 = pF P54 2 q5 from by rw [hQ56a]; exact uF_of (Or.inl (by decide))).trans ((show pF P54 2 q5 = pF P51 2 q5 from by rw [hP54]; exact va_up_ne _ _ n_q5_q53).trans ((show pF P51 2 q5 = pF P49 2 q5 from by rw [hP51]; exact rfl).trans ((show pF P49 2 q5 = pF P46 2 q5 from by rw [hP49]; exact va_up_ne _ _ n_q5_q48).trans ((show pF P46 2 q5 = pF P44 2 q5 from by rw [hP46]; exact rfl).trans ((show pF P44 2 q5 = pF P41 2 q5 from by rw [hP44]; exact va_up_ne _ _ n_q5_q43).trans ((show pF P41 2 q5 = pF P40 2 q5 from by rw [hP41]; exact rfl).trans ((show pF P40 2 q5 = pF P37 2 q5 from by rw [hP40]; exact rfl).trans ((show pF P37 2 q5 = pF P35 2 q5 from by rw [hP37]; exact rfl).trans ((show pF P35 2 q5 = pF P33 2 q5 from by rw [hP35]; exact rfl).trans ((show pF P33 2 q5 = pF P31 2 q5 from by rw [hP33]; exact rfl).trans ((show pF P31 2 q5 = pF P30 2 q5 from by rw [hP31]; exact rfl).trans ((show pF P30 2 q5 = pF P27 2 q5 from by rw [hP30]; exact rfl).trans ((show pF P27 2 q5 = pF T25 2 q5 from by rw [hP27]; exact rfl).trans ((show pF T25 2 q5 = pF P24 2 q5 from by rw [hQ26]; exact uF_of (Or.inl (by decide))).trans ((show pF P24 2 q5 = pF P21 2 q5 from by rw [hP24]; exact va_up_ne _ _ n_q5_q23).trans ((show pF P21 2 q5 = pF T19 2 q5 from by rw [hP21]; exact rfl).trans ((show pF T19 2 q5 = pF P18 2 q5 from by rw [hQ20]; exact uF_of (Or.inl (by decide))).trans ((show pF P18 2 q5 = pF P15 2 q5 from by rw [hP18]; exact va_up_ne _ _ n_q5_q17).trans ((show pF P15 2 q5 = pF T13 2 q5 from by rw [hP15]; exact rfl).trans ((show pF T13 2 q5 = pF P12 2 q5 from by rw [hQ14]; exact uF_of (Or.inl (by decide))).trans ((show pF P12 2 q5 = pF P9 2 q5 from by rw [hP12]; exact va_up_ne _ _ n_q5_q11).trans ((show pF P9 2 q5 = pF T7 2 q5 from by rw [hP9]; exact rfl).trans ((show pF T7 2 q5 = pF P6 2 q5 from by rw [hQ8]; exact uF_of (Or.inl (by decide))).trans (show pF P6 2 q5 = 0 from by rw [hP6]; exact va_up_self _ _ _)))))))))))))))))))))))))))))))))))))⟩
                              · rw [show z (2 + 1) = q11 from z_3]; exact ⟨((show pF P66 1 q11 = pF T65 1 q11 from by rw [hP66]; exact rfl).trans ((show pF T65 1 q11 = pF A3 1 q11 from by rw [hA4]; exact rfl).trans ((show pF A3 1 q11 = pF A2 1 q11 from by rw [hA3]; exact rfl).trans ((show pF A2 1 q11 = pF A1 1 q11 from by rw [hA2]; exact rfl).trans ((show pF A1 1 q11 = pF P64 1 q11 from by rw [hA1]; exact rfl).trans ((show pF P64 1 q11 = pF P62 1 q11 from by rw [hP64]; exact va_up_ne _ _ n_q11_q63).trans ((show pF P62 1 q11 = pF T60 1 q11 from by rw [hP62]; exact rfl).trans ((show pF T60 1 q11 = pF P61a 1 q11 from by rw [hQ61]; exact rfl).trans ((show pF P61a 1 q11 = pF P59 1 q11 from by rw [hQ61a]; exact uF_of (Or.inl (by decide))).trans ((show pF P59 1 q11 = pF P57 1 q11 from by rw [hP59]; exact va_up_ne _ _ n_q11_q58).trans ((show pF P57 1 q11 = pF T55 1 q11 from by rw [hP57]; exact rfl).trans ((show pF T55 1 q11 = pF P56a 1 q11 from by rw [hQ56]; exact rfl).trans ((show pF P56a 1 q11 = pF P54 1 q11 from by rw [hQ56a]; exact uF_of (Or.inl (by decide))).trans ((show pF P54 1 q11 = pF P51 1 q11 from by rw [hP54]; exact va_up_ne _ _ n_q11_q53).trans ((show pF P51 1 q11 = pF P49 1 q11 from by rw [hP51]; exact rfl).trans ((show pF P49 1 q11 = pF P46 1 q11 from by rw [hP49]; exact va_up_ne _ _ n_q11_q48).trans ((show pF P46 1 q11 = pF P44 1 q11 from by rw [hP46]; exact rfl).trans ((show pF P44 1 q11 = pF P41 1 q11 from by rw [hP44]; exact va_up_ne _ _ n_q11_q43).trans ((show pF P41 1 q11 = pF P40 1 q11 from by rw [hP41]; exact rfl).trans ((show pF P40 1 q11 = pF P37 1 q11 from by rw [hP40]; exact rfl).trans ((show pF P37 1 q11 = pF P35 1 q11 from by rw [hP37]; exact rfl).trans ((show pF P35 1 q11 = pF P33 1 q11 from by rw [hP35]; exact rfl).trans ((show pF P33 1 q11 = pF P31 1 q11 from by rw [hP33]; exact rfl).trans ((show pF P31 1 q11 = pF P30 1 q11 from by rw [hP31]; exact rfl).trans ((show pF P30 1 q11 = pF P27 1 q11 from by rw [hP30]; exact rfl).trans ((show pF P27 1 q11 = pF T25 1 q11 from by rw [hP27]; exact rfl).trans ((show pF T25 1 q11 = pF P24 1 q11 from by rw [hQ26]; exact uF_of (Or.inl (by decide))).trans ((show pF P24 1 q11 = pF P21 1 q11 from by rw [hP24]; exact va_up_ne _ _ n_q11_q23).trans ((show pF P21 1 q11 = pF T19 1 q11 from by rw [hP21]; exact rfl).trans ((show pF T19 1 q11 = pF P18 1 q11 from by rw [hQ20]; exact uF_of (Or.inl (by decide))).trans ((show pF P18 1 q11 = pF P15 1 q11 from by rw [hP18]; exact va_up_ne _ _ n_q11_q17).trans ((show pF P15 1 q11 = pF T13 1 q11 from by rw [hP15]; exact rfl).trans ((show pF T13 1 q11 = pF P12 1 q11 from by rw [hQ14]; exact uF_of (Or.inl (by decide))).trans (show pF P12 1 q11 = 0 from by rw [hP12]; exact va_up_self _ _ _)))))))))))))))))))))))))))))))))), ((show pF P66 2 q11 = pF T65 2 q11 from by rw [hP66]; exact rfl).trans ((show pF T65 2 q11 = pF A3 2 q11 from by rw [hA4]; exact rfl).trans ((show pF A3 2 q11 = pF A2 2 q11 from by rw [hA3]; exact rfl).trans ((show pF A2 2 q11 = pF A1 2 q11 from by rw [hA2]; exact rfl).trans ((show pF A1 2 q11 = pF P64 2 q11 from by rw [hA1]; exact rfl).trans ((show pF P64 2 q11 = pF P62 2 q11 from by rw [hP64]; exact va_up_ne _ _ n_q11_q63).trans ((show pF P62 2 q11 = pF T60 2 q11 from by rw [hP62]; exact rfl).trans ((show pF T60 2 q11 = pF P61a 2 q11 from by rw [hQ61]; exact rfl).trans ((show pF P61a 2 q11 = pF P59 2 q11 from by rw [hQ61a]; exact uF_of (Or.inl (by decide))).trans ((show pF P59 2 q11 = pF P57 2 q11 from by rw [hP59]; exact va_up_ne _ _ n_q11_q58).trans ((show pF P57 2 q11 = pF T55 2 q11 from by rw [hP57]; exact rfl).trans ((show pF T55 2 q11 = pF P56a 2 q11 from by rw [hQ56]; exact rfl).trans ((show pF P56a 2 q11 = pF P54 2 q11 from by rw [hQ56a]; exact uF_of (Or.inl (by decide))).trans ((show pF P54 2 q11 = pF P51 2 q11 from by rw [hP54]; exact va_up_ne _ _ n_q11_q53).trans ((show pF P51 2 q11 = pF P49 2 q11 from by rw [hP51]; exact rfl).trans ((show pF P49 2 q11 = pF P46 2 q11 from by rw [hP49]; exact va_up_ne _ _ n_q11_q48).trans ((show pF P46 2 q11 = pF P44 2 q11 from by rw [hP46]; exact rfl).trans ((show pF P44 2 q11 = pF P41 2 q11 from by rw [hP44]; exact va_up_ne _ _ n_q11_q43).trans ((show pF P41 2 q11 = pF P40 2 q11 from by rw [hP41]; exact rfl).trans ((show pF P40 2 q11 = pF P37 2 q11 from by rw [hP40]; exact rfl).trans ((show pF P37 2 q11 = pF P35 2 q11 from by rw [hP37]; exact rfl).trans ((show pF P35 2 q11 = pF P33 2 q11 from by rw [hP35]; exact rfl).trans ((show pF P33 2 q11 = pF P31 2 q11 from by rw [hP33]; exact rfl).trans ((show pF P31 2 q11 = pF P30 2 q11 from by rw [hP31]; exact rfl).trans ((show pF P30 2 q11 = pF P27 2 q11 from by rw [hP30]; exact rfl).trans ((show pF P27 2 q11 = pF T25 2 q11 from by rw [hP27]; exact rfl).trans ((show pF T25 2 q11 = pF P24 2 q11 from by rw [hQ26]; exact uF_of (Or.inl (by decide))).trans ((show pF P24 2 q11 = pF P21 2 q11 from by rw [hP24]; exact va_up_ne _ _ n_q11_q23).trans ((show pF P21 2 q11 = pF T19 2 q11 from by rw [hP21]; exact rfl).trans ((show pF T19 2 q11 = pF P18 2 q11 from by rw [hQ20]; exact uF_of (Or.inl (by decide))).trans ((show pF P18 2 q11 = pF P15 2 q11 from by rw [hP18]; exact va_up_ne _ _ n_q11_q17).trans ((show pF P15 2 q11 = pF T13 2 q11 from by rw [hP15]; exact rfl).trans ((show pF T13 2 q11 = pF P12 2 q11 from by rw [hQ14]; exact uF_of (Or.inl (by decide))).trans (show pF P12 2 q11 = 0 from by rw [hP12]; exact va_up_self _ _ _))))))))))))))))))))))))))))))))))⟩
                              · rw [show z (2 + 2) = q17 from z_4]; exact ⟨((show pF P66 1 q17 = pF T65 1 q17 from by rw [hP66]; exact rfl).trans ((show pF T65 1 q17 = pF A3 1 q17 from by rw [hA4]; exact rfl).trans ((show pF A3 1 q17 = pF A2 1 q17 from by rw [hA3]; exact rfl).trans ((show pF A2 1 q17 = pF A1 1 q17 from by rw [hA2]; exact rfl).trans ((show pF A1 1 q17 = pF P64 1 q17 from by rw [hA1]; exact rfl).trans ((show pF P64 1 q17 = pF P62 1 q17 from by rw [hP64]; exact va_up_ne _ _ n_q17_q63).trans ((show pF P62 1 q17 = pF T60 1 q17 from by rw [hP62]; exact rfl).trans ((show pF T60 1 q17 = pF P61a 1 q17 from by rw [hQ61]; exact rfl).trans ((show pF P61a 1 q17 = pF P59 1 q17 from by rw [hQ61a]; exact uF_of (Or.inl (by decide))).trans ((show pF P59 1 q17 = pF P57 1 q17 from by rw [hP59]; exact va_up_ne _ _ n_q17_q58).trans ((show pF P57 1 q17 = pF T55 1 q17 from by rw [hP57]; exact rfl).trans ((show pF T55 1 q17 = pF P56a 1 q17 from by rw [hQ56]; exact rfl).trans ((show pF P56a 1 q17 = pF P54 1 q17 from by rw [hQ56a]; exact uF_of (Or.inl (by decide))).trans ((show pF P54 1 q17 = pF P51 1 q17 from by rw [hP54]; exact va_up_ne _ _ n_q17_q53).trans ((show pF P51 1 q17 = pF P49 1 q17 from by rw [hP51]; exact rfl).trans ((show pF P49 1 q17 = pF P46 1 q17 from by rw [hP49]; exact va_up_ne _ _ n_q17_q48).trans ((show pF P46 1 q17 = pF P44 1 q17 from by rw [hP46]; exact rfl).trans ((show pF P44 1 q17 = pF P41 1 q17 from by rw [hP44]; exact va_up_ne _ _ n_q17_q43).trans ((show pF P41 1 q17 = pF P40 1 q17 from by rw [hP41]; exact rfl).trans ((show pF P40 1 q17 = pF P37 1 q17 from by rw [hP40]; exact rfl).trans ((show pF P37 1 q17 = pF P35 1 q17 from by rw [hP37]; exact rfl).trans ((show pF P35 1 q17 = pF P33 1 q17 from by rw [hP35]; exact rfl).trans ((show pF P33 1 q17 = pF P31 1 q17 from by rw [hP33]; exact rfl).trans ((show pF P31 1 q17 = pF P30 1 q17 from by rw [hP31]; exact rfl).trans ((show pF P30 1 q17 = pF P27 1 q17 from by rw [hP30]; exact rfl).trans ((show pF P27 1 q17 = pF T25 1 q17 from by rw [hP27]; exact rfl).trans ((show pF T25 1 q17 = pF P24 1 q17 from by rw [hQ26]; exact uF_of (Or.inl (by decide))).trans ((show pF P24 1 q17 = pF P21 1 q17 from by rw [hP24]; exact va_up_ne _ _ n_q17_q23).trans ((show pF P21 1 q17 = pF T19 1 q17 from by rw [hP21]; exact rfl).trans ((show pF T19 1 q17 = pF P18 1 q17 from by rw [hQ20]; exact uF_of (Or.inl (by decide))).trans (show pF P18 1 q17 = 0 from by rw [hP18]; exact va_up_self _ _ _))))))))))))))))))))))))))))))), ((show pF P66 2 q17 = pF T65 2 q17 from by rw [hP66]; exact rfl).trans ((show pF T65 2 q17 = pF A3 2 q17 from by rw [hA4]; exact rfl).trans ((show pF A3 2 q17 = pF A2 2 q17 from by rw [hA3]; exact rfl).trans ((show pF A2 2 q17 = pF A1 2 q17 from by rw [hA2]; exact rfl).trans ((show pF A1 2 q17 = pF P64 2 q17 from by rw [hA1]; exact rfl).trans ((show pF P64 2 q17 = pF P62 2 q17 from by rw [hP64]; exact va_up_ne _ _ n_q17_q63).trans ((show pF P62 2 q17 = pF T60 2 q17 from by rw [hP62]; exact rfl).trans ((show pF T60 2 q17 = pF P61a 2 q17 from by rw [hQ61]; exact rfl).trans ((show pF P61a 2 q17 = pF P59 2 q17 from by rw [hQ61a]; exact uF_of (Or.inl (by decide))).trans ((show pF P59 2 q17 = pF P57 2 q17 from by rw [hP59]; exact va_up_ne _ _ n_q17_q58).trans ((show pF P57 2 q17 = pF T55 2 q17 from by rw [hP57]; exact rfl).trans ((show pF T55 2 q17 = pF P56a 2 q17 from by rw [hQ56]; exact rfl).trans ((show pF P56a 2 q17 = pF P54 2 q17 from by rw [hQ56a]; exact uF_of (Or.inl (by decide))).trans ((show pF P54 2 q17 = pF P51 2 q17 from by rw [hP54]; exact va_up_ne _ _ n_q17_q53).trans ((show pF P51 2 q17 = pF P49 2 q17 from by rw [hP51]; exact rfl).trans ((show pF P49 2 q17 = pF P46 2 q17 from by rw [hP49]; exact va_up_ne _ _ n_q17_q48).trans ((show pF P46 2 q17 = pF P44 2 q17 from by rw [hP46]; exact rfl).trans ((show pF P44 2 q17 = pF P41 2 q17 from by rw [hP44]; exact va_up_ne _ _ n_q17_q43).trans ((show pF P41 2 q17 = pF P40 2 q17 from by rw [hP41]; exact rfl).trans ((show pF P40 2 q17 = pF P37 2 q17 from by rw [hP40]; exact rfl).trans ((show pF P37 2 q17 = pF P35 2 q17 from by rw [hP37]; exact rfl).trans ((show pF P35 2 q17 = pF P33 2 q17 from by rw [hP35]; exact rfl).trans ((show pF P33 2 q17 = pF P31 2 q17 from by rw [hP33]; exact rfl).trans ((show pF P31 2 q17 = pF P30 2 q17 from by rw [hP31]; exact rfl).trans ((show pF P30 2 q17 = pF P27 2 q17 from by rw [hP30]; exact rfl).trans ((show pF P27 2 q17 = pF T25 2 q17 from by rw [hP27]; exact rfl).trans ((show pF T25 2 q17 = pF P24 2 q17 from by rw [hQ26]; exact uF_of (Or.inl (by decide))).trans ((show pF P24 2 q17 = pF P21 2 q17 from by rw [hP24]; exact va_up_ne _ _ n_q17_q23).trans ((show pF P21 2 q17 = pF T19 2 q17 from by rw [hP21]; exact rfl).trans ((show pF T19 2 q17 = pF P18 2 q17 from by rw [hQ20]; exact uF_of (Or.inl (by decide))).trans (show pF P18 2 q17 = 0 from by rw [hP18]; exact va_up_self _ _ _)))))))))))))))))))))))))))))))⟩
                              · rw [show z (2 + 3) = q23 from z_5]; exact ⟨((show pF P66 1 q23 = pF T65 1 q23 from by rw [hP66]; exact rfl).trans ((show pF T65 1 q23 = pF A3 1 q23 from by rw [hA4]; exact rfl).trans ((show pF A3 1 q23 = pF A2 1 q23 from by rw [hA3]; exact rfl).trans ((show pF A2 1 q23 = pF A1 1 q23 from by rw [hA2]; exact rfl).trans ((show pF A1 1 q23 = pF P64 1 q23 from by rw [hA1]; exact rfl).trans ((show pF P64 1 q23 = pF P62 1 q23 from by rw [hP64]; exact va_up_ne _ _ n_q23_q63).trans ((show pF P62 1 q23 = pF T60 1 q23 from by rw [hP62]; exact rfl).trans ((show pF T60 1 q23 = pF P61a 1 q23 from by rw [hQ61]; exact rfl).trans ((show pF P61a 1 q23 = pF P59 1 q23 from by rw [hQ61a]; exact uF_of (Or.inl (by decide))).trans ((show pF P59 1 q23 = pF P57 1 q23 from by rw [hP59]; exact va_up_ne _ _ n_q23_q58).trans ((show pF P57 1 q23 = pF T55 1 q23 from by rw [hP57]; exact rfl).trans ((show pF T55 1 q23 = pF P56a 1 q23 from by rw [hQ56]; exact rfl).trans ((show pF P56a 1 q23 = pF P54 1 q23 from by rw [hQ56a]; exact uF_of (Or.inl (by decide))).trans ((show pF P54 1 q23 = pF P51 1 q23 from by rw [hP54]; exact va_up_ne _ _ n_q23_q53).trans ((show pF P51 1 q23 = pF P49 1 q23 from by rw [hP51]; exact rfl).trans ((show pF P49 1 q23 = pF P46 1 q23 from by rw [hP49]; exact va_up_ne _ _ n_q23_q48).trans ((show pF P46 1 q23 = pF P44 1 q23 from by rw [hP46]; exact rfl).trans ((show pF P44 1 q23 = pF P41 1 q23 from by rw [hP44]; exact va_up_ne _ _ n_q23_q43).trans ((show pF P41 1 q23 = pF P40 1 q23 from by rw [hP41]; exact rfl).trans ((show pF P40 1 q23 = pF P37 1 q23 from by rw [hP40]; exact rfl).trans ((show pF P37 1 q23 = pF P35 1 q23 from by rw [hP37]; exact rfl).trans ((show pF P35 1 q23 = pF P33 1 q23 from by rw [hP35]; exact rfl).trans ((show pF P33 1 q23 = pF P31 1 q23 from by rw [hP33]; exact rfl).trans ((show pF P31 1 q23 = pF P30 1 q23 from by rw [hP31]; exact rfl).trans ((show pF P30 1 q23 = pF P27 1 q23 from by rw [hP30]; exact rfl).trans ((show pF P27 1 q23 = pF T25 1 q23 from by rw [hP27]; exact rfl).trans ((show pF T25 1 q23 = pF P24 1 q23 from by rw [hQ26]; exact uF_of (Or.inl (by decide))).trans (show pF P24 1 q23 = 0 from by rw [hP24]; exact va_up_self _ _ _)))))))))))))))))))))))))))), ((show pF P66 2 q23 = pF T65 2 q23 from by rw [hP66]; exact rfl).trans ((show pF T65 2 q23 = pF A3 2 q23 from by rw [hA4]; exact rfl).trans ((show pF A3 2 q23 = pF A2 2 q23 from by rw [hA3]; exact rfl).trans ((show pF A2 2 q23 = pF A1 2 q23 from by rw [hA2]; exact rfl).trans ((show pF A1 2 q23 = pF P64 2 q23 from by rw [hA1]; exact rfl).trans ((show pF P64 2 q23 = pF P62 2 q23 from by rw [hP64]; exact va_up_ne _ _ n_q23_q63).trans ((show pF P62 2 q23 = pF T60 2 q23 from by rw [hP62]; exact rfl).trans ((show pF T60 2 q23 = pF P61a 2 q23 from by rw [hQ61]; exact rfl).trans ((show pF P61a 2 q23 = pF P59 2 q23 from by rw [hQ61a]; exact uF_of (Or.inl (by decide))).trans ((show pF P59 2 q23 = pF P57 2 q23 from by rw [hP59]; exact va_up_ne _ _ n_q23_q58).trans ((show pF P57 2 q23 = pF T55 2 q23 from by rw [hP57]; exact rfl).trans ((show pF T55 2 q23 = pF P56a 2 q23 from by rw [hQ56]; exact rfl).trans ((show pF P56a 2 q23 = pF P54 2 q23 from by rw [hQ56a]; exact uF_of (Or.inl (by decide))).trans ((show pF P54 2 q23 = pF P51 2 q23 from by rw [hP54]; exact va_up_ne _ _ n_q23_q53).trans ((show pF P51 2 q23 = pF P49 2 q23 from by rw [hP51]; exact rfl).trans ((show pF P49 2 q23 = pF P46 2 q23 from by rw [hP49]; exact va_up_ne _ _ n_q23_q48).trans ((show pF P46 2 q23 = pF P44 2 q23 from by rw [hP46]; exact rfl).trans ((show pF P44 2 q23 = pF P41 2 q23 from by rw [hP44]; exact va_up_ne _ _ n_q23_q43).trans ((show pF P41 2 q23 = pF P40 2 q23 from by rw [hP41]; exact rfl).trans ((show pF P40 2 q23 = pF P37 2 q23 from by rw [hP40]; exact rfl).trans ((show pF P37 2 q23 = pF P35 2 q23 from by rw [hP37]; exact rfl).trans ((show pF P35 2 q23 = pF P33 2 q23 from by rw [hP35]; exact rfl).trans ((show pF P33 2 q23 = pF P31 2 q23 from by rw [hP33]; exact rfl).trans ((show pF P31 2 q23 = pF P30 2 q23 from by rw [hP31]; exact rfl).trans ((show pF P30 2 q23 = pF P27 2 q23 from by rw [hP30]; exact rfl).trans ((show pF P27 2 q23 = pF T25 2 q23 from by rw [hP27]; exact rfl).trans ((show pF T25 2 q23 = pF P24 2 q23 from by rw [hQ26]; exact uF_of (Or.inl (by decide))).trans (show pF P24 2 q23 = 0 from by rw [hP24]; exact va_up_self _ _ _))))))))))))))))))))))))))))⟩
                            ·
                              intro i hi
                              rcases (show i = 0 ∨ i = 1 ∨ i = 2 by omega) with rfl | rfl | rfl
                              · exact ((show pX P66 q29 0 = pX T65 q29 0 from by rw [hP66]; exact rfl).trans ((show pX T65 q29 0 = pX A3 q29 0 from by rw [hA4]; exact rfl).trans ((show pX A3 q29 0 = pX A2 q29 0 from by rw [hA3]; exact congrFun (va_up_ne _ _ n_q29_k2) 0).trans ((show pX A2 q29 0 = pX A1 q29 0 from by rw [hA2]; exact rfl).trans ((show pX A1 q29 0 = pX P64 q29 0 from by rw [hA1]; exact congrFun (va_up_ne _ _ n_q29_k1) 0).trans ((show pX P64 q29 0 = pX P62 q29 0 from by rw [hP64]; exact rfl).trans ((show pX P62 q29 0 = pX T60 q29 0 from by rw [hP62]; exact rfl).trans ((show pX T60 q29 0 = pX P61a q29 0 from by rw [hQ61]; exact rfl).trans ((show pX P61a q29 0 = pX P59 q29 0 from by rw [hQ61a]; exact rfl).trans ((show pX P59 q29 0 = pX P57 q29 0 from by rw [hP59]; exact rfl).trans ((show pX P57 q29 0 = pX T55 q29 0 from by rw [hP57]; exact rfl).trans ((show pX T55 q29 0 = pX P56a q29 0 from by rw [hQ56]; exact rfl).trans ((show pX P56a q29 0 = pX P54 q29 0 from by rw [hQ56a]; exact rfl).trans ((show pX P54 q29 0 = pX P51 q29 0 from by rw [hP54]; exact rfl).trans ((show pX P51 q29 0 = pX P49 q29 0 from by rw [hP51]; exact rfl).trans ((show pX P49 q29 0 = pX P46 q29 0 from by rw [hP49]; exact rfl).trans ((show pX P46 q29 0 = pX P44 q29 0 from by rw [hP46]; exact rfl).trans ((show pX P44 q29 0 = pX P41 q29 0 from by rw [hP44]; exact rfl).trans ((show pX P41 q29 0 = pX P40 q29 0 from by rw [hP41]; exact rfl).trans ((show pX P40 q29 0 = pX P37 q29 0 from by rw [hP40]; exact congrFun (va_up_ne _ _ n_q29_q39) 0).trans ((show pX P37 q29 0 = pX P35 q29 0 from by rw [hP37]; exact (congrFun (va_up_self _ _ _) 0).trans rfl).trans ((show pX P35 q29 0 = pX P33 q29 0 from by rw [hP35]; exact (congrFun (va_up_self _ _ _) 0).trans rfl).trans (show pX P33 q29 0 = 1439 from by rw [hP33]; exact (congrFun (va_up_self _ _ _) 0).trans rfl)))))))))))))))))))))))
                              · exact ((show pX P66 q29 1 = pX T65 q29 1 from by rw [hP66]; exact rfl).trans ((show pX T65 q29 1 = pX A3 q29 1 from by rw [hA4]; exact rfl).trans ((show pX A3 q29 1 = pX A2 q29 1 from by rw [hA3]; exact congrFun (va_up_ne _ _ n_q29_k2) 1).trans ((show pX A2 q29 1 = pX A1 q29 1 from by rw [hA2]; exact rfl).trans ((show pX A1 q29 1 = pX P64 q29 1 from by rw [hA1]; exact congrFun (va_up_ne _ _ n_q29_k1) 1).trans ((show pX P64 q29 1 = pX P62 q29 1 from by rw [hP64]; exact rfl).trans ((show pX P62 q29 1 = pX T60 q29 1 from by rw [hP62]; exact rfl).trans ((show pX T60 q29 1 = pX P61a q29 1 from by rw [hQ61]; exact rfl).trans ((show pX P61a q29 1 = pX P59 q29 1 from by rw [hQ61a]; exact rfl).trans ((show pX P59 q29 1 = pX P57 q29 1 from by rw [hP59]; exact rfl).trans ((show pX P57 q29 1 = pX T55 q29 1 from by rw [hP57]; exact rfl).trans ((show pX T55 q29 1 = pX P56a q29 1 from by rw [hQ56]; exact rfl).trans ((show pX P56a q29 1 = pX P54 q29 1 from by rw [hQ56a]; exact rfl).trans ((show pX P54 q29 1 = pX P51 q29 1 from by rw [hP54]; exact rfl).trans ((show pX P51 q29 1 = pX P49 q29 1 from by rw [hP51]; exact rfl).trans ((show pX P49 q29 1 = pX P46 q29 1 from by rw [hP49]; exact rfl).trans ((show pX P46 q29 1 = pX P44 q29 1 from by rw [hP46]; exact rfl).trans ((show pX P44 q29 1 = pX P41 q29 1 from by rw [hP44]; exact rfl).trans ((show pX P41 q29 1 = pX P40 q29 1 from by rw [hP41]; exact rfl).trans ((show pX P40 q29 1 = pX P37 q29 1 from by rw [hP40]; exact congrFun (va_up_ne _ _ n_q29_q39) 1).trans ((show pX P37 q29 1 = pX P35 q29 1 from by rw [hP37]; exact (congrFun (va_up_self _ _ _) 1).trans rfl).trans (show pX P35 q29 1 = 1439 from by rw [hP35]; exact (congrFun (va_up_self _ _ _) 1).trans rfl))))))))))))))))))))))
                              · exact ((show pX P66 q29 2 = pX T65 q29 2 from by rw [hP66]; exact rfl).trans ((show pX T65 q29 2 = pX A3 q29 2 from by rw [hA4]; exact rfl).trans ((show pX A3 q29 2 = pX A2 q29 2 from by rw [hA3]; exact congrFun (va_up_ne _ _ n_q29_k2) 2).trans ((show pX A2 q29 2 = pX A1 q29 2 from by rw [hA2]; exact rfl).trans ((show pX A1 q29 2 = pX P64 q29 2 from by rw [hA1]; exact congrFun (va_up_ne _ _ n_q29_k1) 2).trans ((show pX P64 q29 2 = pX P62 q29 2 from by rw [hP64]; exact rfl).trans ((show pX P62 q29 2 = pX T60 q29 2 from by rw [hP62]; exact rfl).trans ((show pX T60 q29 2 = pX P61a q29 2 from by rw [hQ61]; exact rfl).trans ((show pX P61a q29 2 = pX P59 q29 2 from by rw [hQ61a]; exact rfl).trans ((show pX P59 q29 2 = pX P57 q29 2 from by rw [hP59]; exact rfl).trans ((show pX P57 q29 2 = pX T55 q29 2 from by rw [hP57]; exact rfl).trans ((show pX T55 q29 2 = pX P56a q29 2 from by rw [hQ56]; exact rfl).trans ((show pX P56a q29 2 = pX P54 q29 2 from by rw [hQ56a]; exact rfl).trans ((show pX P54 q29 2 = pX P51 q29 2 from by rw [hP54]; exact rfl).trans ((show pX P51 q29 2 = pX P49 q29 2 from by rw [hP51]; exact rfl).trans ((show pX P49 q29 2 = pX P46 q29 2 from by rw [hP49]; exact rfl).trans ((show pX P46 q29 2 = pX P44 q29 2 from by rw [hP46]; exact rfl).trans ((show pX P44 q29 2 = pX P41 q29 2 from by rw [hP44]; exact rfl).trans ((show pX P41 q29 2 = pX P40 q29 2 from by rw [hP41]; exact rfl).trans ((show pX P40 q29 2 = pX P37 q29 2 from by rw [hP40]; exact congrFun (va_up_ne _ _ n_q29_q39) 2).trans (show pX P37 q29 2 = 1439 from by rw [hP37]; exact (congrFun (va_up_self _ _ _) 2).trans rfl)))))))))))))))))))))
                            ·
                              intro i hi
                              rcases (show i = 0 ∨ i = 1 by omega) with rfl | rfl
                              · refine ⟨hrb 0 (by decide), ?_⟩; rw [show z (8 + 0) = q43 from z_8]; exact ⟨((show pF P66 31 q43 = pF T65 31 q43 from by rw [hP66]; exact rfl).trans ((show pF T65 31 q43 = pF A3 31 q43 from by rw [hA4]; exact rfl).trans ((show pF A3 31 q43 = pF A2 31 q43 from by rw [hA3]; exact rfl).trans ((show pF A2 31 q43 = pF A1 31 q43 from by rw [hA2]; exact rfl).trans ((show pF A1 31 q43 = pF P64 31 q43 from by rw [hA1]; exact rfl).trans ((show pF P64 31 q43 = pF P62 31 q43 from by rw [hP64]; exact va_up_ne _ _ n_q43_q63).trans ((show pF P62 31 q43 = pF T60 31 q43 from by rw [hP62]; exact rfl).trans ((show pF T60 31 q43 = pF P61a 31 q43 from by rw [hQ61]; exact rfl).trans ((show pF P61a 31 q43 = pF P59 31 q43 from by rw [hQ61a]; exact uF_of (Or.inl (by decide))).trans ((show pF P59 31 q43 = pF P57 31 q43 from by rw [hP59]; exact va_up_ne _ _ n_q43_q58).trans ((show pF P57 31 q43 = pF T55 31 q43 from by rw [hP57]; exact rfl).trans ((show pF T55 31 q43 = pF P56a 31 q43 from by rw [hQ56]; exact rfl).trans ((show pF P56a 31 q43 = pF P54 31 q43 from by rw [hQ56a]; exact uF_of (Or.inl (by decide))).trans ((show pF P54 31 q43 = pF P51 31 q43 from by rw [hP54]; exact va_up_ne _ _ n_q43_q53).trans ((show pF P51 31 q43 = pF P49 31 q43 from by rw [hP51]; exact rfl).trans ((show pF P49 31 q43 = pF P46 31 q43 from by rw [hP49]; exact va_up_ne _ _ n_q43_q48).trans ((show pF P46 31 q43 = pF P44 31 q43 from by rw [hP46]; exact rfl).trans (show pF P44 31 q43 = 0 from by rw [hP44]; exact va_up_self _ _ _)))))))))))))))))), ((show pF P66 32 q43 = pF T65 32 q43 from by rw [hP66]; exact rfl).trans ((show pF T65 32 q43 = pF A3 32 q43 from by rw [hA4]; exact rfl).trans ((show pF A3 32 q43 = pF A2 32 q43 from by rw [hA3]; exact rfl).trans ((show pF A2 32 q43 = pF A1 32 q43 from by rw [hA2]; exact rfl).trans ((show pF A1 32 q43 = pF P64 32 q43 from by rw [hA1]; exact rfl).trans ((show pF P64 32 q43 = pF P62 32 q43 from by rw [hP64]; exact va_up_ne _ _ n_q43_q63).trans ((show pF P62 32 q43 = pF T60 32 q43 from by rw [hP62]; exact rfl).trans ((show pF T60 32 q43 = pF P61a 32 q43 from by rw [hQ61]; exact rfl).trans ((show pF P61a 32 q43 = pF P59 32 q43 from by rw [hQ61a]; exact uF_of (Or.inl (by decide))).trans ((show pF P59 32 q43 = pF P57 32 q43 from by rw [hP59]; exact va_up_ne _ _ n_q43_q58).trans ((show pF P57 32 q43 = pF T55 32 q43 from by rw [hP57]; exact rfl).trans ((show pF T55 32 q43 = pF P56a 32 q43 from by rw [hQ56]; exact rfl).trans ((show pF P56a 32 q43 = pF P54 32 q43 from by rw [hQ56a]; exact uF_of (Or.inl (by decide))).trans ((show pF P54 32 q43 = pF P51 32 q43 from by rw [hP54]; exact va_up_ne _ _ n_q43_q53).trans ((show pF P51 32 q43 = pF P49 32 q43 from by rw [hP51]; exact rfl).trans ((show pF P49 32 q43 = pF P46 32 q43 from by rw [hP49]; exact va_up_ne _ _ n_q43_q48).trans ((show pF P46 32 q43 = pF P44 32 q43 from by rw [hP46]; exact rfl).trans (show pF P44 32 q43 = 0 from by rw [hP44]; exact va_up_self _ _ _))))))))))))))))))⟩
                              · refine ⟨hrb 1 (by decide), ?_⟩; rw [show z (8 + 1) = q48 from z_9]; exact ⟨((show pF P66 31 q48 = pF T65 31 q48 from by rw [hP66]; exact rfl).trans ((show pF T65 31 q48 = pF A3 31 q48 from by rw [hA4]; exact rfl).trans ((show pF A3 31 q48 = pF A2 31 q48 from by rw [hA3]; exact rfl).trans ((show pF A2 31 q48 = pF A1 31 q48 from by rw [hA2]; exact rfl).trans ((show pF A1 31 q48 = pF P64 31 q48 from by rw [hA1]; exact rfl).trans ((show pF P64 31 q48 = pF P62 31 q48 from by rw [hP64]; exact va_up_ne _ _ n_q48_q63).trans ((show pF P62 31 q48 = pF T60 31 q48 from by rw [hP62]; exact rfl).trans ((show pF T60 31 q48 = pF P61a 31 q48 from by rw [hQ61]; exact rfl).trans ((show pF P61a 31 q48 = pF P59 31 q48 from by rw [hQ61a]; exact uF_of (Or.inl (by decide))).trans ((show pF P59 31 q48 = pF P57 31 q48 from by rw [hP59]; exact va_up_ne _ _ n_q48_q58).trans ((show pF P57 31 q48 = pF T55 31 q48 from by rw [hP57]; exact rfl).trans ((show pF T55 31 q48 = pF P56a 31 q48 from by rw [hQ56]; exact rfl).trans ((show pF P56a 31 q48 = pF P54 31 q48 from by rw [hQ56a]; exact uF_of (Or.inl (by decide))).trans ((show pF P54 31 q48 = pF P51 31 q48 from by rw [hP54]; exact va_up_ne _ _ n_q48_q53).trans ((show pF P51 31 q48 = pF P49 31 q48 from by rw [hP51]; exact rfl).trans (show pF P49 31 q48 = 0 from by rw [hP49]; exact va_up_self _ _ _)))))))))))))))), ((show pF P66 32 q48 = pF T65 32 q48 from by rw [hP66]; exact rfl).trans ((show pF T65 32 q48 = pF A3 32 q48 from by rw [hA4]; exact rfl).trans ((show pF A3 32 q48 = pF A2 32 q48 from by rw [hA3]; exact rfl).trans ((show pF A2 32 q48 = pF A1 32 q48 from by rw [hA2]; exact rfl).trans ((show pF A1 32 q48 = pF P64 32 q48 from by rw [hA1]; exact rfl).trans ((show pF P64 32 q48 = pF P62 32 q48 from by rw [hP64]; exact va_up_ne _ _ n_q48_q63).trans ((show pF P62 32 q48 = pF T60 32 q48 from by rw [hP62]; exact rfl).trans ((show pF T60 32 q48 = pF P61a 32 q48 from by rw [hQ61]; exact rfl).trans ((show pF P61a 32 q48 = pF P59 32 q48 from by rw [hQ61a]; exact uF_of (Or.inl (by decide))).trans ((show pF P59 32 q48 = pF P57 32 q48 from by rw [hP59]; exact va_up_ne _ _ n_q48_q58).trans ((show pF P57 32 q48 = pF T55 32 q48 from by rw [hP57]; exact rfl).trans ((show pF T55 32 q48 = pF P56a 32 q48 from by rw [hQ56]; exact rfl).trans ((show pF P56a 32 q48 = pF P54 32 q48 from by rw [hQ56a]; exact uF_of (Or.inl (by decide))).trans ((show pF P54 32 q48 = pF P51 32 q48 from by rw [hP54]; exact va_up_ne _ _ n_q48_q53).trans ((show pF P51 32 q48 = pF P49 32 q48 from by rw [hP51]; exact rfl).trans (show pF P49 32 q48 = 0 from by rw [hP49]; exact va_up_self _ _ _))))))))))))))))⟩
                          exact kEndC F hr hlk hP hD hS (Nat.le_of_ble_eq_true rfl) (Nat.le_of_ble_eq_true rfl) dX5_init_147 (⟨z, z_0, ⟨⟨hb, hi2⟩, hk2, hk3, hk4, hk5, hk6⟩, hfr⟩)
                        · exact absurd (by decide) c52
                  · exact absurd (by decide) c38
          · exact absurd (by decide) c28
