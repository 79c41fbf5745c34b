theorem kmiss {a f : Int32} (h1 : ¬ f < 0) (h2 : ¬ a < f) (h3 : a - f ≤ 0) : a - f = 0 := by
  rw [Int32.lt_iff_toInt_lt] at h1 h2
  rw [Int32.le_iff_toInt_le] at h3
  have b1 := Int32.toInt_lt a
  have b2 := Int32.le_toInt f
  have b3 := Int32.toInt_lt f
  have b4 := Int32.le_toInt a
  have e0 : (0 : Int32).toInt = 0 := by decide
  rw [e0] at h1 h3
  have e : (a - f).toInt = a.toInt - f.toInt := by
    rw [Int32.toInt_sub]
    exact Int.bmod_eq_of_le (by omega) (by omega)
  rw [e] at h3
  refine Int32.toInt_inj.mp ?_
  rw [e, e0]
  omega
theorem Mr.w103 {w : Nat → Nat} {S N : wPS} {v : Int32} (h : Mr w S N) : Mr w (setF S 103 (w 0) v) (setF N 103 (w 0) v) := by
  obtain ⟨k0, k1, k2, k3, k4, k5, k6⟩ := h
  exact ⟨k0.f (by decide), (uF_of (Or.inl (by decide))).trans (k1.trans (uF_of (Or.inl (by decide))).symm), uF_at.trans uF_at.symm, (uF_of (Or.inl (by decide))).trans (k3.trans (uF_of (Or.inl (by decide))).symm), k4, k5, k6⟩
theorem kne8 {T0 : wPS} {a i mo : Nat} {x xi : Int32} (hx : x = pX T0 a xi.toNatClampNeg) (hi : xi = nI i) (hlt : i < 2 ^ 31) (hc : x = 112) (hla : pX T0 a mo = 111) : i ≠ mo := by
  intro h9
  rw [hi, nI_clamp hlt, h9, hla, hc] at hx
  exact absurd hx (by decide)
/-- how many orders are open -/
def koc (f : Nat → Int32) : Nat := (List.range 12).countP (fun i => decide (f i = 111))
theorem koc_le (f : Nat → Int32) : koc f ≤ 12 := Nat.le_trans List.countP_le_length (by rw [List.length_range]; exact Nat.le_refl _)
theorem koc_dec0 (n : Nat) {f : Nat → Int32} {j : Nat} (h : f j = 111) : (j < n → (List.range n).countP (fun i => decide (upd f j 112 i = 111)) + 1 = (List.range n).countP (fun i => decide (f i = 111))) ∧ (n ≤ j → (List.range n).countP (fun i => decide (upd f j 112 i = 111)) = (List.range n).countP (fun i => decide (f i = 111))) := by
  induction n with
  | zero => exact ⟨fun h => absurd h (Nat.not_lt_zero _), fun _ => rfl⟩
  | succ n ih =>
    rw [List.range_succ, List.countP_append, List.countP_append]
    simp only [List.countP_cons, List.countP_nil]
    by_cases e : n = j
    · subst e
      have h1 : decide (upd f n 112 n = 111) = false := by unfold upd; rw [if_pos rfl]; decide
      have h2 : decide (f n = 111) = true := decide_eq_true h
      rw [h1, h2, ih.2 (Nat.le_refl _)]
      exact ⟨fun _ => by simp, fun h => absurd h (by omega)⟩
    · have h1 : upd f j 112 n = f n := by unfold upd; rw [if_neg e]
      rw [h1]
      exact ⟨fun hj => by have := ih.1 (by omega); omega, fun hj => by rw [ih.2 (by omega)]⟩
theorem koc_dec {f : Nat → Int32} {j : Nat} (h : f j = 111) (hj : j < 12) : koc (upd f j 112) + 1 = koc f := (koc_dec0 12 h).1 hj
theorem dX6_pick_0 : decode cX6_pick 0 = .ok (.aload_n 0, 1) := by decide +kernel
theorem dX6_pick_1 : decode cX6_pick 1 = .ok (.iload_n 1, 1) := by decide +kernel
theorem dX6_pick_2 : decode cX6_pick 2 = .ok (.invokevirtual 118, 3) := by decide +kernel
theorem dX6_pick_5 : decode cX6_pick 5 = .ok (.ifCond .ne 5, 3) := by decide +kernel
theorem dX6_pick_8 : decode cX6_pick 8 = .ok (.iconst 0, 1) := by decide +kernel
theorem dX6_pick_9 : decode cX6_pick 9 = .ok (.ireturn, 1) := by decide +kernel
theorem dX6_pick_10 : decode cX6_pick 10 = .ok (.iload_n 2, 1) := by decide +kernel
theorem dX6_pick_11 : decode cX6_pick 11 = .ok (.iconst 0, 1) := by decide +kernel
theorem dX6_pick_12 : decode cX6_pick 12 = .ok (.aload_n 0, 1) := by decide +kernel
theorem dX6_pick_13 : decode cX6_pick 13 = .ok (.getfield 25, 3) := by decide +kernel
theorem dX6_pick_16 : decode cX6_pick 16 = .ok (.iload_n 1, 1) := by decide +kernel
theorem dX6_pick_17 : decode cX6_pick 17 = .ok (.iaload, 1) := by decide +kernel
theorem dX6_pick_18 : decode cX6_pick 18 = .ok (.invokestatic 69, 3) := by decide +kernel
theorem dX6_pick_21 : decode cX6_pick 21 = .ok (.ifCond .ne 9, 3) := by decide +kernel
theorem dX6_pick_24 : decode cX6_pick 24 = .ok (.aload_n 0, 1) := by decide +kernel
theorem dX6_pick_25 : decode cX6_pick 25 = .ok (.iconst 2, 1) := by decide +kernel
theorem dX6_pick_26 : decode cX6_pick 26 = .ok (.invokevirtual 87, 3) := by decide +kernel
theorem dX6_pick_29 : decode cX6_pick 29 = .ok (.ireturn, 1) := by decide +kernel
theorem dX6_pick_30 : decode cX6_pick 30 = .ok (.aload_n 0, 1) := by decide +kernel
theorem dX6_pick_31 : decode cX6_pick 31 = .ok (.getfield 22, 3) := by decide +kernel
theorem dX6_pick_34 : decode cX6_pick 34 = .ok (.iload_n 1, 1) := by decide +kernel
theorem dX6_pick_35 : decode cX6_pick 35 = .ok (.iaload, 1) := by decide +kernel
theorem dX6_pick_36 : decode cX6_pick 36 = .ok (.istore_n 3, 1) := by decide +kernel
theorem dX6_pick_37 : decode cX6_pick 37 = .ok (.aload_n 0, 1) := by decide +kernel
theorem dX6_pick_38 : decode cX6_pick 38 = .ok (.getfield 37, 3) := by decide +kernel
theorem dX6_pick_41 : decode cX6_pick 41 = .ok (.aload_n 0, 1) := by decide +kernel
theorem dX6_pick_42 : decode cX6_pick 42 = .ok (.getfield 7, 3) := by decide +kernel
theorem dX6_pick_45 : decode cX6_pick 45 = .ok (.iload_n 3, 1) := by decide +kernel
theorem dX6_pick_46 : decode cX6_pick 46 = .ok (.iaload, 1) := by decide +kernel
theorem dX6_pick_47 : decode cX6_pick 47 = .ok (.baload, 1) := by decide +kernel
theorem dX6_pick_48 : decode cX6_pick 48 = .ok (.ifCond .eq 9, 3) := by decide +kernel
theorem dX6_pick_51 : decode cX6_pick 51 = .ok (.aload_n 0, 1) := by decide +kernel
theorem dX6_pick_52 : decode cX6_pick 52 = .ok (.iconst 3, 1) := by decide +kernel
theorem dX6_pick_53 : decode cX6_pick 53 = .ok (.invokevirtual 87, 3) := by decide +kernel
theorem dX6_pick_56 : decode cX6_pick 56 = .ok (.ireturn, 1) := by decide +kernel
theorem dX6_pick_57 : decode cX6_pick 57 = .ok (.aload_n 0, 1) := by decide +kernel
theorem dX6_pick_58 : decode cX6_pick 58 = .ok (.getfield 25, 3) := by decide +kernel
theorem dX6_pick_61 : decode cX6_pick 61 = .ok (.iload_n 1, 1) := by decide +kernel
theorem dX6_pick_62 : decode cX6_pick 62 = .ok (.iaload, 1) := by decide +kernel
theorem dX6_pick_63 : decode cX6_pick 63 = .ok (.iload_n 2, 1) := by decide +kernel
theorem dX6_pick_64 : decode cX6_pick 64 = .ok (.isub, 1) := by decide +kernel
theorem dX6_pick_65 : decode cX6_pick 65 = .ok (.istore 4, 2) := by decide +kernel
theorem dX6_pick_67 : decode cX6_pick 67 = .ok (.aload_n 0, 1) := by decide +kernel
theorem dX6_pick_68 : decode cX6_pick 68 = .ok (.getfield 31, 3) := by decide +kernel
theorem dX6_pick_71 : decode cX6_pick 71 = .ok (.iload_n 1, 1) := by decide +kernel
theorem dX6_pick_72 : decode cX6_pick 72 = .ok (.iaload, 1) := by decide +kernel
theorem dX6_pick_73 : decode cX6_pick 73 = .ok (.bipush 112, 2) := by decide +kernel
theorem dX6_pick_75 : decode cX6_pick 75 = .ok (.if_icmp .ne 17, 3) := by decide +kernel
theorem dX6_pick_78 : decode cX6_pick 78 = .ok (.iload 4, 2) := by decide +kernel
theorem dX6_pick_80 : decode cX6_pick 80 = .ok (.ifCond .le 18, 3) := by decide +kernel
theorem dX6_pick_83 : decode cX6_pick 83 = .ok (.aload_n 0, 1) := by decide +kernel
theorem dX6_pick_84 : decode cX6_pick 84 = .ok (.getfield 73, 3) := by decide +kernel
theorem dX6_pick_87 : decode cX6_pick 87 = .ok (.bipush 12, 2) := by decide +kernel
theorem dX6_pick_89 : decode cX6_pick 89 = .ok (.if_icmp .ne 9, 3) := by decide +kernel
theorem dX6_pick_92 : decode cX6_pick 92 = .ok (.aload_n 0, 1) := by decide +kernel
theorem dX6_pick_93 : decode cX6_pick 93 = .ok (.iconst 4, 1) := by decide +kernel
theorem dX6_pick_94 : decode cX6_pick 94 = .ok (.invokevirtual 87, 3) := by decide +kernel
theorem dX6_pick_97 : decode cX6_pick 97 = .ok (.ireturn, 1) := by decide +kernel
theorem dX6_pick_98 : decode cX6_pick 98 = .ok (.aload_n 0, 1) := by decide +kernel
theorem dX6_pick_99 : decode cX6_pick 99 = .ok (.getfield 31, 3) := by decide +kernel
theorem dX6_pick_102 : decode cX6_pick 102 = .ok (.iload_n 1, 1) := by decide +kernel
theorem dX6_pick_103 : decode cX6_pick 103 = .ok (.iload_n 2, 1) := by decide +kernel
theorem dX6_pick_104 : decode cX6_pick 104 = .ok (.ifCond .ne 8, 3) := by decide +kernel
theorem dX6_pick_107 : decode cX6_pick 107 = .ok (.bipush 100, 2) := by decide +kernel
theorem dX6_pick_109 : decode cX6_pick 109 = .ok (.goto 5, 3) := by decide +kernel
theorem dX6_pick_112 : decode cX6_pick 112 = .ok (.bipush 107, 2) := by decide +kernel
theorem dX6_pick_114 : decode cX6_pick 114 = .ok (.iastore, 1) := by decide +kernel
theorem dX6_pick_115 : decode cX6_pick 115 = .ok (.aload_n 0, 1) := by decide +kernel
theorem dX6_pick_116 : decode cX6_pick 116 = .ok (.iload_n 1, 1) := by decide +kernel
theorem dX6_pick_117 : decode cX6_pick 117 = .ok (.aload_n 0, 1) := by decide +kernel
theorem dX6_pick_118 : decode cX6_pick 118 = .ok (.getfield 31, 3) := by decide +kernel
theorem dX6_pick_121 : decode cX6_pick 121 = .ok (.iload_n 1, 1) := by decide +kernel
theorem dX6_pick_122 : decode cX6_pick 122 = .ok (.iaload, 1) := by decide +kernel
theorem dX6_pick_123 : decode cX6_pick 123 = .ok (.i2c, 1) := by decide +kernel
theorem dX6_pick_124 : decode cX6_pick 124 = .ok (.invokevirtual 83, 3) := by decide +kernel
theorem dX6_pick_127 : decode cX6_pick 127 = .ok (.iload 4, 2) := by decide +kernel
theorem dX6_pick_129 : decode cX6_pick 129 = .ok (.ifCond .ne 15, 3) := by decide +kernel
theorem dX6_pick_132 : decode cX6_pick 132 = .ok (.aload_n 0, 1) := by decide +kernel
theorem dX6_pick_133 : decode cX6_pick 133 = .ok (.getfield 13, 3) := by decide +kernel
theorem dX6_pick_136 : decode cX6_pick 136 = .ok (.iload_n 3, 1) := by decide +kernel
theorem dX6_pick_137 : decode cX6_pick 137 = .ok (.dup2, 1) := by decide +kernel
theorem dX6_pick_138 : decode cX6_pick 138 = .ok (.iaload, 1) := by decide +kernel
theorem dX6_pick_139 : decode cX6_pick 139 = .ok (.iload_n 2, 1) := by decide +kernel
theorem dX6_pick_140 : decode cX6_pick 140 = .ok (.isub, 1) := by decide +kernel
theorem dX6_pick_141 : decode cX6_pick 141 = .ok (.iastore, 1) := by decide +kernel
theorem dX6_pick_142 : decode cX6_pick 142 = .ok (.iconst (-1), 1) := by decide +kernel
theorem dX6_pick_143 : decode cX6_pick 143 = .ok (.ireturn, 1) := by decide +kernel
theorem dX6_pick_144 : decode cX6_pick 144 = .ok (.aload_n 0, 1) := by decide +kernel
theorem dX6_pick_145 : decode cX6_pick 145 = .ok (.getfield 25, 3) := by decide +kernel
theorem dX6_pick_148 : decode cX6_pick 148 = .ok (.iload_n 1, 1) := by decide +kernel
theorem dX6_pick_149 : decode cX6_pick 149 = .ok (.iload_n 2, 1) := by decide +kernel
theorem dX6_pick_150 : decode cX6_pick 150 = .ok (.iastore, 1) := by decide +kernel
theorem dX6_pick_151 : decode cX6_pick 151 = .ok (.aload_n 0, 1) := by decide +kernel
theorem dX6_pick_152 : decode cX6_pick 152 = .ok (.iload_n 3, 1) := by decide +kernel
theorem dX6_pick_153 : decode cX6_pick 153 = .ok (.iload 4, 2) := by decide +kernel
theorem dX6_pick_155 : decode cX6_pick 155 = .ok (.aload_n 0, 1) := by decide +kernel
theorem dX6_pick_156 : decode cX6_pick 156 = .ok (.getfield 28, 3) := by decide +kernel
theorem dX6_pick_159 : decode cX6_pick 159 = .ok (.iload_n 1, 1) := by decide +kernel
theorem dX6_pick_160 : decode cX6_pick 160 = .ok (.iaload, 1) := by decide +kernel
theorem dX6_pick_161 : decode cX6_pick 161 = .ok (.invokevirtual 114, 3) := by decide +kernel
theorem dX6_pick_164 : decode cX6_pick 164 = .ok (.istore 5, 2) := by decide +kernel
theorem dX6_pick_166 : decode cX6_pick 166 = .ok (.aload_n 0, 1) := by decide +kernel
theorem dX6_pick_167 : decode cX6_pick 167 = .ok (.getfield 13, 3) := by decide +kernel
theorem dX6_pick_170 : decode cX6_pick 170 = .ok (.iload_n 3, 1) := by decide +kernel
theorem dX6_pick_171 : decode cX6_pick 171 = .ok (.iconst 0, 1) := by decide +kernel
theorem dX6_pick_172 : decode cX6_pick 172 = .ok (.iastore, 1) := by decide +kernel
theorem dX6_pick_173 : decode cX6_pick 173 = .ok (.iconst 0, 1) := by decide +kernel
theorem dX6_pick_174 : decode cX6_pick 174 = .ok (.istore 6, 2) := by decide +kernel
theorem dX6_pick_176 : decode cX6_pick 176 = .ok (.iload 6, 2) := by decide +kernel
theorem dX6_pick_178 : decode cX6_pick 178 = .ok (.aload_n 0, 1) := by decide +kernel
theorem dX6_pick_179 : decode cX6_pick 179 = .ok (.getfield 73, 3) := by decide +kernel
theorem dX6_pick_182 : decode cX6_pick 182 = .ok (.if_icmp .ge 38, 3) := by decide +kernel
theorem dX6_pick_185 : decode cX6_pick 185 = .ok (.aload_n 0, 1) := by decide +kernel
theorem dX6_pick_186 : decode cX6_pick 186 = .ok (.getfield 31, 3) := by decide +kernel
theorem dX6_pick_189 : decode cX6_pick 189 = .ok (.iload 6, 2) := by decide +kernel
theorem dX6_pick_191 : decode cX6_pick 191 = .ok (.iaload, 1) := by decide +kernel
theorem dX6_pick_192 : decode cX6_pick 192 = .ok (.bipush 112, 2) := by decide +kernel
theorem dX6_pick_194 : decode cX6_pick 194 = .ok (.if_icmp .ne 20, 3) := by decide +kernel
theorem dX6_pick_197 : decode cX6_pick 197 = .ok (.aload_n 0, 1) := by decide +kernel
theorem dX6_pick_198 : decode cX6_pick 198 = .ok (.getfield 22, 3) := by decide +kernel
theorem dX6_pick_201 : decode cX6_pick 201 = .ok (.iload 6, 2) := by decide +kernel
theorem dX6_pick_203 : decode cX6_pick 203 = .ok (.iaload, 1) := by decide +kernel
theorem dX6_pick_204 : decode cX6_pick 204 = .ok (.iload_n 3, 1) := by decide +kernel
theorem dX6_pick_205 : decode cX6_pick 205 = .ok (.if_icmp .ne 9, 3) := by decide +kernel
theorem dX6_pick_208 : decode cX6_pick 208 = .ok (.aload_n 0, 1) := by decide +kernel
theorem dX6_pick_209 : decode cX6_pick 209 = .ok (.iload 6, 2) := by decide +kernel
theorem dX6_pick_211 : decode cX6_pick 211 = .ok (.invokevirtual 103, 3) := by decide +kernel
theorem dX6_pick_214 : decode cX6_pick 214 = .ok (.iinc 6 1, 3) := by decide +kernel
theorem dX6_pick_217 : decode cX6_pick 217 = .ok (.goto (-41), 3) := by decide +kernel
theorem dX6_pick_220 : decode cX6_pick 220 = .ok (.iload 5, 2) := by decide +kernel
theorem dX6_pick_222 : decode cX6_pick 222 = .ok (.ireturn, 1) := by decide +kernel
set_option maxHeartbeats 4000000 in
set_option maxRecDepth 100000 in
theorem c_X6_pick (l : Launch) (hl0 : l.stackTraces = false) (g : kG) (e0 : Nat) (w : Nat → Nat) (S : wPS) (sz : Nat) (hI : MI w S) (n fo : Int32) (cn : Nat) (hc : pF S 106 (w 0) = nI cn) (hc7 : cn + 13 ≤ 7000) : kM l g e0 yX6_pick cX6_pick 7 (some .int) 2 45 0 0 [.ref (w 0), .int n, .int fo] S sz (pI (fun r T => Mr w S T ∧ (∃ c9, c9 ≤ cn + 13 ∧ pF T 106 (w 0) = nI c9))) (fun E => False) := by
  refine kM.of (by decide) (Nat.le_of_ble_eq_true rfl) ?_
  intro p e s m below meth c ls B hin
  obtain ⟨F, hr, hlk, hte, hP, hK, hD, hE, hS, hA, hl, hsz⟩ := B
  subst hsz
  have hx := F.1
  have hb := F.2.1
  have hl : lv_has ls 7 [(0, .ref (w 0)), (1, .int n), (2, .int fo)] := hl
  obtain ⟨mo, hmo, hmo8⟩ := hI.2.2.1.2
  refine lv_aload_n hx hb dX6_pick_0 rfl (lv_at hl 0 rfl) ?_
  refine lv_iload_n hx hb dX6_pick_1 rfl (lv_at hl 1 rfl) ?_
  refine kcallI (kV (n := 1) (As := [.int n]) (rest := []) (b := (w 0)) (C := RX6) F hE hK hP hD hS hA (c_X6_isOrder l hl0 g e0 w S _ hI n) (rr_Model hK hP (hI.1.1 0 (by decide))) kw_447 kw_448 kw_449 kw_5 kw_450 (by decide +kernel) ⟨Nat.le_of_ble_eq_true rfl, Nat.le_of_ble_eq_true rfl⟩ rfl hl.1 rfl (Nat.le_of_ble_eq_true rfl) dX6_pick_2 ⟨Nat.le_of_ble_eq_true rfl, Nat.le_of_ble_eq_true rfl⟩) rfl hD hS hA (fun _ _ _ _ _ h => False.elim h) (fun r1 T1 H locs hp hP hD hS => ?_)
  have hp := hp
  rcases hp with ⟨hr, hT, m2_, hm2, hmM2, j2, hj2, hn2⟩ | ⟨hr, hT, ho2⟩
  · subst hT
    subst hr
    have m2 : Mr w S (setF S 100 (w 0) 0) := (Mr.rf hI).thr
    refine lv_if_ne (tgt := 10) hx hb dX6_pick_5 (by decide) (fun c3 => ?_) (fun c3 => ?_)
    · refine lv_iload_n hx hb dX6_pick_10 rfl (lv_at hl 2 rfl) ?_
      refine lv_iconst (v := 0) hx hb dX6_pick_11 (by decide) ?_
      refine lv_aload_n hx hb dX6_pick_12 rfl (lv_at hl 0 rfl) ?_
      refine rs_Model_amount (b := w 6) F hK hP (m2.1.1.1 0 (by decide)) ((m2.1.2.1 6 (by decide) (by decide)).1) kw_72 dX6_pick_13 ?_
      refine lv_iload_n hx hb dX6_pick_16 rfl (lv_at hl 1 rfl) ?_
      refine rd_I F hK hP (m2.1.1.1 6 (by decide)) (by rw [show pN (setF S 100 (w 0) 0) (w 6) = 12 from (m2.1.2.1 6 (by decide) (by decide)).2, hn2]; exact vp_in_nI (by omega) (by decide)) dX6_pick_17 ?_
      refine lv_topi (fun x4 ex4 => ?_)
      refine kcallI (kSt (n := 3) (As := [.int fo, .int 0, .int x4]) (rest := []) F hE hK hP hD hS hA (c_X6_in l hl0 g e0 (setF S 100 (w 0) 0) _ fo 0 x4) kw_180 kw_181 kw_5 kw_182 (by decide +kernel) ⟨Nat.le_of_ble_eq_true rfl, Nat.le_of_ble_eq_true rfl⟩ rfl hl.1 rfl (Nat.le_of_ble_eq_true rfl) dX6_pick_18 ⟨Nat.le_of_ble_eq_true rfl, Nat.le_of_ble_eq_true rfl⟩) rfl hD hS hA (fun _ _ _ _ _ h => False.elim h) (fun r5 T5 H locs hp hP hD hS => ?_)
      obtain ⟨hT, hp6⟩ := hp
      have hT := hT.symm
      subst hT
      refine lv_if_ne (tgt := 30) hx hb dX6_pick_21 (by decide) (fun c7 => ?_) (fun c7 => ?_)
      · have hin2 := (show _ ∧ _ from by rcases hp6 with ⟨-, h1, h2⟩ | ⟨h, -⟩; exact ⟨h1, h2⟩; exact absurd c7 (by rw [h]; decide))
        refine lv_aload_n hx hb dX6_pick_30 rfl (lv_at hl 0 rfl) ?_
        refine rs_Model_item (b := w 5) F hK hP (m2.1.1.1 0 (by decide)) ((m2.1.2.1 5 (by decide) (by decide)).1) kw_71 dX6_pick_31 ?_
        refine lv_iload_n hx hb dX6_pick_34 rfl (lv_at hl 1 rfl) ?_
        refine rd_I F hK hP (m2.1.1.1 5 (by decide)) (by rw [show pN (setF S 100 (w 0) 0) (w 5) = 12 from (m2.1.2.1 5 (by decide) (by decide)).2, hn2]; exact vp_in_nI (by omega) (by decide)) dX6_pick_35 ?_
        refine lv_topi (fun x8 ex8 => ?_)
        obtain ⟨jg9, hjg9, hxg9⟩ : ∃ q, q < 6 ∧ x8 = nI q := by rw [ex8]; exact m2.1.2.2.2.2.1 _
        refine lv_istore_n (lv' := [(3, .int x8), (0, .ref (w 0)), (1, .int n), (2, .int fo)]) hx hb dX6_pick_36 rfl hl (by decide) rfl (fun ls hl => ?_)
        refine lv_aload_n hx hb dX6_pick_37 rfl (lv_at hl 1 rfl) ?_
        refine rs_Model_isBlocked (b := w 10) F hK hP (m2.1.1.1 0 (by decide)) ((m2.1.2.1 10 (by decide) (by decide)).1) kw_77 dX6_pick_38 ?_
        refine lv_aload_n hx hb dX6_pick_41 rfl (lv_at hl 1 rfl) ?_
        refine rs_Model_aisle (b := w 1) F hK hP (m2.1.1.1 0 (by decide)) ((m2.1.2.1 1 (by decide) (by decide)).1) kw_67 dX6_pick_42 ?_
        refine lv_iload_n hx hb dX6_pick_45 rfl (lv_at hl 0 rfl) ?_
        refine rd_I F hK hP (m2.1.1.1 1 (by decide)) (by rw [show pN (setF S 100 (w 0) 0) (w 1) = 6 from (m2.1.2.1 1 (by decide) (by decide)).2, hxg9]; exact vp_in_nI (by omega) (by decide)) dX6_pick_46 ?_
        refine lv_topi (fun x10 ex10 => ?_)
        obtain ⟨jg11, hjg11, hxg11⟩ : ∃ q, q < 4 ∧ x10 = nI q := by rw [ex10]; exact m2.1.2.2.2.1 _
        refine rd_Z F hK hP (m2.1.1.1 10 (by decide)) (by rw [show pN (setF S 100 (w 0) 0) (w 10) = 4 from (m2.1.2.1 10 (by decide) (by decide)).2, hxg11]; exact vp_in_nI (by omega) (by decide)) dX6_pick_47 ?_
        refine lv_topi (fun x12 ex12 => ?_)
        refine lv_if_eq (tgt := 57) hx hb dX6_pick_48 (by decide) (fun c13 => ?_) (fun c13 => ?_)
        · refine lv_aload_n hx hb dX6_pick_57 rfl (lv_at hl 1 rfl) ?_
          refine rs_Model_amount (b := w 6) F hK hP (m2.1.1.1 0 (by decide)) ((m2.1.2.1 6 (by decide) (by decide)).1) kw_72 dX6_pick_58 ?_
          refine lv_iload_n hx hb dX6_pick_61 rfl (lv_at hl 2 rfl) ?_
          refine rd_I F hK hP (m2.1.1.1 6 (by decide)) (by rw [show pN (setF S 100 (w 0) 0) (w 6) = 12 from (m2.1.2.1 6 (by decide) (by decide)).2, hn2]; exact vp_in_nI (by omega) (by decide)) dX6_pick_62 ?_
          refine lv_topi (fun x14 ex14 => ?_)
          refine lv_iload_n hx hb dX6_pick_63 rfl (lv_at hl 3 rfl) ?_
          refine lv_isub hx hb dX6_pick_64 ?_
          refine lv_topi (fun x15 ex15 => ?_)
          refine lv_istore (lv' := [(4, .int x15), (3, .int x8), (0, .ref (w 0)), (1, .int n), (2, .int fo)]) hx hb dX6_pick_65 hl (by decide) rfl (fun ls hl => ?_)
          refine lv_aload_n hx hb dX6_pick_67 rfl (lv_at hl 2 rfl) ?_
          refine rs_Model_state (b := w 8) F hK hP (m2.1.1.1 0 (by decide)) ((m2.1.2.1 8 (by decide) (by decide)).1) kw_74 dX6_pick_68 ?_
          refine lv_iload_n hx hb dX6_pick_71 rfl (lv_at hl 3 rfl) ?_
          refine rd_I F hK hP (m2.1.1.1 8 (by decide)) (by rw [show pN (setF S 100 (w 0) 0) (w 8) = 12 from (m2.1.2.1 8 (by decide) (by decide)).2, hn2]; exact vp_in_nI (by omega) (by decide)) dX6_pick_72 ?_
          refine lv_topi (fun x16 ex16 => ?_)
          refine lv_bipush (v := 112) hx hb dX6_pick_73 (by decide) ?_
          refine lv_icmp_ne (tgt := 92) hx hb dX6_pick_75 (by decide) (fun c17 => ?_) (fun c17 => ?_)
          · refine lv_aload_n hx hb dX6_pick_92 rfl (lv_at hl 2 rfl) ?_
            refine lv_iconst (v := 4) hx hb dX6_pick_93 (by decide) ?_
            refine kcallI (kV (n := 1) (As := [.int 4]) (rest := []) (b := (w 0)) (C := RX6) F hE hK hP hD hS hA (c_X6_fails l hl0 g e0 (setF S 100 (w 0) 0) _ (w 0) 4 (m2.1.1.1 0 (by decide))) (rr_Model hK hP (m2.1.1.1 0 (by decide))) kw_183 kw_184 kw_185 kw_5 kw_186 (by decide +kernel) ⟨Nat.le_of_ble_eq_true rfl, Nat.le_of_ble_eq_true rfl⟩ rfl hl.1 rfl (Nat.le_of_ble_eq_true rfl) dX6_pick_94 ⟨Nat.le_of_ble_eq_true rfl, Nat.le_of_ble_eq_true rfl⟩) rfl hD hS hA (fun _ _ _ _ _ h => False.elim h) (fun r18 T18 H locs hp hP hD hS => ?_)
            obtain ⟨hT, hr19⟩ := hp
            subst hT
            have m19 : Mr w S (setF (setF S 100 (w 0) 0) 100 (w 0) 4) := m2.thr
            subst hr19
            exact kEndI F hr rfl hlk hP hD hS (Nat.le_of_ble_eq_true rfl) (Nat.le_of_ble_eq_true rfl) dX6_pick_97 ⟨_, rfl, ⟨m19, cn, by omega, (show pF (setF (setF S 100 (w 0) 0) 100 (w 0) 4) 106 (w 0) = nI cn from ((uF_of (Or.inl (by decide))).trans ((uF_of (Or.inl (by decide))).trans rfl)).trans hc)⟩⟩
          · refine lv_iload hx hb dX6_pick_78 (lv_at hl 0 rfl) ?_
            refine lv_if_le (tgt := 98) hx hb dX6_pick_80 (by decide) (fun c20 => ?_) (fun c20 => ?_)
            · refine lv_aload_n hx hb dX6_pick_98 rfl (lv_at hl 2 rfl) ?_
              refine rs_Model_state (b := w 8) F hK hP (m2.1.1.1 0 (by decide)) ((m2.1.2.1 8 (by decide) (by decide)).1) kw_74 dX6_pick_99 ?_
              refine lv_iload_n hx hb dX6_pick_102 rfl (lv_at hl 3 rfl) ?_
              refine lv_iload_n hx hb dX6_pick_103 rfl (lv_at hl 4 rfl) ?_
              refine lv_if_ne (tgt := 112) hx hb dX6_pick_104 (by decide) (fun c21 => ?_) (fun c21 => ?_)
              · refine lv_bipush (v := 107) hx hb dX6_pick_112 (by decide) ?_
                refine rt_I F hK hP hD hS (m2.1.1.1 8 (by decide)) (by rw [show pN (setF S 100 (w 0) 0) (w 8) = 12 from (m2.1.2.1 8 (by decide) (by decide)).2, hn2]; exact vp_in_nI (by omega) (by decide)) dX6_pick_114 (fun H locs hP hD hS => ?_)
                refine lv_aload_n hx hb dX6_pick_115 rfl (lv_at hl 2 rfl) ?_
                refine lv_iload_n hx hb dX6_pick_116 rfl (lv_at hl 3 rfl) ?_
                refine lv_aload_n hx hb dX6_pick_117 rfl (lv_at hl 2 rfl) ?_
                refine rs_Model_state (b := w 8) F hK hP (m2.1.1.1 0 (by decide)) ((m2.1.2.1 8 (by decide) (by decide)).1) kw_74 dX6_pick_118 ?_
                refine lv_iload_n hx hb dX6_pick_121 rfl (lv_at hl 3 rfl) ?_
                refine rd_I F hK hP (m2.1.1.1 8 (by decide)) (by rw [show pN (setX (setF S 100 (w 0) 0) (w 8) (upd (pX (setF S 100 (w 0) 0) (w 8)) n.toNatClampNeg 107)) (w 8) = 12 from (m2.1.2.1 8 (by decide) (by decide)).2, hn2]; exact vp_in_nI (by omega) (by decide)) dX6_pick_122 ?_
                refine lv_topi (fun x22 ex22 => ?_)
                refine lv_i2c (v := (x22.toUInt32 % 65536).toInt32) hx hb dX6_pick_123 rfl ?_
                refine lv_topi (fun x23 ex23 => ?_)
                refine kcallU (kV (n := 2) (As := [.int n, .int x23]) (rest := []) (b := (w 0)) (C := RX6) F hE hK hP hD hS hA (c_X6_notes l hl0 g e0 w (setX (setF S 100 (w 0) 0) (w 8) (upd (pX (setF S 100 (w 0) 0) (w 8)) n.toNatClampNeg 107)) _ ((Mk.x (i := 8) (Mk.rf m2.1) (by decide) (by decide) (by decide)).1.1) n x23 cn (show pF (setF S 100 (w 0) 0) 106 (w 0) = nI cn from ((uF_of (Or.inl (by decide))).trans rfl).trans hc) (by omega)) (rr_Model hK hP (m2.1.1.1 0 (by decide))) kw_343 kw_344 kw_345 kw_5 kw_346 (by decide +kernel) ⟨Nat.le_of_ble_eq_true rfl, Nat.le_of_ble_eq_true rfl⟩ rfl hl.1 rfl (Nat.le_of_ble_eq_true rfl) dX6_pick_124 ⟨Nat.le_of_ble_eq_true rfl, Nat.le_of_ble_eq_true rfl⟩) rfl hD hS hA (fun _ _ _ _ _ h => False.elim h) (fun T24 H locs hp hP hD hS => ?_)
                obtain ⟨k25, c25_, s25⟩ := hp
                have K25 : Mk w (setF S 100 (w 0) 0) T24 := (Mk.x (i := 8) (Mk.rf m2.1) (by decide) (by decide) (by decide)).trans k25
                refine lv_iload hx hb dX6_pick_127 (lv_at hl 0 rfl) ?_
                refine lv_if_ne (tgt := 144) hx hb dX6_pick_129 (by decide) (fun c26 => ?_) (fun c26 => ?_)
                · exact absurd (by rw [ex15]; exact kmiss hin2.1 (by rw [ex14, ← ex4]; exact hin2.2) (by rw [← ex15]; exact c20)) c26
                · refine lv_aload_n hx hb dX6_pick_132 rfl (lv_at hl 2 rfl) ?_
                  refine rs_Model_stock (b := w 2) F hK hP (K25.1.1.1.1 0 (by decide)) ((K25.1.1.2.1 2 (by decide) (by decide)).1) kw_68 dX6_pick_133 ?_
                  refine lv_iload_n hx hb dX6_pick_136 rfl (lv_at hl 1 rfl) ?_
                  refine lv_dup2_11 hx hb dX6_pick_137 rfl rfl ?_
                  refine rd_I F hK hP (K25.1.1.1.1 2 (by decide)) (by rw [show pN T24 (w 2) = 6 from (K25.1.1.2.1 2 (by decide) (by decide)).2, hxg9]; exact vp_in_nI (by omega) (by decide)) dX6_pick_138 ?_
                  refine lv_topi (fun x27 ex27 => ?_)
                  refine lv_iload_n hx hb dX6_pick_139 rfl (lv_at hl 4 rfl) ?_
                  refine lv_isub hx hb dX6_pick_140 ?_
                  refine lv_topi (fun x28 ex28 => ?_)
                  refine rt_I F hK hP hD hS (K25.1.1.1.1 2 (by decide)) (by rw [show pN T24 (w 2) = 6 from (K25.1.1.2.1 2 (by decide) (by decide)).2, hxg9]; exact vp_in_nI (by omega) (by decide)) dX6_pick_141 (fun H locs hP hD hS => ?_)
                  refine lv_iconst (v := (-1)) hx hb dX6_pick_142 (by decide) ?_
                  exact kEndI F hr rfl hlk hP hD hS (Nat.le_of_ble_eq_true rfl) (Nat.le_of_ble_eq_true rfl) dX6_pick_143 ⟨_, rfl, ⟨(m2.trans (Mk.x (i := 2) K25 (by decide) (by decide) (by decide)).1), cn + 1, by omega, c25_⟩⟩
              · refine lv_bipush (v := 100) hx hb dX6_pick_107 (by decide) ?_
                refine lv_goto (tgt := 114) hx hb dX6_pick_109 (by decide) ?_
                refine rt_I F hK hP hD hS (m2.1.1.1 8 (by decide)) (by rw [show pN (setF S 100 (w 0) 0) (w 8) = 12 from (m2.1.2.1 8 (by decide) (by decide)).2, hn2]; exact vp_in_nI (by omega) (by decide)) dX6_pick_114 (fun H locs hP hD hS => ?_)
                refine lv_aload_n hx hb dX6_pick_115 rfl (lv_at hl 2 rfl) ?_
                refine lv_iload_n hx hb dX6_pick_116 rfl (lv_at hl 3 rfl) ?_
                refine lv_aload_n hx hb dX6_pick_117 rfl (lv_at hl 2 rfl) ?_
                refine rs_Model_state (b := w 8) F hK hP (m2.1.1.1 0 (by decide)) ((m2.1.2.1 8 (by decide) (by decide)).1) kw_74 dX6_pick_118 ?_
                refine lv_iload_n hx hb dX6_pick_121 rfl (lv_at hl 3 rfl) ?_
                refine rd_I F hK hP (m2.1.1.1 8 (by decide)) (by rw [show pN (setX (setF S 100 (w 0) 0) (w 8) (upd (pX (setF S 100 (w 0) 0) (w 8)) n.toNatClampNeg 100)) (w 8) = 12 from (m2.1.2.1 8 (by decide) (by decide)).2, hn2]; exact vp_in_nI (by omega) (by decide)) dX6_pick_122 ?_
                refine lv_topi (fun x29 ex29 => ?_)
                refine lv_i2c (v := (x29.toUInt32 % 65536).toInt32) hx hb dX6_pick_123 rfl ?_
                refine lv_topi (fun x30 ex30 => ?_)
                refine kcallU (kV (n := 2) (As := [.int n, .int x30]) (rest := []) (b := (w 0)) (C := RX6) F hE hK hP hD hS hA (c_X6_notes l hl0 g e0 w (setX (setF S 100 (w 0) 0) (w 8) (upd (pX (setF S 100 (w 0) 0) (w 8)) n.toNatClampNeg 100)) _ ((Mk.x (i := 8) (Mk.rf m2.1) (by decide) (by decide) (by decide)).1.1) n x30 cn (show pF (setF S 100 (w 0) 0) 106 (w 0) = nI cn from ((uF_of (Or.inl (by decide))).trans rfl).trans hc) (by omega)) (rr_Model hK hP (m2.1.1.1 0 (by decide))) kw_343 kw_344 kw_345 kw_5 kw_346 (by decide +kernel) ⟨Nat.le_of_ble_eq_true rfl, Nat.le_of_ble_eq_true rfl⟩ rfl hl.1 rfl (Nat.le_of_ble_eq_true rfl) dX6_pick_124 ⟨Nat.le_of_ble_eq_true rfl, Nat.le_of_ble_eq_true rfl⟩) rfl hD hS hA (fun _ _ _ _ _ h => False.elim h) (fun T31 H locs hp hP hD hS => ?_)
                obtain ⟨k32, c32_, s32⟩ := hp
                have K32 : Mk w (setF S 100 (w 0) 0) T31 := (Mk.x (i := 8) (Mk.rf m2.1) (by decide) (by decide) (by decide)).trans k32
                refine lv_iload hx hb dX6_pick_127 (lv_at hl 0 rfl) ?_
                refine lv_if_ne (tgt := 144) hx hb dX6_pick_129 (by decide) (fun c33 => ?_) (fun c33 => ?_)
                · exact absurd (by rw [ex15]; exact kmiss hin2.1 (by rw [ex14, ← ex4]; exact hin2.2) (by rw [← ex15]; exact c20)) c33
                · refine lv_aload_n hx hb dX6_pick_132 rfl (lv_at hl 2 rfl) ?_
                  refine rs_Model_stock (b := w 2) F hK hP (K32.1.1.1.1 0 (by decide)) ((K32.1.1.2.1 2 (by decide) (by decide)).1) kw_68 dX6_pick_133 ?_
                  refine lv_iload_n hx hb dX6_pick_136 rfl (lv_at hl 1 rfl) ?_
                  refine lv_dup2_11 hx hb dX6_pick_137 rfl rfl ?_
                  refine rd_I F hK hP (K32.1.1.1.1 2 (by decide)) (by rw [show pN T31 (w 2) = 6 from (K32.1.1.2.1 2 (by decide) (by decide)).2, hxg9]; exact vp_in_nI (by omega) (by decide)) dX6_pick_138 ?_
                  refine lv_topi (fun x34 ex34 => ?_)
                  refine lv_iload_n hx hb dX6_pick_139 rfl (lv_at hl 4 rfl) ?_
                  refine lv_isub hx hb dX6_pick_140 ?_
                  refine lv_topi (fun x35 ex35 => ?_)
                  refine rt_I F hK hP hD hS (K32.1.1.1.1 2 (by decide)) (by rw [show pN T31 (w 2) = 6 from (K32.1.1.2.1 2 (by decide) (by decide)).2, hxg9]; exact vp_in_nI (by omega) (by decide)) dX6_pick_141 (fun H locs hP hD hS => ?_)
                  refine lv_iconst (v := (-1)) hx hb dX6_pick_142 (by decide) ?_
                  exact kEndI F hr rfl hlk hP hD hS (Nat.le_of_ble_eq_true rfl) (Nat.le_of_ble_eq_true rfl) dX6_pick_143 ⟨_, rfl, ⟨(m2.trans (Mk.x (i := 2) K32 (by decide) (by decide) (by decide)).1), cn + 1, by omega, c32_⟩⟩
            · refine lv_aload_n hx hb dX6_pick_83 rfl (lv_at hl 2 rfl) ?_
              refine rg_Model_orders F hK hP (m2.1.1.1 0 (by decide)) kw_263 dX6_pick_84 ?_
              refine lv_topi (fun x36 ex36 => ?_)
              refine lv_bipush (v := 12) hx hb dX6_pick_87 (by decide) ?_
              refine lv_icmp_ne (tgt := 98) hx hb dX6_pick_89 (by decide) (fun c37 => ?_) (fun c37 => ?_)
              · have hm12 : mo < 12 := by rcases Nat.lt_or_ge mo 12 with q | q; exact q; exact absurd (by rw [ex36, show pF (setF S 100 (w 0) 0) 102 (w 0) = nI mo from (uF_of (Or.inl (by decide))).trans hmo8, show mo = 12 by omega]; rfl) c37
                refine lv_aload_n hx hb dX6_pick_98 rfl (lv_at hl 2 rfl) ?_
                refine rs_Model_state (b := w 8) F hK hP (m2.1.1.1 0 (by decide)) ((m2.1.2.1 8 (by decide) (by decide)).1) kw_74 dX6_pick_99 ?_
                refine lv_iload_n hx hb dX6_pick_102 rfl (lv_at hl 3 rfl) ?_
                refine lv_iload_n hx hb dX6_pick_103 rfl (lv_at hl 4 rfl) ?_
                refine lv_if_ne (tgt := 112) hx hb dX6_pick_104 (by decide) (fun c38 => ?_) (fun c38 => ?_)
                · refine lv_bipush (v := 107) hx hb dX6_pick_112 (by decide) ?_
                  refine rt_I F hK hP hD hS (m2.1.1.1 8 (by decide)) (by rw [show pN (setF S 100 (w 0) 0) (w 8) = 12 from (m2.1.2.1 8 (by decide) (by decide)).2, hn2]; exact vp_in_nI (by omega) (by decide)) dX6_pick_114 (fun H locs hP hD hS => ?_)
                  refine lv_aload_n hx hb dX6_pick_115 rfl (lv_at hl 2 rfl) ?_
                  refine lv_iload_n hx hb dX6_pick_116 rfl (lv_at hl 3 rfl) ?_
                  refine lv_aload_n hx hb dX6_pick_117 rfl (lv_at hl 2 rfl) ?_
                  refine rs_Model_state (b := w 8) F hK hP (m2.1.1.1 0 (by decide)) ((m2.1.2.1 8 (by decide) (by decide)).1) kw_74 dX6_pick_118 ?_
                  refine lv_iload_n hx hb dX6_pick_121 rfl (lv_at hl 3 rfl) ?_
                  refine rd_I F hK hP (m2.1.1.1 8 (by decide)) (by rw [show pN (setX (setF S 100 (w 0) 0) (w 8) (upd (pX (setF S 100 (w 0) 0) (w 8)) n.toNatClampNeg 107)) (w 8) = 12 from (m2.1.2.1 8 (by decide) (by decide)).2, hn2]; exact vp_in_nI (by omega) (by decide)) dX6_pick_122 ?_
                  refine lv_topi (fun x39 ex39 => ?_)
                  refine lv_i2c (v := (x39.toUInt32 % 65536).toInt32) hx hb dX6_pick_123 rfl ?_
                  refine lv_topi (fun x40 ex40 => ?_)
                  refine kcallU (kV (n := 2) (As := [.int n, .int x40]) (rest := []) (b := (w 0)) (C := RX6) F hE hK hP hD hS hA (c_X6_notes l hl0 g e0 w (setX (setF S 100 (w 0) 0) (w 8) (upd (pX (setF S 100 (w 0) 0) (w 8)) n.toNatClampNeg 107)) _ ((Mk.x (i := 8) (Mk.rf m2.1) (by decide) (by decide) (by decide)).1.1) n x40 cn (show pF (setF S 100 (w 0) 0) 106 (w 0) = nI cn from ((uF_of (Or.inl (by decide))).trans rfl).trans hc) (by omega)) (rr_Model hK hP (m2.1.1.1 0 (by decide))) kw_343 kw_344 kw_345 kw_5 kw_346 (by decide +kernel) ⟨Nat.le_of_ble_eq_true rfl, Nat.le_of_ble_eq_true rfl⟩ rfl hl.1 rfl (Nat.le_of_ble_eq_true rfl) dX6_pick_124 ⟨Nat.le_of_ble_eq_true rfl, Nat.le_of_ble_eq_true rfl⟩) rfl hD hS hA (fun _ _ _ _ _ h => False.elim h) (fun T41 H locs hp hP hD hS => ?_)
                  obtain ⟨k42, c42_, s42⟩ := hp
                  have K42 : Mk w (setF S 100 (w 0) 0) T41 := (Mk.x (i := 8) (Mk.rf m2.1) (by decide) (by decide) (by decide)).trans k42
                  refine lv_iload hx hb dX6_pick_127 (lv_at hl 0 rfl) ?_
                  refine lv_if_ne (tgt := 144) hx hb dX6_pick_129 (by decide) (fun c43 => ?_) (fun c43 => ?_)
                  · refine lv_aload_n hx hb dX6_pick_144 rfl (lv_at hl 2 rfl) ?_
                    refine rs_Model_amount (b := w 6) F hK hP (K42.1.1.1.1 0 (by decide)) ((K42.1.1.2.1 6 (by decide) (by decide)).1) kw_72 dX6_pick_145 ?_
                    refine lv_iload_n hx hb dX6_pick_148 rfl (lv_at hl 3 rfl) ?_
                    refine lv_iload_n hx hb dX6_pick_149 rfl (lv_at hl 4 rfl) ?_
                    refine rt_I F hK hP hD hS (K42.1.1.1.1 6 (by decide)) (by rw [show pN T41 (w 6) = 12 from (K42.1.1.2.1 6 (by decide) (by decide)).2, hn2]; exact vp_in_nI (by omega) (by decide)) dX6_pick_150 (fun H locs hP hD hS => ?_)
                    refine lv_aload_n hx hb dX6_pick_151 rfl (lv_at hl 2 rfl) ?_
                    refine lv_iload_n hx hb dX6_pick_152 rfl (lv_at hl 1 rfl) ?_
                    refine lv_iload hx hb dX6_pick_153 (lv_at hl 0 rfl) ?_
                    refine lv_aload_n hx hb dX6_pick_155 rfl (lv_at hl 2 rfl) ?_
                    refine rs_Model_carrier (b := w 7) F hK hP (K42.1.1.1.1 0 (by decide)) ((K42.1.1.2.1 7 (by decide) (by decide)).1) kw_73 dX6_pick_156 ?_
                    refine lv_iload_n hx hb dX6_pick_159 rfl (lv_at hl 3 rfl) ?_
                    refine rd_I F hK hP (K42.1.1.1.1 7 (by decide)) (by rw [show pN (setX T41 (w 6) (upd (pX T41 (w 6)) n.toNatClampNeg fo)) (w 7) = 12 from (K42.1.1.2.1 7 (by decide) (by decide)).2, hn2]; exact vp_in_nI (by omega) (by decide)) dX6_pick_160 ?_
                    refine lv_topi (fun x44 ex44 => ?_)
                    refine kcallI (kV (n := 3) (As := [.int x8, .int x15, .int x44]) (rest := []) (b := (w 0)) (C := RX6) F hE hK hP hD hS hA (c_X6_adds l hl0 g e0 w (setX T41 (w 6) (upd (pX T41 (w 6)) n.toNatClampNeg fo)) _ ((Mk.x (i := 6) K42 (by decide) (by decide) (by decide)).1.1) x8 x15 x44 jg9 hjg9 hxg9 mo ((Mk.x (i := 6) K42 (by decide) (by decide) (by decide)).2.2.trans (show pF (setF S 100 (w 0) 0) 102 (w 0) = nI mo from (uF_of (Or.inl (by decide))).trans hmo8)) hm12 (cn + 1) c42_ (by omega)) (rr_Model hK hP (K42.1.1.1.1 0 (by decide))) kw_428 kw_429 kw_430 kw_5 kw_431 (by decide +kernel) ⟨Nat.le_of_ble_eq_true rfl, Nat.le_of_ble_eq_true rfl⟩ rfl hl.1 rfl (Nat.le_of_ble_eq_true rfl) dX6_pick_161 ⟨Nat.le_of_ble_eq_true rfl, Nat.le_of_ble_eq_true rfl⟩) rfl hD hS hA (fun _ _ _ _ _ h => False.elim h) (fun r45 T45 H locs hp hP hD hS => ?_)
                    obtain ⟨a46, b46, o46, s46, x46_, -⟩ := hp
                    have m46 : Mr w S T45 := (m2.trans (Mk.x (i := 6) K42 (by decide) (by decide) (by decide)).1).trans a46
                    obtain ⟨m9, em9⟩ : ∃ q, q = mo + 1 := ⟨_, rfl⟩
                    have hm9 : m9 ≤ 12 := by omega
                    have hm8 : pF T45 102 (w 0) = nI m9 := by rw [em9]; exact o46
                    have hla0 : pX T45 (w 8) mo = 111 := by rw [x46_]; unfold upd; rw [if_pos rfl]
                    refine lv_istore (lv' := [(5, .int r45), (4, .int x15), (3, .int x8), (0, .ref (w 0)), (1, .int n), (2, .int fo)]) hx hb dX6_pick_164 hl (by decide) rfl (fun ls hl => ?_)
                    refine lv_aload_n hx hb dX6_pick_166 rfl (lv_at hl 3 rfl) ?_
                    refine rs_Model_stock (b := w 2) F hK hP (m46.1.1.1 0 (by decide)) ((m46.1.2.1 2 (by decide) (by decide)).1) kw_68 dX6_pick_167 ?_
                    refine lv_iload_n hx hb dX6_pick_170 rfl (lv_at hl 2 rfl) ?_
                    refine lv_iconst (v := 0) hx hb dX6_pick_171 (by decide) ?_
                    refine rt_I F hK hP hD hS (m46.1.1.1 2 (by decide)) (by rw [show pN T45 (w 2) = 6 from (m46.1.2.1 2 (by decide) (by decide)).2, hxg9]; exact vp_in_nI (by omega) (by decide)) dX6_pick_172 (fun H locs hP hD hS => ?_)
                    refine lv_iconst (v := 0) hx hb dX6_pick_173 (by decide) ?_
                    refine lv_istore (lv' := [(6, .int 0), (5, .int r45), (4, .int x15), (3, .int x8), (0, .ref (w 0)), (1, .int n), (2, .int fo)]) hx hb dX6_pick_174 hl (by decide) rfl (fun ls hl => ?_)
                    have loop : ∀ (fu : Nat) (T0 : wPS) (i c1 : Nat) (xi : Int32) (H : Heap) (locs : List Loc) (ls : Array Slot), va_P (kD g) vwCl (kW g T0) H → va_D (kA (pL S) s.heap.size) (kW g T0) → va_S (kA (pL S) s.heap.size) s.heap H locs → lv_has ls 7 [(6, .int xi), (5, .int r45), (4, .int x15), (3, .int x8), (2, .int fo), (0, .ref (w 0)), (1, .int n)] → m9 - i < fu → (Mk w T45 T0) → (xi = nI i) → (i ≤ m9) → (pF T0 106 (w 0) = nI c1) → (c1 ≤ cn + 2 + i ∧ c1 ≤ cn + 2 + mo) → (pX T0 (w 8) mo = 111) → W p l e ({ frames := 2, cells := 0, slots := 0, locals := 45 }) s m ([.ref (w 0), .int n, .int fo] : List Value).toArray below meth c H locs 0 0 (vx_MQ below (kQ g S s.heap.size (pI (fun r T => Mr w S T ∧ (∃ c9, c9 ≤ cn + 13 ∧ pF T 106 (w 0) = nI c9)))) (kX g S s.heap.size (fun E => False)) ([.ref (w 0), .int n, .int fo] : List Value).toArray s 0 0 (kA (pL S) s.heap.size)) (F0 m 176 ls []) := by
                      intro fu
                      induction fu with
                      | zero => intro T0 i c1 xi H locs ls hP hD hS hl hn hMk hi hin hcc hcl hla; exact absurd hn (Nat.not_lt_zero _)
                      | succ fu ih =>
                        intro T0 i c1 xi H locs ls hP hD hS hl hn hMk hi hin hcc hcl hla
                        refine lv_iload hx hb dX6_pick_176 (lv_at hl 0 rfl) ?_
                        refine lv_aload_n hx hb dX6_pick_178 rfl (lv_at hl 5 rfl) ?_
                        refine rg_Model_orders F hK hP (hMk.1.1.1.1 0 (by decide)) kw_263 dX6_pick_179 ?_
                        refine lv_topi (fun x47 ex47 => ?_)
                        refine lv_icmp_ge (tgt := 220) hx hb dX6_pick_182 (by decide) (fun c48 => ?_) (fun c48 => ?_)
                        · refine lv_iload hx hb dX6_pick_220 (lv_at hl 1 rfl) ?_
                          exact kEndI F hr rfl hlk hP hD hS (Nat.le_of_ble_eq_true rfl) (Nat.le_of_ble_eq_true rfl) dX6_pick_222 ⟨_, rfl, ⟨(m46.trans hMk.1), c1, by omega, hcc⟩⟩
                        · have hlt : i < m9 := klm hin (by omega) hi (ex47.trans (hMk.2.2.trans hm8)) c48
                          refine lv_aload_n hx hb dX6_pick_185 rfl (lv_at hl 5 rfl) ?_
                          refine rs_Model_state (b := w 8) F hK hP (hMk.1.1.1.1 0 (by decide)) ((hMk.1.1.2.1 8 (by decide) (by decide)).1) kw_74 dX6_pick_186 ?_
                          refine lv_iload hx hb dX6_pick_189 (lv_at hl 0 rfl) ?_
                          refine rd_I F hK hP (hMk.1.1.1.1 8 (by decide)) (by rw [show pN T0 (w 8) = 12 from (hMk.1.1.2.1 8 (by decide) (by decide)).2, hi]; exact vp_in_nI (by omega) (by decide)) dX6_pick_191 ?_
                          refine lv_topi (fun x49 ex49 => ?_)
                          refine lv_bipush (v := 112) hx hb dX6_pick_192 (by decide) ?_
                          refine lv_icmp_ne (tgt := 214) hx hb dX6_pick_194 (by decide) (fun c50 => ?_) (fun c50 => ?_)
                          · obtain ⟨x51, ex51⟩ : ∃ y : Int32, y = xi + 1 := ⟨_, rfl⟩
                            refine lv_iinc (v := x51) (lv' := [(6, .int x51), (5, .int r45), (4, .int x15), (3, .int x8), (2, .int fo), (0, .ref (w 0)), (1, .int n)]) hx hb dX6_pick_214 hl (k := 0) rfl (by rw [ex51]; rfl) (by decide) rfl (fun ls hl => ?_)
                            refine lv_goto (tgt := 176) hx hb dX6_pick_217 (by decide) ?_
                            exact ih _ (i + 1) c1 x51  H locs ls hP hD hS (lv_sub hl [0, 1, 2, 3, 4, 5, 6] rfl) (by omega) hMk (by rw [ex51, hi]; exact nI_1 i) hlt hcc ⟨by omega, by omega⟩ hla
                          · have hne : i ≠ mo := kne8 ex49 hi (by omega) c50 hla
                            refine lv_aload_n hx hb dX6_pick_197 rfl (lv_at hl 5 rfl) ?_
                            refine rs_Model_item (b := w 5) F hK hP (hMk.1.1.1.1 0 (by decide)) ((hMk.1.1.2.1 5 (by decide) (by decide)).1) kw_71 dX6_pick_198 ?_
                            refine lv_iload hx hb dX6_pick_201 (lv_at hl 0 rfl) ?_
                            refine rd_I F hK hP (hMk.1.1.1.1 5 (by decide)) (by rw [show pN T0 (w 5) = 12 from (hMk.1.1.2.1 5 (by decide) (by decide)).2, hi]; exact vp_in_nI (by omega) (by decide)) dX6_pick_203 ?_
                            refine lv_topi (fun x52 ex52 => ?_)
                            refine lv_iload_n hx hb dX6_pick_204 rfl (lv_at hl 3 rfl) ?_
                            refine lv_icmp_ne (tgt := 214) hx hb dX6_pick_205 (by decide) (fun c53 => ?_) (fun c53 => ?_)
                            · obtain ⟨x54, ex54⟩ : ∃ y : Int32, y = xi + 1 := ⟨_, rfl⟩
                              refine lv_iinc (v := x54) (lv' := [(6, .int x54), (5, .int r45), (4, .int x15), (3, .int x8), (2, .int fo), (0, .ref (w 0)), (1, .int n)]) hx hb dX6_pick_214 hl (k := 0) rfl (by rw [ex54]; rfl) (by decide) rfl (fun ls hl => ?_)
                              refine lv_goto (tgt := 176) hx hb dX6_pick_217 (by decide) ?_
                              exact ih _ (i + 1) c1 x54  H locs ls hP hD hS (lv_sub hl [0, 1, 2, 3, 4, 5, 6] rfl) (by omega) hMk (by rw [ex54, hi]; exact nI_1 i) hlt hcc ⟨by omega, by omega⟩ hla
                            · refine lv_aload_n hx hb dX6_pick_208 rfl (lv_at hl 5 rfl) ?_
                              refine lv_iload hx hb dX6_pick_209 (lv_at hl 0 rfl) ?_
                              refine kcallU (kV (n := 1) (As := [.int xi]) (rest := []) (b := (w 0)) (C := RX6) F hE hK hP hD hS hA (c_X6_opens l hl0 g e0 w T0 _ hMk.1.1 xi i (by omega) hi c1 hcc (by omega)) (rr_Model hK hP (hMk.1.1.1.1 0 (by decide))) kw_339 kw_340 kw_341 kw_5 kw_342 (by decide +kernel) ⟨Nat.le_of_ble_eq_true rfl, Nat.le_of_ble_eq_true rfl⟩ rfl hl.1 rfl (Nat.le_of_ble_eq_true rfl) dX6_pick_211 ⟨Nat.le_of_ble_eq_true rfl, Nat.le_of_ble_eq_true rfl⟩) rfl hD hS hA (fun _ _ _ _ _ h => False.elim h) (fun T55 H locs hp hP hD hS => ?_)
                              obtain ⟨k56, c56_, s56⟩ := hp
                              have K56 : Mk w T45 T55 := hMk.trans k56
                              have hla56 : pX T55 (w 8) mo = 111 := by rw [s56]; unfold upd; rw [if_neg (fun h9 => hne h9.symm)]; exact hla
                              obtain ⟨x57, ex57⟩ : ∃ y : Int32, y = xi + 1 := ⟨_, rfl⟩
                              refine lv_iinc (v := x57) (lv' := [(6, .int x57), (5, .int r45), (4, .int x15), (3, .int x8), (2, .int fo), (0, .ref (w 0)), (1, .int n)]) hx hb dX6_pick_214 hl (k := 0) rfl (by rw [ex57]; rfl) (by decide) rfl (fun ls hl => ?_)
                              refine lv_goto (tgt := 176) hx hb dX6_pick_217 (by decide) ?_
                              exact ih _ (i + 1) (c1 + 1) x57  H locs ls hP hD hS (lv_sub hl [0, 1, 2, 3, 4, 5, 6] rfl) (by omega) K56 (by rw [ex57, hi]; exact nI_1 i) hlt c56_ ⟨by omega, by omega⟩ hla56
                    exact loop 13 _ 0 (cn + 2) 0  _ _ _ hP hD hS (lv_sub hl [0, 1, 2, 3, 6, 4, 5] rfl) (by omega) (Mk.x (i := 2) (Mk.rf m46.1) (by decide) (by decide) (by decide)) rfl (Nat.zero_le _) s46 ⟨by omega, by omega⟩ ((congrFun (va_up_ne _ _ (m46.1.ne (by decide) (by decide) (by decide))) mo).trans hla0)
                  · refine lv_aload_n hx hb dX6_pick_132 rfl (lv_at hl 2 rfl) ?_
                    refine rs_Model_stock (b := w 2) F hK hP (K42.1.1.1.1 0 (by decide)) ((K42.1.1.2.1 2 (by decide) (by decide)).1) kw_68 dX6_pick_133 ?_
                    refine lv_iload_n hx hb dX6_pick_136 rfl (lv_at hl 1 rfl) ?_
                    refine lv_dup2_11 hx hb dX6_pick_137 rfl rfl ?_
                    refine rd_I F hK hP (K42.1.1.1.1 2 (by decide)) (by rw [show pN T41 (w 2) = 6 from (K42.1.1.2.1 2 (by decide) (by decide)).2, hxg9]; exact vp_in_nI (by omega) (by decide)) dX6_pick_138 ?_
                    refine lv_topi (fun x58 ex58 => ?_)
                    refine lv_iload_n hx hb dX6_pick_139 rfl (lv_at hl 4 rfl) ?_
                    refine lv_isub hx hb dX6_pick_140 ?_
                    refine lv_topi (fun x59 ex59 => ?_)
                    refine rt_I F hK hP hD hS (K42.1.1.1.1 2 (by decide)) (by rw [show pN T41 (w 2) = 6 from (K42.1.1.2.1 2 (by decide) (by decide)).2, hxg9]; exact vp_in_nI (by omega) (by decide)) dX6_pick_141 (fun H locs hP hD hS => ?_)
                    refine lv_iconst (v := (-1)) hx hb dX6_pick_142 (by decide) ?_
                    exact kEndI F hr rfl hlk hP hD hS (Nat.le_of_ble_eq_true rfl) (Nat.le_of_ble_eq_true rfl) dX6_pick_143 ⟨_, rfl, ⟨(m2.trans (Mk.x (i := 2) K42 (by decide) (by decide) (by decide)).1), cn + 1, by omega, c42_⟩⟩
                · refine lv_bipush (v := 100) hx hb dX6_pick_107 (by decide) ?_
                  refine lv_goto (tgt := 114) hx hb dX6_pick_109 (by decide) ?_
                  refine rt_I F hK hP hD hS (m2.1.1.1 8 (by decide)) (by rw [show pN (setF S 100 (w 0) 0) (w 8) = 12 from (m2.1.2.1 8 (by decide) (by decide)).2, hn2]; exact vp_in_nI (by omega) (by decide)) dX6_pick_114 (fun H locs hP hD hS => ?_)
                  refine lv_aload_n hx hb dX6_pick_115 rfl (lv_at hl 2 rfl) ?_
                  refine lv_iload_n hx hb dX6_pick_116 rfl (lv_at hl 3 rfl) ?_
                  refine lv_aload_n hx hb dX6_pick_117 rfl (lv_at hl 2 rfl) ?_
                  refine rs_Model_state (b := w 8) F hK hP (m2.1.1.1 0 (by decide)) ((m2.1.2.1 8 (by decide) (by decide)).1) kw_74 dX6_pick_118 ?_
                  refine lv_iload_n hx hb dX6_pick_121 rfl (lv_at hl 3 rfl) ?_
                  refine rd_I F hK hP (m2.1.1.1 8 (by decide)) (by rw [show pN (setX (setF S 100 (w 0) 0) (w 8) (upd (pX (setF S 100 (w 0) 0) (w 8)) n.toNatClampNeg 100)) (w 8) = 12 from (m2.1.2.1 8 (by decide) (by decide)).2, hn2]; exact vp_in_nI (by omega) (by decide)) dX6_pick_122 ?_
                  refine lv_topi (fun x60 ex60 => ?_)
                  refine lv_i2c (v := (x60.toUInt32 % 65536).toInt32) hx hb dX6_pick_123 rfl ?_
                  refine lv_topi (fun x61 ex61 => ?_)
                  refine kcallU (kV (n := 2) (As := [.int n, .int x61]) (rest := []) (b := (w 0)) (C := RX6) F hE hK hP hD hS hA (c_X6_notes l hl0 g e0 w (setX (setF S 100 (w 0) 0) (w 8) (upd (pX (setF S 100 (w 0) 0) (w 8)) n.toNatClampNeg 100)) _ ((Mk.x (i := 8) (Mk.rf m2.1) (by decide) (by decide) (by decide)).1.1) n x61 cn (show pF (setF S 100 (w 0) 0) 106 (w 0) = nI cn from ((uF_of (Or.inl (by decide))).trans rfl).trans hc) (by omega)) (rr_Model hK hP (m2.1.1.1 0 (by decide))) kw_343 kw_344 kw_345 kw_5 kw_346 (by decide +kernel) ⟨Nat.le_of_ble_eq_true rfl, Nat.le_of_ble_eq_true rfl⟩ rfl hl.1 rfl (Nat.le_of_ble_eq_true rfl) dX6_pick_124 ⟨Nat.le_of_ble_eq_true rfl, Nat.le_of_ble_eq_true rfl⟩) rfl hD hS hA (fun _ _ _ _ _ h => False.elim h) (fun T62 H locs hp hP hD hS => ?_)
                  obtain ⟨k63, c63_, s63⟩ := hp
                  have K63 : Mk w (setF S 100 (w 0) 0) T62 := (Mk.x (i := 8) (Mk.rf m2.1) (by decide) (by decide) (by decide)).trans k63
                  refine lv_iload hx hb dX6_pick_127 (lv_at hl 0 rfl) ?_
                  refine lv_if_ne (tgt := 144) hx hb dX6_pick_129 (by decide) (fun c64 => ?_) (fun c64 => ?_)
                  · refine lv_aload_n hx hb dX6_pick_144 rfl (lv_at hl 2 rfl) ?_
                    refine rs_Model_amount (b := w 6) F hK hP (K63.1.1.1.1 0 (by decide)) ((K63.1.1.2.1 6 (by decide) (by decide)).1) kw_72 dX6_pick_145 ?_
                    refine lv_iload_n hx hb dX6_pick_148 rfl (lv_at hl 3 rfl) ?_
                    refine lv_iload_n hx hb dX6_pick_149 rfl (lv_at hl 4 rfl) ?_
                    refine rt_I F hK hP hD hS (K63.1.1.1.1 6 (by decide)) (by rw [show pN T62 (w 6) = 12 from (K63.1.1.2.1 6 (by decide) (by decide)).2, hn2]; exact vp_in_nI (by omega) (by decide)) dX6_pick_150 (fun H locs hP hD hS => ?_)
                    refine lv_aload_n hx hb dX6_pick_151 rfl (lv_at hl 2 rfl) ?_
                    refine lv_iload_n hx hb dX6_pick_152 rfl (lv_at hl 1 rfl) ?_
                    refine lv_iload hx hb dX6_pick_153 (lv_at hl 0 rfl) ?_
                    refine lv_aload_n hx hb dX6_pick_155 rfl (lv_at hl 2 rfl) ?_
                    refine rs_Model_carrier (b := w 7) F hK hP (K63.1.1.1.1 0 (by decide)) ((K63.1.1.2.1 7 (by decide) (by decide)).1) kw_73 dX6_pick_156 ?_
                    refine lv_iload_n hx hb dX6_pick_159 rfl (lv_at hl 3 rfl) ?_
                    refine rd_I F hK hP (K63.1.1.1.1 7 (by decide)) (by rw [show pN (setX T62 (w 6) (upd (pX T62 (w 6)) n.toNatClampNeg fo)) (w 7) = 12 from (K63.1.1.2.1 7 (by decide) (by decide)).2, hn2]; exact vp_in_nI (by omega) (by decide)) dX6_pick_160 ?_
                    refine lv_topi (fun x65 ex65 => ?_)
                    refine kcallI (kV (n := 3) (As := [.int x8, .int x15, .int x65]) (rest := []) (b := (w 0)) (C := RX6) F hE hK hP hD hS hA (c_X6_adds l hl0 g e0 w (setX T62 (w 6) (upd (pX T62 (w 6)) n.toNatClampNeg fo)) _ ((Mk.x (i := 6) K63 (by decide) (by decide) (by decide)).1.1) x8 x15 x65 jg9 hjg9 hxg9 mo ((Mk.x (i := 6) K63 (by decide) (by decide) (by decide)).2.2.trans (show pF (setF S 100 (w 0) 0) 102 (w 0) = nI mo from (uF_of (Or.inl (by decide))).trans hmo8)) hm12 (cn + 1) c63_ (by omega)) (rr_Model hK hP (K63.1.1.1.1 0 (by decide))) kw_428 kw_429 kw_430 kw_5 kw_431 (by decide +kernel) ⟨Nat.le_of_ble_eq_true rfl, Nat.le_of_ble_eq_true rfl⟩ rfl hl.1 rfl (Nat.le_of_ble_eq_true rfl) dX6_pick_161 ⟨Nat.le_of_ble_eq_true rfl, Nat.le_of_ble_eq_true rfl⟩) rfl hD hS hA (fun _ _ _ _ _ h => False.elim h) (fun r66 T66 H locs hp hP hD hS => ?_)
                    obtain ⟨a67, b67, o67, s67, x67_, -⟩ := hp
                    have m67 : Mr w S T66 := (m2.trans (Mk.x (i := 6) K63 (by decide) (by decide) (by decide)).1).trans a67
                    obtain ⟨m9, em9⟩ : ∃ q, q = mo + 1 := ⟨_, rfl⟩
                    have hm9 : m9 ≤ 12 := by omega
                    have hm8 : pF T66 102 (w 0) = nI m9 := by rw [em9]; exact o67
                    have hla0 : pX T66 (w 8) mo = 111 := by rw [x67_]; unfold upd; rw [if_pos rfl]
                    refine lv_istore (lv' := [(5, .int r66), (4, .int x15), (3, .int x8), (0, .ref (w 0)), (1, .int n), (2, .int fo)]) hx hb dX6_pick_164 hl (by decide) rfl (fun ls hl => ?_)
                    refine lv_aload_n hx hb dX6_pick_166 rfl (lv_at hl 3 rfl) ?_
                    refine rs_Model_stock (b := w 2) F hK hP (m67.1.1.1 0 (by decide)) ((m67.1.2.1 2 (by decide) (by decide)).1) kw_68 dX6_pick_167 ?_
                    refine lv_iload_n hx hb dX6_pick_170 rfl (lv_at hl 2 rfl) ?_
                    refine lv_iconst (v := 0) hx hb dX6_pick_171 (by decide) ?_
                    refine rt_I F hK hP hD hS (m67.1.1.1 2 (by decide)) (by rw [show pN T66 (w 2) = 6 from (m67.1.2.1 2 (by decide) (by decide)).2, hxg9]; exact vp_in_nI (by omega) (by decide)) dX6_pick_172 (fun H locs hP hD hS => ?_)
                    refine lv_iconst (v := 0) hx hb dX6_pick_173 (by decide) ?_
                    refine lv_istore (lv' := [(6, .int 0), (5, .int r66), (4, .int x15), (3, .int x8), (0, .ref (w 0)), (1, .int n), (2, .int fo)]) hx hb dX6_pick_174 hl (by decide) rfl (fun ls hl => ?_)
                    have loop : ∀ (fu : Nat) (T0 : wPS) (i c1 : Nat) (xi : Int32) (H : Heap) (locs : List Loc) (ls : Array Slot), va_P (kD g) vwCl (kW g T0) H → va_D (kA (pL S) s.heap.size) (kW g T0) → va_S (kA (pL S) s.heap.size) s.heap H locs → lv_has ls 7 [(6, .int xi), (5, .int r66), (4, .int x15), (3, .int x8), (2, .int fo), (0, .ref (w 0)), (1, .int n)] → m9 - i < fu → (Mk w T66 T0) → (xi = nI i) → (i ≤ m9) → (pF T0 106 (w 0) = nI c1) → (c1 ≤ cn + 2 + i ∧ c1 ≤ cn + 2 + mo) → (pX T0 (w 8) mo = 111) → W p l e ({ frames := 2, cells := 0, slots := 0, locals := 45 }) s m ([.ref (w 0), .int n, .int fo] : List Value).toArray below meth c H locs 0 0 (vx_MQ below (kQ g S s.heap.size (pI (fun r T => Mr w S T ∧ (∃ c9, c9 ≤ cn + 13 ∧ pF T 106 (w 0) = nI c9)))) (kX g S s.heap.size (fun E => False)) ([.ref (w 0), .int n, .int fo] : List Value).toArray s 0 0 (kA (pL S) s.heap.size)) (F0 m 176 ls []) := by
                      intro fu
                      induction fu with
                      | zero => intro T0 i c1 xi H locs ls hP hD hS hl hn hMk hi hin hcc hcl hla; exact absurd hn (Nat.not_lt_zero _)
                      | succ fu ih =>
                        intro T0 i c1 xi H locs ls hP hD hS hl hn hMk hi hin hcc hcl hla
                        refine lv_iload hx hb dX6_pick_176 (lv_at hl 0 rfl) ?_
                        refine lv_aload_n hx hb dX6_pick_178 rfl (lv_at hl 5 rfl) ?_
                        refine rg_Model_orders F hK hP (hMk.1.1.1.1 0 (by decide)) kw_263 dX6_pick_179 ?_
                        refine lv_topi (fun x68 ex68 => ?_)
                        refine lv_icmp_ge (tgt := 220) hx hb dX6_pick_182 (by decide) (fun c69 => ?_) (fun c69 => ?_)
                        · refine lv_iload hx hb dX6_pick_220 (lv_at hl 1 rfl) ?_
                          exact kEndI F hr rfl hlk hP hD hS (Nat.le_of_ble_eq_true rfl) (Nat.le_of_ble_eq_true rfl) dX6_pick_222 ⟨_, rfl, ⟨(m67.trans hMk.1), c1, by omega, hcc⟩⟩
                        · have hlt : i < m9 := klm hin (by omega) hi (ex68.trans (hMk.2.2.trans hm8)) c69
                          refine lv_aload_n hx hb dX6_pick_185 rfl (lv_at hl 5 rfl) ?_
                          refine rs_Model_state (b := w 8) F hK hP (hMk.1.1.1.1 0 (by decide)) ((hMk.1.1.2.1 8 (by decide) (by decide)).1) kw_74 dX6_pick_186 ?_
                          refine lv_iload hx hb dX6_pick_189 (lv_at hl 0 rfl) ?_
                          refine rd_I F hK hP (hMk.1.1.1.1 8 (by decide)) (by rw [show pN T0 (w 8) = 12 from (hMk.1.1.2.1 8 (by decide) (by decide)).2, hi]; exact vp_in_nI (by omega) (by decide)) dX6_pick_191 ?_
                          refine lv_topi (fun x70 ex70 => ?_)
                          refine lv_bipush (v := 112) hx hb dX6_pick_192 (by decide) ?_
                          refine lv_icmp_ne (tgt := 214) hx hb dX6_pick_194 (by decide) (fun c71 => ?_) (fun c71 => ?_)
                          · obtain ⟨x72, ex72⟩ : ∃ y : Int32, y = xi + 1 := ⟨_, rfl⟩
                            refine lv_iinc (v := x72) (lv' := [(6, .int x72), (5, .int r66), (4, .int x15), (3, .int x8), (2, .int fo), (0, .ref (w 0)), (1, .int n)]) hx hb dX6_pick_214 hl (k := 0) rfl (by rw [ex72]; rfl) (by decide) rfl (fun ls hl => ?_)
                            refine lv_goto (tgt := 176) hx hb dX6_pick_217 (by decide) ?_
                            exact ih _ (i + 1) c1 x72  H locs ls hP hD hS (lv_sub hl [0, 1, 2, 3, 4, 5, 6] rfl) (by omega) hMk (by rw [ex72, hi]; exact nI_1 i) hlt hcc ⟨by omega, by omega⟩ hla
                          · have hne : i ≠ mo := kne8 ex70 hi (by omega) c71 hla
                            refine lv_aload_n hx hb dX6_pick_197 rfl (lv_at hl 5 rfl) ?_
                            refine rs_Model_item (b := w 5) F hK hP (hMk.1.1.1.1 0 (by decide)) ((hMk.1.1.2.1 5 (by decide) (by decide)).1) kw_71 dX6_pick_198 ?_
                            refine lv_iload hx hb dX6_pick_201 (lv_at hl 0 rfl) ?_
                            refine rd_I F hK hP (hMk.1.1.1.1 5 (by decide)) (by rw [show pN T0 (w 5) = 12 from (hMk.1.1.2.1 5 (by decide) (by decide)).2, hi]; exact vp_in_nI (by omega) (by decide)) dX6_pick_203 ?_
                            refine lv_topi (fun x73 ex73 => ?_)
                            refine lv_iload_n hx hb dX6_pick_204 rfl (lv_at hl 3 rfl) ?_
                            refine lv_icmp_ne (tgt := 214) hx hb dX6_pick_205 (by decide) (fun c74 => ?_) (fun c74 => ?_)
                            · obtain ⟨x75, ex75⟩ : ∃ y : Int32, y = xi + 1 := ⟨_, rfl⟩
                              refine lv_iinc (v := x75) (lv' := [(6, .int x75), (5, .int r66), (4, .int x15), (3, .int x8), (2, .int fo), (0, .ref (w 0)), (1, .int n)]) hx hb dX6_pick_214 hl (k := 0) rfl (by rw [ex75]; rfl) (by decide) rfl (fun ls hl => ?_)
                              refine lv_goto (tgt := 176) hx hb dX6_pick_217 (by decide) ?_
                              exact ih _ (i + 1) c1 x75  H locs ls hP hD hS (lv_sub hl [0, 1, 2, 3, 4, 5, 6] rfl) (by omega) hMk (by rw [ex75, hi]; exact nI_1 i) hlt hcc ⟨by omega, by omega⟩ hla
                            · refine lv_aload_n hx hb dX6_pick_208 rfl (lv_at hl 5 rfl) ?_
                              refine lv_iload hx hb dX6_pick_209 (lv_at hl 0 rfl) ?_
                              refine kcallU (kV (n := 1) (As := [.int xi]) (rest := []) (b := (w 0)) (C := RX6) F hE hK hP hD hS hA (c_X6_opens l hl0 g e0 w T0 _ hMk.1.1 xi i (by omega) hi c1 hcc (by omega)) (rr_Model hK hP (hMk.1.1.1.1 0 (by decide))) kw_339 kw_340 kw_341 kw_5 kw_342 (by decide +kernel) ⟨Nat.le_of_ble_eq_true rfl, Nat.le_of_ble_eq_true rfl⟩ rfl hl.1 rfl (Nat.le_of_ble_eq_true rfl) dX6_pick_211 ⟨Nat.le_of_ble_eq_true rfl, Nat.le_of_ble_eq_true rfl⟩) rfl hD hS hA (fun _ _ _ _ _ h => False.elim h) (fun T76 H locs hp hP hD hS => ?_)
                              obtain ⟨k77, c77_, s77⟩ := hp
                              have K77 : Mk w T66 T76 := hMk.trans k77
                              have hla77 : pX T76 (w 8) mo = 111 := by rw [s77]; unfold upd; rw [if_neg (fun h9 => hne h9.symm)]; exact hla
                              obtain ⟨x78, ex78⟩ : ∃ y : Int32, y = xi + 1 := ⟨_, rfl⟩
                              refine lv_iinc (v := x78) (lv' := [(6, .int x78), (5, .int r66), (4, .int x15), (3, .int x8), (2, .int fo), (0, .ref (w 0)), (1, .int n)]) hx hb dX6_pick_214 hl (k := 0) rfl (by rw [ex78]; rfl) (by decide) rfl (fun ls hl => ?_)
                              refine lv_goto (tgt := 176) hx hb dX6_pick_217 (by decide) ?_
                              exact ih _ (i + 1) (c1 + 1) x78  H locs ls hP hD hS (lv_sub hl [0, 1, 2, 3, 4, 5, 6] rfl) (by omega) K77 (by rw [ex78, hi]; exact nI_1 i) hlt c77_ ⟨by omega, by omega⟩ hla77
                    exact loop 13 _ 0 (cn + 2) 0  _ _ _ hP hD hS (lv_sub hl [0, 1, 2, 3, 6, 4, 5] rfl) (by omega) (Mk.x (i := 2) (Mk.rf m67.1) (by decide) (by decide) (by decide)) rfl (Nat.zero_le _) s67 ⟨by omega, by omega⟩ ((congrFun (va_up_ne _ _ (m67.1.ne (by decide) (by decide) (by decide))) mo).trans hla0)
                  · refine lv_aload_n hx hb dX6_pick_132 rfl (lv_at hl 2 rfl) ?_
                    refine rs_Model_stock (b := w 2) F hK hP (K63.1.1.1.1 0 (by decide)) ((K63.1.1.2.1 2 (by decide) (by decide)).1) kw_68 dX6_pick_133 ?_
                    refine lv_iload_n hx hb dX6_pick_136 rfl (lv_at hl 1 rfl) ?_
                    refine lv_dup2_11 hx hb dX6_pick_137 rfl rfl ?_
                    refine rd_I F hK hP (K63.1.1.1.1 2 (by decide)) (by rw [show pN T62 (w 2) = 6 from (K63.1.1.2.1 2 (by decide) (by decide)).2, hxg9]; exact vp_in_nI (by omega) (by decide)) dX6_pick_138 ?_
                    refine lv_topi (fun x79 ex79 => ?_)
                    refine lv_iload_n hx hb dX6_pick_139 rfl (lv_at hl 4 rfl) ?_
                    refine lv_isub hx hb dX6_pick_140 ?_
                    refine lv_topi (fun x80 ex80 => ?_)
                    refine rt_I F hK hP hD hS (K63.1.1.1.1 2 (by decide)) (by rw [show pN T62 (w 2) = 6 from (K63.1.1.2.1 2 (by decide) (by decide)).2, hxg9]; exact vp_in_nI (by omega) (by decide)) dX6_pick_141 (fun H locs hP hD hS => ?_)
                    refine lv_iconst (v := (-1)) hx hb dX6_pick_142 (by decide) ?_
                    exact kEndI F hr rfl hlk hP hD hS (Nat.le_of_ble_eq_true rfl) (Nat.le_of_ble_eq_true rfl) dX6_pick_143 ⟨_, rfl, ⟨(m2.trans (Mk.x (i := 2) K63 (by decide) (by decide) (by decide)).1), cn + 1, by omega, c63_⟩⟩
              · refine lv_aload_n hx hb dX6_pick_92 rfl (lv_at hl 2 rfl) ?_
                refine lv_iconst (v := 4) hx hb dX6_pick_93 (by decide) ?_
                refine kcallI (kV (n := 1) (As := [.int 4]) (rest := []) (b := (w 0)) (C := RX6) F hE hK hP hD hS hA (c_X6_fails l hl0 g e0 (setF S 100 (w 0) 0) _ (w 0) 4 (m2.1.1.1 0 (by decide))) (rr_Model hK hP (m2.1.1.1 0 (by decide))) kw_183 kw_184 kw_185 kw_5 kw_186 (by decide +kernel) ⟨Nat.le_of_ble_eq_true rfl, Nat.le_of_ble_eq_true rfl⟩ rfl hl.1 rfl (Nat.le_of_ble_eq_true rfl) dX6_pick_94 ⟨Nat.le_of_ble_eq_true rfl, Nat.le_of_ble_eq_true rfl⟩) rfl hD hS hA (fun _ _ _ _ _ h => False.elim h) (fun r81 T81 H locs hp hP hD hS => ?_)
                obtain ⟨hT, hr82⟩ := hp
                subst hT
                have m82 : Mr w S (setF (setF S 100 (w 0) 0) 100 (w 0) 4) := m2.thr
                subst hr82
                exact kEndI F hr rfl hlk hP hD hS (Nat.le_of_ble_eq_true rfl) (Nat.le_of_ble_eq_true rfl) dX6_pick_97 ⟨_, rfl, ⟨m82, cn, by omega, (show pF (setF (setF S 100 (w 0) 0) 100 (w 0) 4) 106 (w 0) = nI cn from ((uF_of (Or.inl (by decide))).trans ((uF_of (Or.inl (by decide))).trans rfl)).trans hc)⟩⟩
        · refine lv_aload_n hx hb dX6_pick_51 rfl (lv_at hl 1 rfl) ?_
          refine lv_iconst (v := 3) hx hb dX6_pick_52 (by decide) ?_
          refine kcallI (kV (n := 1) (As := [.int 3]) (rest := []) (b := (w 0)) (C := RX6) F hE hK hP hD hS hA (c_X6_fails l hl0 g e0 (setF S 100 (w 0) 0) _ (w 0) 3 (m2.1.1.1 0 (by decide))) (rr_Model hK hP (m2.1.1.1 0 (by decide))) kw_183 kw_184 kw_185 kw_5 kw_186 (by decide +kernel) ⟨Nat.le_of_ble_eq_true rfl, Nat.le_of_ble_eq_true rfl⟩ rfl hl.1 rfl (Nat.le_of_ble_eq_true rfl) dX6_pick_53 ⟨Nat.le_of_ble_eq_true rfl, Nat.le_of_ble_eq_true rfl⟩) rfl hD hS hA (fun _ _ _ _ _ h => False.elim h) (fun r83 T83 H locs hp hP hD hS => ?_)
          obtain ⟨hT, hr84⟩ := hp
          subst hT
          have m84 : Mr w S (setF (setF S 100 (w 0) 0) 100 (w 0) 3) := m2.thr
          subst hr84
          exact kEndI F hr rfl hlk hP hD hS (Nat.le_of_ble_eq_true rfl) (Nat.le_of_ble_eq_true rfl) dX6_pick_56 ⟨_, rfl, ⟨m84, cn, by omega, (show pF (setF (setF S 100 (w 0) 0) 100 (w 0) 3) 106 (w 0) = nI cn from ((uF_of (Or.inl (by decide))).trans ((uF_of (Or.inl (by decide))).trans rfl)).trans hc)⟩⟩
      · refine lv_aload_n hx hb dX6_pick_24 rfl (lv_at hl 0 rfl) ?_
        refine lv_iconst (v := 2) hx hb dX6_pick_25 (by decide) ?_
        refine kcallI (kV (n := 1) (As := [.int 2]) (rest := []) (b := (w 0)) (C := RX6) F hE hK hP hD hS hA (c_X6_fails l hl0 g e0 (setF S 100 (w 0) 0) _ (w 0) 2 (m2.1.1.1 0 (by decide))) (rr_Model hK hP (m2.1.1.1 0 (by decide))) kw_183 kw_184 kw_185 kw_5 kw_186 (by decide +kernel) ⟨Nat.le_of_ble_eq_true rfl, Nat.le_of_ble_eq_true rfl⟩ rfl hl.1 rfl (Nat.le_of_ble_eq_true rfl) dX6_pick_26 ⟨Nat.le_of_ble_eq_true rfl, Nat.le_of_ble_eq_true rfl⟩) rfl hD hS hA (fun _ _ _ _ _ h => False.elim h) (fun r85 T85 H locs hp hP hD hS => ?_)
        obtain ⟨hT, hr86⟩ := hp
        subst hT
        have m86 : Mr w S (setF (setF S 100 (w 0) 0) 100 (w 0) 2) := m2.thr
        subst hr86
        exact kEndI F hr rfl hlk hP hD hS (Nat.le_of_ble_eq_true rfl) (Nat.le_of_ble_eq_true rfl) dX6_pick_29 ⟨_, rfl, ⟨m86, cn, by omega, (show pF (setF (setF S 100 (w 0) 0) 100 (w 0) 2) 106 (w 0) = nI cn from ((uF_of (Or.inl (by decide))).trans ((uF_of (Or.inl (by decide))).trans rfl)).trans hc)⟩⟩
    · exact absurd c3 (by decide)
  · subst hT
    subst hr
    have m2 : Mr w S (setF S 100 (w 0) 1) := (Mr.rf hI).thr
    refine lv_if_ne (tgt := 10) hx hb dX6_pick_5 (by decide) (fun c87 => ?_) (fun c87 => ?_)
    · exact absurd c87 (by decide)
    · refine lv_iconst (v := 0) hx hb dX6_pick_8 (by decide) ?_
      exact kEndI F hr rfl hlk hP hD hS (Nat.le_of_ble_eq_true rfl) (Nat.le_of_ble_eq_true rfl) dX6_pick_9 ⟨_, rfl, ⟨m2, cn, by omega, (show pF (setF S 100 (w 0) 1) 106 (w 0) = nI cn from ((uF_of (Or.inl (by decide))).trans rfl).trans hc)⟩⟩
theorem dX6_wave_0 : decode cX6_wave 0 = .ok (.aload_n 0, 1) := by decide +kernel
theorem dX6_wave_1 : decode cX6_wave 1 = .ok (.iload_n 1, 1) := by decide +kernel
theorem dX6_wave_2 : decode cX6_wave 2 = .ok (.invokevirtual 124, 3) := by decide +kernel
theorem dX6_wave_5 : decode cX6_wave 5 = .ok (.ifCond .ne 5, 3) := by decide +kernel
theorem dX6_wave_8 : decode cX6_wave 8 = .ok (.iconst 0, 1) := by decide +kernel
theorem dX6_wave_9 : decode cX6_wave 9 = .ok (.ireturn, 1) := by decide +kernel
theorem dX6_wave_10 : decode cX6_wave 10 = .ok (.aload_n 0, 1) := by decide +kernel
theorem dX6_wave_11 : decode cX6_wave 11 = .ok (.getfield 127, 3) := by decide +kernel
theorem dX6_wave_14 : decode cX6_wave 14 = .ok (.aload_n 0, 1) := by decide +kernel
theorem dX6_wave_15 : decode cX6_wave 15 = .ok (.getfield 44, 3) := by decide +kernel
theorem dX6_wave_18 : decode cX6_wave 18 = .ok (.iload_n 1, 1) := by decide +kernel
theorem dX6_wave_19 : decode cX6_wave 19 = .ok (.iaload, 1) := by decide +kernel
theorem dX6_wave_20 : decode cX6_wave 20 = .ok (.if_icmp .le 9, 3) := by decide +kernel
theorem dX6_wave_23 : decode cX6_wave 23 = .ok (.aload_n 0, 1) := by decide +kernel
theorem dX6_wave_24 : decode cX6_wave 24 = .ok (.iconst 2, 1) := by decide +kernel
theorem dX6_wave_25 : decode cX6_wave 25 = .ok (.invokevirtual 87, 3) := by decide +kernel
theorem dX6_wave_28 : decode cX6_wave 28 = .ok (.ireturn, 1) := by decide +kernel
theorem dX6_wave_29 : decode cX6_wave 29 = .ok (.aload_n 0, 1) := by decide +kernel
theorem dX6_wave_30 : decode cX6_wave 30 = .ok (.getfield 130, 3) := by decide +kernel
theorem dX6_wave_33 : decode cX6_wave 33 = .ok (.bipush 20, 2) := by decide +kernel
theorem dX6_wave_35 : decode cX6_wave 35 = .ok (.if_icmp .ne 9, 3) := by decide +kernel
theorem dX6_wave_38 : decode cX6_wave 38 = .ok (.aload_n 0, 1) := by decide +kernel
theorem dX6_wave_39 : decode cX6_wave 39 = .ok (.iconst 3, 1) := by decide +kernel
theorem dX6_wave_40 : decode cX6_wave 40 = .ok (.invokevirtual 87, 3) := by decide +kernel
theorem dX6_wave_43 : decode cX6_wave 43 = .ok (.ireturn, 1) := by decide +kernel
theorem dX6_wave_44 : decode cX6_wave 44 = .ok (.iconst 0, 1) := by decide +kernel
theorem dX6_wave_45 : decode cX6_wave 45 = .ok (.istore_n 2, 1) := by decide +kernel
theorem dX6_wave_46 : decode cX6_wave 46 = .ok (.iconst 1, 1) := by decide +kernel
theorem dX6_wave_47 : decode cX6_wave 47 = .ok (.istore_n 3, 1) := by decide +kernel
theorem dX6_wave_48 : decode cX6_wave 48 = .ok (.iload_n 3, 1) := by decide +kernel
theorem dX6_wave_49 : decode cX6_wave 49 = .ok (.bipush 20, 2) := by decide +kernel
theorem dX6_wave_51 : decode cX6_wave 51 = .ok (.if_icmp .gt 133, 3) := by decide +kernel
theorem dX6_wave_54 : decode cX6_wave 54 = .ok (.iconst 0, 1) := by decide +kernel
theorem dX6_wave_55 : decode cX6_wave 55 = .ok (.istore 4, 2) := by decide +kernel
theorem dX6_wave_57 : decode cX6_wave 57 = .ok (.iload 4, 2) := by decide +kernel
theorem dX6_wave_59 : decode cX6_wave 59 = .ok (.aload_n 0, 1) := by decide +kernel
theorem dX6_wave_60 : decode cX6_wave 60 = .ok (.getfield 73, 3) := by decide +kernel
theorem dX6_wave_63 : decode cX6_wave 63 = .ok (.if_icmp .ge 115, 3) := by decide +kernel
theorem dX6_wave_66 : decode cX6_wave 66 = .ok (.aload_n 0, 1) := by decide +kernel
theorem dX6_wave_67 : decode cX6_wave 67 = .ok (.getfield 31, 3) := by decide +kernel
theorem dX6_wave_70 : decode cX6_wave 70 = .ok (.iload 4, 2) := by decide +kernel
theorem dX6_wave_72 : decode cX6_wave 72 = .ok (.iaload, 1) := by decide +kernel
theorem dX6_wave_73 : decode cX6_wave 73 = .ok (.bipush 111, 2) := by decide +kernel
theorem dX6_wave_75 : decode cX6_wave 75 = .ok (.if_icmp .ne 97, 3) := by decide +kernel
theorem dX6_wave_78 : decode cX6_wave 78 = .ok (.aload_n 0, 1) := by decide +kernel
theorem dX6_wave_79 : decode cX6_wave 79 = .ok (.getfield 28, 3) := by decide +kernel
theorem dX6_wave_82 : decode cX6_wave 82 = .ok (.iload 4, 2) := by decide +kernel
theorem dX6_wave_84 : decode cX6_wave 84 = .ok (.iaload, 1) := by decide +kernel
theorem dX6_wave_85 : decode cX6_wave 85 = .ok (.iload_n 1, 1) := by decide +kernel
theorem dX6_wave_86 : decode cX6_wave 86 = .ok (.if_icmp .ne 86, 3) := by decide +kernel
theorem dX6_wave_89 : decode cX6_wave 89 = .ok (.aload_n 0, 1) := by decide +kernel
theorem dX6_wave_90 : decode cX6_wave 90 = .ok (.getfield 25, 3) := by decide +kernel
theorem dX6_wave_93 : decode cX6_wave 93 = .ok (.iload 4, 2) := by decide +kernel
theorem dX6_wave_95 : decode cX6_wave 95 = .ok (.iaload, 1) := by decide +kernel
theorem dX6_wave_96 : decode cX6_wave 96 = .ok (.iload_n 3, 1) := by decide +kernel
theorem dX6_wave_97 : decode cX6_wave 97 = .ok (.if_icmp .eq 6, 3) := by decide +kernel
theorem dX6_wave_100 : decode cX6_wave 100 = .ok (.goto 72, 3) := by decide +kernel
theorem dX6_wave_103 : decode cX6_wave 103 = .ok (.aload_n 0, 1) := by decide +kernel
theorem dX6_wave_104 : decode cX6_wave 104 = .ok (.getfield 37, 3) := by decide +kernel
theorem dX6_wave_107 : decode cX6_wave 107 = .ok (.aload_n 0, 1) := by decide +kernel
theorem dX6_wave_108 : decode cX6_wave 108 = .ok (.getfield 7, 3) := by decide +kernel
theorem dX6_wave_111 : decode cX6_wave 111 = .ok (.aload_n 0, 1) := by decide +kernel
theorem dX6_wave_112 : decode cX6_wave 112 = .ok (.getfield 22, 3) := by decide +kernel
theorem dX6_wave_115 : decode cX6_wave 115 = .ok (.iload 4, 2) := by decide +kernel
theorem dX6_wave_117 : decode cX6_wave 117 = .ok (.iaload, 1) := by decide +kernel
theorem dX6_wave_118 : decode cX6_wave 118 = .ok (.iaload, 1) := by decide +kernel
theorem dX6_wave_119 : decode cX6_wave 119 = .ok (.baload, 1) := by decide +kernel
theorem dX6_wave_120 : decode cX6_wave 120 = .ok (.ifCond .ne 52, 3) := by decide +kernel
theorem dX6_wave_123 : decode cX6_wave 123 = .ok (.iload_n 3, 1) := by decide +kernel
theorem dX6_wave_124 : decode cX6_wave 124 = .ok (.aload_n 0, 1) := by decide +kernel
theorem dX6_wave_125 : decode cX6_wave 125 = .ok (.aload_n 0, 1) := by decide +kernel
theorem dX6_wave_126 : decode cX6_wave 126 = .ok (.getfield 22, 3) := by decide +kernel
theorem dX6_wave_129 : decode cX6_wave 129 = .ok (.iload 4, 2) := by decide +kernel
theorem dX6_wave_131 : decode cX6_wave 131 = .ok (.iaload, 1) := by decide +kernel
theorem dX6_wave_132 : decode cX6_wave 132 = .ok (.invokevirtual 94, 3) := by decide +kernel
theorem dX6_wave_135 : decode cX6_wave 135 = .ok (.if_icmp .le 6, 3) := by decide +kernel
theorem dX6_wave_138 : decode cX6_wave 138 = .ok (.goto 34, 3) := by decide +kernel
theorem dX6_wave_141 : decode cX6_wave 141 = .ok (.aload_n 0, 1) := by decide +kernel
theorem dX6_wave_142 : decode cX6_wave 142 = .ok (.getfield 31, 3) := by decide +kernel
theorem dX6_wave_145 : decode cX6_wave 145 = .ok (.iload 4, 2) := by decide +kernel
theorem dX6_wave_147 : decode cX6_wave 147 = .ok (.bipush 112, 2) := by decide +kernel
theorem dX6_wave_149 : decode cX6_wave 149 = .ok (.iastore, 1) := by decide +kernel
theorem dX6_wave_150 : decode cX6_wave 150 = .ok (.aload_n 0, 1) := by decide +kernel
theorem dX6_wave_151 : decode cX6_wave 151 = .ok (.getfield 34, 3) := by decide +kernel
theorem dX6_wave_154 : decode cX6_wave 154 = .ok (.iload 4, 2) := by decide +kernel
theorem dX6_wave_156 : decode cX6_wave 156 = .ok (.aload_n 0, 1) := by decide +kernel
theorem dX6_wave_157 : decode cX6_wave 157 = .ok (.getfield 130, 3) := by decide +kernel
theorem dX6_wave_160 : decode cX6_wave 160 = .ok (.iastore, 1) := by decide +kernel
theorem dX6_wave_161 : decode cX6_wave 161 = .ok (.aload_n 0, 1) := by decide +kernel
theorem dX6_wave_162 : decode cX6_wave 162 = .ok (.iload 4, 2) := by decide +kernel
theorem dX6_wave_164 : decode cX6_wave 164 = .ok (.bipush 112, 2) := by decide +kernel
theorem dX6_wave_166 : decode cX6_wave 166 = .ok (.invokevirtual 83, 3) := by decide +kernel
theorem dX6_wave_169 : decode cX6_wave 169 = .ok (.iinc 2 1, 3) := by decide +kernel
theorem dX6_wave_172 : decode cX6_wave 172 = .ok (.iinc 4 1, 3) := by decide +kernel
theorem dX6_wave_175 : decode cX6_wave 175 = .ok (.goto (-118), 3) := by decide +kernel
theorem dX6_wave_178 : decode cX6_wave 178 = .ok (.iinc 3 1, 3) := by decide +kernel
theorem dX6_wave_181 : decode cX6_wave 181 = .ok (.goto (-133), 3) := by decide +kernel
theorem dX6_wave_184 : decode cX6_wave 184 = .ok (.aload_n 0, 1) := by decide +kernel
theorem dX6_wave_185 : decode cX6_wave 185 = .ok (.dup, 1) := by decide +kernel
theorem dX6_wave_186 : decode cX6_wave 186 = .ok (.getfield 130, 3) := by decide +kernel
theorem dX6_wave_189 : decode cX6_wave 189 = .ok (.iconst 1, 1) := by decide +kernel
theorem dX6_wave_190 : decode cX6_wave 190 = .ok (.iadd, 1) := by decide +kernel
theorem dX6_wave_191 : decode cX6_wave 191 = .ok (.putfield 130, 3) := by decide +kernel
theorem dX6_wave_194 : decode cX6_wave 194 = .ok (.iload_n 2, 1) := by decide +kernel
theorem dX6_wave_195 : decode cX6_wave 195 = .ok (.ireturn, 1) := by decide +kernel
set_option maxHeartbeats 4000000 in
set_option maxRecDepth 100000 in
theorem c_X6_wave (l : Launch) (hl0 : l.stackTraces = false) (g : kG) (e0 : Nat) (w : Nat → Nat) (S : wPS) (sz : Nat) (hI : MI w S) (n : Int32) (cn : Nat) (hc : pF S 106 (w 0) = nI cn) (hc7 : cn + 13 ≤ 7000) : kM l g e0 yX6_wave cX6_wave 5 (some .int) 2 44 0 0 [.ref (w 0), .int n] S sz (pI (fun r T => (∃ c9, c9 ≤ cn + 13 ∧ pF T 106 (w 0) = nI c9) ∧ ((pF T 100 (w 0) = 1 ∧ (n < 0 ∨ 2 < n) ∧ Mr w S T) ∨ ∃ j, j < 3 ∧ n = nI j ∧ ((pF T 100 (w 0) = 2 ∧ pX S (w 12) j < pF S 104 (w 0) ∧ Mr w S T) ∨ (¬ pX S (w 12) j < pF S 104 (w 0) ∧ ((pF T 100 (w 0) = 3 ∧ pF S 103 (w 0) = 20 ∧ Mr w S T) ∨ (pF T 100 (w 0) = 0 ∧ ¬ pF S 103 (w 0) = 20 ∧ Mr w (setF S 103 (w 0) (pF S 103 (w 0) + 1)) T))))))) (fun E => False) := by
  refine kM.of (by decide) (Nat.le_of_ble_eq_true rfl) ?_
  intro p e s m below meth c ls B hin
  obtain ⟨F, hr, hlk, hte, hP, hK, hD, hE, hS, hA, hl, hsz⟩ := B
  subst hsz
  have hx := F.1
  have hb := F.2.1
  have hl : lv_has ls 5 [(0, .ref (w 0)), (1, .int n)] := hl
  obtain ⟨m9, hm9, hm8_⟩ := hI.2.2.1.2
  refine lv_aload_n hx hb dX6_wave_0 rfl (lv_at hl 0 rfl) ?_
  refine lv_iload_n hx hb dX6_wave_1 rfl (lv_at hl 1 rfl) ?_
  refine kcallI (kV (n := 1) (As := [.int n]) (rest := []) (b := (w 0)) (C := RX6) F hE hK hP hD hS hA (c_X6_isCarrier l hl0 g e0 w S _ hI n) (rr_Model hK hP (hI.1.1 0 (by decide))) kw_532 kw_533 kw_534 kw_5 kw_535 (by decide +kernel) ⟨Nat.le_of_ble_eq_true rfl, Nat.le_of_ble_eq_true rfl⟩ rfl hl.1 rfl (Nat.le_of_ble_eq_true rfl) dX6_wave_2 ⟨Nat.le_of_ble_eq_true rfl, Nat.le_of_ble_eq_true rfl⟩) rfl hD hS hA (fun _ _ _ _ _ h => False.elim h) (fun r1 T1 H locs hp hP hD hS => ?_)
  have hp := hp
  rcases hp with ⟨hr, hT, j2, hj2, hn2⟩ | ⟨hr, hT, ho2⟩
  · subst hT
    subst hr
    have m2 : Mr w S (setF S 100 (w 0) 0) := (Mr.rf hI).thr
    refine lv_if_ne (tgt := 10) hx hb dX6_wave_5 (by decide) (fun c3 => ?_) (fun c3 => ?_)
    · have hcl : n.toNatClampNeg = j2 := by rw [hn2, nI_clamp (by omega)]
      refine lv_aload_n hx hb dX6_wave_10 rfl (lv_at hl 0 rfl) ?_
      refine rg_Model_minute F hK hP (m2.1.1.1 0 (by decide)) kw_568 dX6_wave_11 ?_
      refine lv_topi (fun x4 ex4 => ?_)
      refine lv_aload_n hx hb dX6_wave_14 rfl (lv_at hl 0 rfl) ?_
      refine rs_Model_cutOff (b := w 12) F hK hP (m2.1.1.1 0 (by decide)) ((m2.1.2.1 12 (by decide) (by decide)).1) kw_79 dX6_wave_15 ?_
      refine lv_iload_n hx hb dX6_wave_18 rfl (lv_at hl 1 rfl) ?_
      refine rd_I F hK hP (m2.1.1.1 12 (by decide)) (by rw [show pN (setF S 100 (w 0) 0) (w 12) = 3 from (m2.1.2.1 12 (by decide) (by decide)).2, hn2]; exact vp_in_nI (by omega) (by decide)) dX6_wave_19 ?_
      refine lv_topi (fun x5 ex5 => ?_)
      have hmi : x4 = pF S 104 (w 0) := ex4.trans (uF_of (Or.inl (by decide)))
      have hco : x5 = pX S (w 12) j2 := ex5.trans (congrArg (pX S (w 12)) hcl)
      refine lv_icmp_le (tgt := 29) hx hb dX6_wave_20 (by decide) (fun c6 => ?_) (fun c6 => ?_)
      · have hge : ¬ pX S (w 12) j2 < pF S 104 (w 0) := by rw [← hco, ← hmi]; exact Int32.not_lt.mpr c6
        refine lv_aload_n hx hb dX6_wave_29 rfl (lv_at hl 0 rfl) ?_
        refine rg_Model_waves F hK hP (m2.1.1.1 0 (by decide)) kw_569 dX6_wave_30 ?_
        refine lv_topi (fun x7 ex7 => ?_)
        refine lv_bipush (v := 20) hx hb dX6_wave_33 (by decide) ?_
        refine lv_icmp_ne (tgt := 44) hx hb dX6_wave_35 (by decide) (fun c8 => ?_) (fun c8 => ?_)
        · have hwn : ¬ pF S 103 (w 0) = 20 := by rw [← show x7 = pF S 103 (w 0) from ex7.trans (uF_of (Or.inl (by decide)))]; exact c8
          have hm8 : pF (setF S 100 (w 0) 0) 102 (w 0) = nI m9 := (uF_of (Or.inl (by decide))).trans hm8_
          refine lv_iconst (v := 0) hx hb dX6_wave_44 (by decide) ?_
          refine lv_istore_n (lv' := [(2, .int 0), (0, .ref (w 0)), (1, .int n)]) hx hb dX6_wave_45 rfl hl (by decide) rfl (fun ls hl => ?_)
          refine lv_iconst (v := 1) hx hb dX6_wave_46 (by decide) ?_
          refine lv_istore_n (lv' := [(3, .int 1), (2, .int 0), (0, .ref (w 0)), (1, .int n)]) hx hb dX6_wave_47 rfl hl (by decide) rfl (fun ls hl => ?_)
          have loop : ∀ (fu : Nat) (T0 : wPS) (k c1 : Nat) (xm sm : Int32) (H : Heap) (locs : List Loc) (ls : Array Slot), va_P (kD g) vwCl (kW g T0) H → va_D (kA (pL S) s.heap.size) (kW g T0) → va_S (kA (pL S) s.heap.size) s.heap H locs → lv_has ls 5 [(3, .int xm), (2, .int sm), (0, .ref (w 0)), (1, .int n)] → 21 - k < fu → (Mk w (setF S 100 (w 0) 0) T0) → (xm = nI k) → (k ≤ 21) → (pF T0 106 (w 0) = nI c1) → (c1 + koc (pX T0 (w 8)) ≤ cn + 12) → W p l e ({ frames := 2, cells := 0, slots := 0, locals := 44 }) s m ([.ref (w 0), .int n] : List Value).toArray below meth c H locs 0 0 (vx_MQ below (kQ g S s.heap.size (pI (fun r T => (∃ c9, c9 ≤ cn + 13 ∧ pF T 106 (w 0) = nI c9) ∧ ((pF T 100 (w 0) = 1 ∧ (n < 0 ∨ 2 < n) ∧ Mr w S T) ∨ ∃ j, j < 3 ∧ n = nI j ∧ ((pF T 100 (w 0) = 2 ∧ pX S (w 12) j < pF S 104 (w 0) ∧ Mr w S T) ∨ (¬ pX S (w 12) j < pF S 104 (w 0) ∧ ((pF T 100 (w 0) = 3 ∧ pF S 103 (w 0) = 20 ∧ Mr w S T) ∨ (pF T 100 (w 0) = 0 ∧ ¬ pF S 103 (w 0) = 20 ∧ Mr w (setF S 103 (w 0) (pF S 103 (w 0) + 1)) T)))))))) (kX g S s.heap.size (fun E => False)) ([.ref (w 0), .int n] : List Value).toArray s 0 0 (kA (pL S) s.heap.size)) (F0 m 48 ls []) := by
            intro fu
            induction fu with
            | zero => intro T0 k c1 xm sm H locs ls hP hD hS hl hn hMk hk hk1 hcc hcn; exact absurd hn (Nat.not_lt_zero _)
            | succ fu ih =>
              intro T0 k c1 xm sm H locs ls hP hD hS hl hn hMk hk hk1 hcc hcn
              refine lv_iload_n hx hb dX6_wave_48 rfl (lv_at hl 0 rfl) ?_
              refine lv_bipush (v := 20) hx hb dX6_wave_49 (by decide) ?_
              refine lv_icmp_gt (tgt := 184) hx hb dX6_wave_51 (by decide) (fun c9 => ?_) (fun c9 => ?_)
              · refine lv_aload_n hx hb dX6_wave_184 rfl (lv_at hl 2 rfl) ?_
                refine lv_dup hx hb dX6_wave_185 rfl ?_
                refine rg_Model_waves F hK hP (hMk.1.1.1.1 0 (by decide)) kw_569 dX6_wave_186 ?_
                refine lv_topi (fun x10 ex10 => ?_)
                refine lv_iconst (v := 1) hx hb dX6_wave_189 (by decide) ?_
                refine lv_iadd hx hb dX6_wave_190 ?_
                refine lv_topi (fun x11 ex11 => ?_)
                refine rp_Model_waves F hK hP hD hS (hMk.1.1.1.1 0 (by decide)) kw_569 dX6_wave_191 (fun H locs hP hD hS => ?_)
                refine lv_iload_n hx hb dX6_wave_194 rfl (lv_at hl 1 rfl) ?_
                have hw3 : x11 = pF S 103 (w 0) + 1 := by rw [ex11, show x10 = pF S 103 (w 0) from ex10.trans (m2.trans hMk.1).2.2.1]
                have hfin : Mr w (setF S 103 (w 0) (pF S 103 (w 0) + 1)) (setF T0 103 (w 0) x11) := by rw [hw3]; exact Mr.w103 (m2.trans hMk.1)
                exact kEndI F hr rfl hlk hP hD hS (Nat.le_of_ble_eq_true rfl) (Nat.le_of_ble_eq_true rfl) dX6_wave_195 ⟨_, rfl, ⟨⟨c1, by omega, (uF_of (Or.inl (by decide))).trans hcc⟩, Or.inr ⟨j2, hj2, hn2, Or.inr ⟨hge, Or.inr ⟨(uF_of (Or.inl (by decide))).trans (hMk.2.1.trans uF_at), hwn, hfin⟩⟩⟩⟩⟩
              · have hk20 : k < 21 := by rcases Nat.lt_or_ge k 21 with q | q; exact q; exact absurd (by rw [hk, show k = 21 by omega]; decide) c9
                refine lv_iconst (v := 0) hx hb dX6_wave_54 (by decide) ?_
                refine lv_istore (lv' := [(4, .int 0), (3, .int xm), (2, .int sm), (0, .ref (w 0)), (1, .int n)]) hx hb dX6_wave_55 hl (by decide) rfl (fun ls hl => ?_)
                have ihO := ih
                have loop2 : ∀ (fu : Nat) (T0 : wPS) (i c1 : Nat) (xi sm : Int32) (H : Heap) (locs : List Loc) (ls : Array Slot), va_P (kD g) vwCl (kW g T0) H → va_D (kA (pL S) s.heap.size) (kW g T0) → va_S (kA (pL S) s.heap.size) s.heap H locs → lv_has ls 5 [(4, .int xi), (3, .int xm), (2, .int sm), (0, .ref (w 0)), (1, .int n)] → m9 - i < fu → (Mk w (setF S 100 (w 0) 0) T0) → (xi = nI i) → (i ≤ m9) → (pF T0 106 (w 0) = nI c1) → (c1 + koc (pX T0 (w 8)) ≤ cn + 12) → W p l e ({ frames := 2, cells := 0, slots := 0, locals := 44 }) s m ([.ref (w 0), .int n] : List Value).toArray below meth c H locs 0 0 (vx_MQ below (kQ g S s.heap.size (pI (fun r T => (∃ c9, c9 ≤ cn + 13 ∧ pF T 106 (w 0) = nI c9) ∧ ((pF T 100 (w 0) = 1 ∧ (n < 0 ∨ 2 < n) ∧ Mr w S T) ∨ ∃ j, j < 3 ∧ n = nI j ∧ ((pF T 100 (w 0) = 2 ∧ pX S (w 12) j < pF S 104 (w 0) ∧ Mr w S T) ∨ (¬ pX S (w 12) j < pF S 104 (w 0) ∧ ((pF T 100 (w 0) = 3 ∧ pF S 103 (w 0) = 20 ∧ Mr w S T) ∨ (pF T 100 (w 0) = 0 ∧ ¬ pF S 103 (w 0) = 20 ∧ Mr w (setF S 103 (w 0) (pF S 103 (w 0) + 1)) T)))))))) (kX g S s.heap.size (fun E => False)) ([.ref (w 0), .int n] : List Value).toArray s 0 0 (kA (pL S) s.heap.size)) (F0 m 57 ls []) := by
                  intro fu
                  induction fu with
                  | zero => intro T0 i c1 xi sm H locs ls hP hD hS hl hn hMk hi hin hcc hcn; exact absurd hn (Nat.not_lt_zero _)
                  | succ fu ih =>
                    intro T0 i c1 xi sm H locs ls hP hD hS hl hn hMk hi hin hcc hcn
                    refine lv_iload hx hb dX6_wave_57 (lv_at hl 0 rfl) ?_
                    refine lv_aload_n hx hb dX6_wave_59 rfl (lv_at hl 3 rfl) ?_
                    refine rg_Model_orders F hK hP (hMk.1.1.1.1 0 (by decide)) kw_263 dX6_wave_60 ?_
                    refine lv_topi (fun x12 ex12 => ?_)
                    refine lv_icmp_ge (tgt := 178) hx hb dX6_wave_63 (by decide) (fun c13 => ?_) (fun c13 => ?_)
                    · obtain ⟨x14, ex14⟩ : ∃ y : Int32, y = xm + 1 := ⟨_, rfl⟩
                      refine lv_iinc (v := x14) (lv' := [(3, .int x14), (4, .int xi), (2, .int sm), (0, .ref (w 0)), (1, .int n)]) hx hb dX6_wave_178 hl (k := 1) rfl (by rw [ex14]; rfl) (by decide) rfl (fun ls hl => ?_)
                      refine lv_goto (tgt := 48) hx hb dX6_wave_181 (by decide) ?_
                      exact ihO _ (k + 1) c1 x14 sm H locs ls hP hD hS (lv_sub hl [0, 2, 3, 4] rfl) (by omega) hMk (by rw [ex14, hk]; exact nI_1 k) (by omega) hcc hcn
                    · have hlt : i < m9 := klm hin (by omega) hi (ex12.trans (hMk.2.2.trans hm8)) c13
                      refine lv_aload_n hx hb dX6_wave_66 rfl (lv_at hl 3 rfl) ?_
                      refine rs_Model_state (b := w 8) F hK hP (hMk.1.1.1.1 0 (by decide)) ((hMk.1.1.2.1 8 (by decide) (by decide)).1) kw_74 dX6_wave_67 ?_
                      refine lv_iload hx hb dX6_wave_70 (lv_at hl 0 rfl) ?_
                      refine rd_I F hK hP (hMk.1.1.1.1 8 (by decide)) (by rw [show pN T0 (w 8) = 12 from (hMk.1.1.2.1 8 (by decide) (by decide)).2, hi]; exact vp_in_nI (by omega) (by decide)) dX6_wave_72 ?_
                      refine lv_topi (fun x15 ex15 => ?_)
                      refine lv_bipush (v := 111) hx hb dX6_wave_73 (by decide) ?_
                      refine lv_icmp_ne (tgt := 172) hx hb dX6_wave_75 (by decide) (fun c16 => ?_) (fun c16 => ?_)
                      · obtain ⟨x17, ex17⟩ : ∃ y : Int32, y = xi + 1 := ⟨_, rfl⟩
                        refine lv_iinc (v := x17) (lv' := [(4, .int x17), (3, .int xm), (2, .int sm), (0, .ref (w 0)), (1, .int n)]) hx hb dX6_wave_172 hl (k := 0) rfl (by rw [ex17]; rfl) (by decide) rfl (fun ls hl => ?_)
                        refine lv_goto (tgt := 57) hx hb dX6_wave_175 (by decide) ?_
                        exact ih _ (i + 1) c1 x17 sm H locs ls hP hD hS (lv_sub hl [0, 1, 2, 3, 4] rfl) (by omega) hMk (by rw [ex17, hi]; exact nI_1 i) hlt hcc hcn
                      · have hop : pX T0 (w 8) i = 111 := by rw [show i = xi.toNatClampNeg from by rw [hi, nI_clamp (by omega)], ← ex15]; exact c16
                        refine lv_aload_n hx hb dX6_wave_78 rfl (lv_at hl 3 rfl) ?_
                        refine rs_Model_carrier (b := w 7) F hK hP (hMk.1.1.1.1 0 (by decide)) ((hMk.1.1.2.1 7 (by decide) (by decide)).1) kw_73 dX6_wave_79 ?_
                        refine lv_iload hx hb dX6_wave_82 (lv_at hl 0 rfl) ?_
                        refine rd_I F hK hP (hMk.1.1.1.1 7 (by decide)) (by rw [show pN T0 (w 7) = 12 from (hMk.1.1.2.1 7 (by decide) (by decide)).2, hi]; exact vp_in_nI (by omega) (by decide)) dX6_wave_84 ?_
                        refine lv_topi (fun x18 ex18 => ?_)
                        refine lv_iload_n hx hb dX6_wave_85 rfl (lv_at hl 4 rfl) ?_
                        refine lv_icmp_ne (tgt := 172) hx hb dX6_wave_86 (by decide) (fun c19 => ?_) (fun c19 => ?_)
                        · obtain ⟨x20, ex20⟩ : ∃ y : Int32, y = xi + 1 := ⟨_, rfl⟩
                          refine lv_iinc (v := x20) (lv' := [(4, .int x20), (3, .int xm), (2, .int sm), (0, .ref (w 0)), (1, .int n)]) hx hb dX6_wave_172 hl (k := 0) rfl (by rw [ex20]; rfl) (by decide) rfl (fun ls hl => ?_)
                          refine lv_goto (tgt := 57) hx hb dX6_wave_175 (by decide) ?_
                          exact ih _ (i + 1) c1 x20 sm H locs ls hP hD hS (lv_sub hl [0, 1, 2, 3, 4] rfl) (by omega) hMk (by rw [ex20, hi]; exact nI_1 i) hlt hcc hcn
                        · refine lv_aload_n hx hb dX6_wave_89 rfl (lv_at hl 3 rfl) ?_
                          refine rs_Model_amount (b := w 6) F hK hP (hMk.1.1.1.1 0 (by decide)) ((hMk.1.1.2.1 6 (by decide) (by decide)).1) kw_72 dX6_wave_90 ?_
                          refine lv_iload hx hb dX6_wave_93 (lv_at hl 0 rfl) ?_
                          refine rd_I F hK hP (hMk.1.1.1.1 6 (by decide)) (by rw [show pN T0 (w 6) = 12 from (hMk.1.1.2.1 6 (by decide) (by decide)).2, hi]; exact vp_in_nI (by omega) (by decide)) dX6_wave_95 ?_
                          refine lv_topi (fun x21 ex21 => ?_)
                          refine lv_iload_n hx hb dX6_wave_96 rfl (lv_at hl 1 rfl) ?_
                          refine lv_icmp_eq (tgt := 103) hx hb dX6_wave_97 (by decide) (fun c22 => ?_) (fun c22 => ?_)
                          · refine lv_aload_n hx hb dX6_wave_103 rfl (lv_at hl 3 rfl) ?_
                            refine rs_Model_isBlocked (b := w 10) F hK hP (hMk.1.1.1.1 0 (by decide)) ((hMk.1.1.2.1 10 (by decide) (by decide)).1) kw_77 dX6_wave_104 ?_
                            refine lv_aload_n hx hb dX6_wave_107 rfl (lv_at hl 3 rfl) ?_
                            refine rs_Model_aisle (b := w 1) F hK hP (hMk.1.1.1.1 0 (by decide)) ((hMk.1.1.2.1 1 (by decide) (by decide)).1) kw_67 dX6_wave_108 ?_
                            refine lv_aload_n hx hb dX6_wave_111 rfl (lv_at hl 3 rfl) ?_
                            refine rs_Model_item (b := w 5) F hK hP (hMk.1.1.1.1 0 (by decide)) ((hMk.1.1.2.1 5 (by decide) (by decide)).1) kw_71 dX6_wave_112 ?_
                            refine lv_iload hx hb dX6_wave_115 (lv_at hl 0 rfl) ?_
                            refine rd_I F hK hP (hMk.1.1.1.1 5 (by decide)) (by rw [show pN T0 (w 5) = 12 from (hMk.1.1.2.1 5 (by decide) (by decide)).2, hi]; exact vp_in_nI (by omega) (by decide)) dX6_wave_117 ?_
                            refine lv_topi (fun x23 ex23 => ?_)
                            obtain ⟨jg24, hjg24, hxg24⟩ : ∃ q, q < 6 ∧ x23 = nI q := by rw [ex23]; exact hMk.1.1.2.2.2.2.1 _
                            refine rd_I F hK hP (hMk.1.1.1.1 1 (by decide)) (by rw [show pN T0 (w 1) = 6 from (hMk.1.1.2.1 1 (by decide) (by decide)).2, hxg24]; exact vp_in_nI (by omega) (by decide)) dX6_wave_118 ?_
                            refine lv_topi (fun x25 ex25 => ?_)
                            obtain ⟨jg26, hjg26, hxg26⟩ : ∃ q, q < 4 ∧ x25 = nI q := by rw [ex25]; exact hMk.1.1.2.2.2.1 _
                            refine rd_Z F hK hP (hMk.1.1.1.1 10 (by decide)) (by rw [show pN T0 (w 10) = 4 from (hMk.1.1.2.1 10 (by decide) (by decide)).2, hxg26]; exact vp_in_nI (by omega) (by decide)) dX6_wave_119 ?_
                            refine lv_topi (fun x27 ex27 => ?_)
                            refine lv_if_ne (tgt := 172) hx hb dX6_wave_120 (by decide) (fun c28 => ?_) (fun c28 => ?_)
                            · obtain ⟨x29, ex29⟩ : ∃ y : Int32, y = xi + 1 := ⟨_, rfl⟩
                              refine lv_iinc (v := x29) (lv' := [(4, .int x29), (3, .int xm), (2, .int sm), (0, .ref (w 0)), (1, .int n)]) hx hb dX6_wave_172 hl (k := 0) rfl (by rw [ex29]; rfl) (by decide) rfl (fun ls hl => ?_)
                              refine lv_goto (tgt := 57) hx hb dX6_wave_175 (by decide) ?_
                              exact ih _ (i + 1) c1 x29 sm H locs ls hP hD hS (lv_sub hl [0, 1, 2, 3, 4] rfl) (by omega) hMk (by rw [ex29, hi]; exact nI_1 i) hlt hcc hcn
                            · refine lv_iload_n hx hb dX6_wave_123 rfl (lv_at hl 1 rfl) ?_
                              refine lv_aload_n hx hb dX6_wave_124 rfl (lv_at hl 3 rfl) ?_
                              refine lv_aload_n hx hb dX6_wave_125 rfl (lv_at hl 3 rfl) ?_
                              refine rs_Model_item (b := w 5) F hK hP (hMk.1.1.1.1 0 (by decide)) ((hMk.1.1.2.1 5 (by decide) (by decide)).1) kw_71 dX6_wave_126 ?_
                              refine lv_iload hx hb dX6_wave_129 (lv_at hl 0 rfl) ?_
                              refine rd_I F hK hP (hMk.1.1.1.1 5 (by decide)) (by rw [show pN T0 (w 5) = 12 from (hMk.1.1.2.1 5 (by decide) (by decide)).2, hi]; exact vp_in_nI (by omega) (by decide)) dX6_wave_131 ?_
                              refine lv_topi (fun x30 ex30 => ?_)
                              obtain ⟨jg31, hjg31, hxg31⟩ : ∃ q, q < 6 ∧ x30 = nI q := by rw [ex30]; exact hMk.1.1.2.2.2.2.1 _
                              refine kcallI (kV (n := 1) (As := [.int x30]) (rest := [.int xm]) (b := (w 0)) (C := RX6) F hE hK hP hD hS hA (c_X6_rest l hl0 g e0 w T0 _ hMk.1.1 x30 ⟨jg31, hjg31, hxg31⟩) (rr_Model hK hP (hMk.1.1.1.1 0 (by decide))) kw_255 kw_256 kw_257 kw_5 kw_258 (by decide +kernel) ⟨Nat.le_of_ble_eq_true rfl, Nat.le_of_ble_eq_true rfl⟩ rfl hl.1 rfl (Nat.le_of_ble_eq_true rfl) dX6_wave_132 ⟨Nat.le_of_ble_eq_true rfl, Nat.le_of_ble_eq_true rfl⟩) rfl hD hS hA (fun _ _ _ _ _ h => False.elim h) (fun r32 T32 H locs hp hP hD hS => ?_)
                              obtain ⟨hT, hp33⟩ := hp
                              have hT := hT.symm
                              subst hT
                              refine lv_icmp_le (tgt := 141) hx hb dX6_wave_135 (by decide) (fun c34 => ?_) (fun c34 => ?_)
                              · refine lv_aload_n hx hb dX6_wave_141 rfl (lv_at hl 3 rfl) ?_
                                refine rs_Model_state (b := w 8) F hK hP (hMk.1.1.1.1 0 (by decide)) ((hMk.1.1.2.1 8 (by decide) (by decide)).1) kw_74 dX6_wave_142 ?_
                                refine lv_iload hx hb dX6_wave_145 (lv_at hl 0 rfl) ?_
                                refine lv_bipush (v := 112) hx hb dX6_wave_147 (by decide) ?_
                                refine rt_I F hK hP hD hS (hMk.1.1.1.1 8 (by decide)) (by rw [show pN T0 (w 8) = 12 from (hMk.1.1.2.1 8 (by decide) (by decide)).2, hi]; exact vp_in_nI (by omega) (by decide)) dX6_wave_149 (fun H locs hP hD hS => ?_)
                                refine lv_aload_n hx hb dX6_wave_150 rfl (lv_at hl 3 rfl) ?_
                                refine rs_Model_waveOf (b := w 9) F hK hP (hMk.1.1.1.1 0 (by decide)) ((hMk.1.1.2.1 9 (by decide) (by decide)).1) kw_75 dX6_wave_151 ?_
                                refine lv_iload hx hb dX6_wave_154 (lv_at hl 0 rfl) ?_
                                refine lv_aload_n hx hb dX6_wave_156 rfl (lv_at hl 3 rfl) ?_
                                refine rg_Model_waves F hK hP (hMk.1.1.1.1 0 (by decide)) kw_569 dX6_wave_157 ?_
                                refine lv_topi (fun x35 ex35 => ?_)
                                refine rt_I F hK hP hD hS (hMk.1.1.1.1 9 (by decide)) (by rw [show pN (setX T0 (w 8) (upd (pX T0 (w 8)) xi.toNatClampNeg 112)) (w 9) = 12 from (hMk.1.1.2.1 9 (by decide) (by decide)).2, hi]; exact vp_in_nI (by omega) (by decide)) dX6_wave_160 (fun H locs hP hD hS => ?_)
                                refine lv_aload_n hx hb dX6_wave_161 rfl (lv_at hl 3 rfl) ?_
                                refine lv_iload hx hb dX6_wave_162 (lv_at hl 0 rfl) ?_
                                refine lv_bipush (v := 112) hx hb dX6_wave_164 (by decide) ?_
                                refine kcallU (kV (n := 2) (As := [.int xi, .int 112]) (rest := []) (b := (w 0)) (C := RX6) F hE hK hP hD hS hA (c_X6_notes l hl0 g e0 w (setX (setX T0 (w 8) (upd (pX T0 (w 8)) xi.toNatClampNeg 112)) (w 9) (upd (pX (setX T0 (w 8) (upd (pX T0 (w 8)) xi.toNatClampNeg 112)) (w 9)) xi.toNatClampNeg x35)) _ ((Mk.x (i := 9) (Mk.x (i := 8) hMk (by decide) (by decide) (by decide)) (by decide) (by decide) (by decide)).1.1) xi 112 c1 hcc (by omega)) (rr_Model hK hP (hMk.1.1.1.1 0 (by decide))) kw_343 kw_344 kw_345 kw_5 kw_346 (by decide +kernel) ⟨Nat.le_of_ble_eq_true rfl, Nat.le_of_ble_eq_true rfl⟩ rfl hl.1 rfl (Nat.le_of_ble_eq_true rfl) dX6_wave_166 ⟨Nat.le_of_ble_eq_true rfl, Nat.le_of_ble_eq_true rfl⟩) rfl hD hS hA (fun _ _ _ _ _ h => False.elim h) (fun T36 H locs hp hP hD hS => ?_)
                                obtain ⟨k37, c37_, s37⟩ := hp
                                have K37 : Mk w (setF S 100 (w 0) 0) T36 := (Mk.x (i := 9) (Mk.x (i := 8) hMk (by decide) (by decide) (by decide)) (by decide) (by decide) (by decide)).trans k37
                                have hcn37 : c1 + 1 + koc (pX T36 (w 8)) ≤ cn + 12 := by
                                  have h8 : pX T36 (w 8) = upd (pX T0 (w 8)) i 112 := s37.trans ((va_up_ne _ _ (hMk.1.1.ne (by decide) (by decide) (by decide))).trans ((va_up_self _ _ _).trans (by rw [show xi.toNatClampNeg = i from by rw [hi, nI_clamp (by omega)]])))
                                  rw [h8]; have := koc_dec hop (by omega); omega
                                obtain ⟨x38, ex38⟩ : ∃ y : Int32, y = sm + 1 := ⟨_, rfl⟩
                                refine lv_iinc (v := x38) (lv' := [(2, .int x38), (4, .int xi), (3, .int xm), (0, .ref (w 0)), (1, .int n)]) hx hb dX6_wave_169 hl (k := 2) rfl (by rw [ex38]; rfl) (by decide) rfl (fun ls hl => ?_)
                                obtain ⟨x39, ex39⟩ : ∃ y : Int32, y = xi + 1 := ⟨_, rfl⟩
                                refine lv_iinc (v := x39) (lv' := [(4, .int x39), (2, .int x38), (3, .int xm), (0, .ref (w 0)), (1, .int n)]) hx hb dX6_wave_172 hl (k := 1) rfl (by rw [ex39]; rfl) (by decide) rfl (fun ls hl => ?_)
                                refine lv_goto (tgt := 57) hx hb dX6_wave_175 (by decide) ?_
                                exact ih _ (i + 1) (c1 + 1) x39 x38 H locs ls hP hD hS (lv_sub hl [0, 2, 1, 3, 4] rfl) (by omega) K37 (by rw [ex39, hi]; exact nI_1 i) hlt c37_ hcn37
                              · refine lv_goto (tgt := 172) hx hb dX6_wave_138 (by decide) ?_
                                obtain ⟨x40, ex40⟩ : ∃ y : Int32, y = xi + 1 := ⟨_, rfl⟩
                                refine lv_iinc (v := x40) (lv' := [(4, .int x40), (3, .int xm), (2, .int sm), (0, .ref (w 0)), (1, .int n)]) hx hb dX6_wave_172 hl (k := 0) rfl (by rw [ex40]; rfl) (by decide) rfl (fun ls hl => ?_)
                                refine lv_goto (tgt := 57) hx hb dX6_wave_175 (by decide) ?_
                                exact ih _ (i + 1) c1 x40 sm H locs ls hP hD hS (lv_sub hl [0, 1, 2, 3, 4] rfl) (by omega) hMk (by rw [ex40, hi]; exact nI_1 i) hlt hcc hcn
                          · refine lv_goto (tgt := 172) hx hb dX6_wave_100 (by decide) ?_
                            obtain ⟨x41, ex41⟩ : ∃ y : Int32, y = xi + 1 := ⟨_, rfl⟩
                            refine lv_iinc (v := x41) (lv' := [(4, .int x41), (3, .int xm), (2, .int sm), (0, .ref (w 0)), (1, .int n)]) hx hb dX6_wave_172 hl (k := 0) rfl (by rw [ex41]; rfl) (by decide) rfl (fun ls hl => ?_)
                            refine lv_goto (tgt := 57) hx hb dX6_wave_175 (by decide) ?_
                            exact ih _ (i + 1) c1 x41 sm H locs ls hP hD hS (lv_sub hl [0, 1, 2, 3, 4] rfl) (by omega) hMk (by rw [ex41, hi]; exact nI_1 i) hlt hcc hcn
                exact loop2 13 _ 0 _ _ _ _ _ _ hP hD hS (lv_sub hl [0, 1, 2, 3, 4] rfl) (by omega) hMk rfl (Nat.zero_le _) hcc hcn
          exact loop 22 _ 1 cn _ _ _ _ _ hP hD hS (lv_sub hl [0, 1, 2, 3] rfl) (by omega) (Mk.rf m2.1) rfl (by decide) (show pF (setF S 100 (w 0) 0) 106 (w 0) = nI cn from ((uF_of (Or.inl (by decide))).trans rfl).trans hc) (Nat.add_le_add_left (koc_le _) _)
        · have hw20 : pF S 103 (w 0) = 20 := by rw [← show x7 = pF S 103 (w 0) from ex7.trans (uF_of (Or.inl (by decide)))]; exact c8
          refine lv_aload_n hx hb dX6_wave_38 rfl (lv_at hl 0 rfl) ?_
          refine lv_iconst (v := 3) hx hb dX6_wave_39 (by decide) ?_
          refine kcallI (kV (n := 1) (As := [.int 3]) (rest := []) (b := (w 0)) (C := RX6) F hE hK hP hD hS hA (c_X6_fails l hl0 g e0 (setF S 100 (w 0) 0) _ (w 0) 3 (m2.1.1.1 0 (by decide))) (rr_Model hK hP (m2.1.1.1 0 (by decide))) kw_183 kw_184 kw_185 kw_5 kw_186 (by decide +kernel) ⟨Nat.le_of_ble_eq_true rfl, Nat.le_of_ble_eq_true rfl⟩ rfl hl.1 rfl (Nat.le_of_ble_eq_true rfl) dX6_wave_40 ⟨Nat.le_of_ble_eq_true rfl, Nat.le_of_ble_eq_true rfl⟩) rfl hD hS hA (fun _ _ _ _ _ h => False.elim h) (fun r42 T42 H locs hp hP hD hS => ?_)
          obtain ⟨hT, hr43⟩ := hp
          subst hT
          have m43 : Mr w S (setF (setF S 100 (w 0) 0) 100 (w 0) 3) := m2.thr
          subst hr43
          exact kEndI F hr rfl hlk hP hD hS (Nat.le_of_ble_eq_true rfl) (Nat.le_of_ble_eq_true rfl) dX6_wave_43 ⟨_, rfl, ⟨⟨cn, by omega, (show pF (setF (setF S 100 (w 0) 0) 100 (w 0) 3) 106 (w 0) = nI cn from ((uF_of (Or.inl (by decide))).trans ((uF_of (Or.inl (by decide))).trans rfl)).trans hc)⟩, Or.inr ⟨j2, hj2, hn2, Or.inr ⟨hge, Or.inl ⟨uF_at, hw20, m43⟩⟩⟩⟩⟩
      · have hlt9 : pX S (w 12) j2 < pF S 104 (w 0) := by rw [← hco, ← hmi]; exact Int32.not_le.mp c6
        refine lv_aload_n hx hb dX6_wave_23 rfl (lv_at hl 0 rfl) ?_
        refine lv_iconst (v := 2) hx hb dX6_wave_24 (by decide) ?_
        refine kcallI (kV (n := 1) (As := [.int 2]) (rest := []) (b := (w 0)) (C := RX6) F hE hK hP hD hS hA (c_X6_fails l hl0 g e0 (setF S 100 (w 0) 0) _ (w 0) 2 (m2.1.1.1 0 (by decide))) (rr_Model hK hP (m2.1.1.1 0 (by decide))) kw_183 kw_184 kw_185 kw_5 kw_186 (by decide +kernel) ⟨Nat.le_of_ble_eq_true rfl, Nat.le_of_ble_eq_true rfl⟩ rfl hl.1 rfl (Nat.le_of_ble_eq_true rfl) dX6_wave_25 ⟨Nat.le_of_ble_eq_true rfl, Nat.le_of_ble_eq_true rfl⟩) rfl hD hS hA (fun _ _ _ _ _ h => False.elim h) (fun r44 T44 H locs hp hP hD hS => ?_)
        obtain ⟨hT, hr45⟩ := hp
        subst hT
        have m45 : Mr w S (setF (setF S 100 (w 0) 0) 100 (w 0) 2) := m2.thr
        subst hr45
        exact kEndI F hr rfl hlk hP hD hS (Nat.le_of_ble_eq_true rfl) (Nat.le_of_ble_eq_true rfl) dX6_wave_28 ⟨_, rfl, ⟨⟨cn, by omega, (show pF (setF (setF S 100 (w 0) 0) 100 (w 0) 2) 106 (w 0) = nI cn from ((uF_of (Or.inl (by decide))).trans ((uF_of (Or.inl (by decide))).trans rfl)).trans hc)⟩, Or.inr ⟨j2, hj2, hn2, Or.inl ⟨uF_at, hlt9, m45⟩⟩⟩⟩
    · exact absurd c3 (by decide)
  · subst hT
    subst hr
    have m2 : Mr w S (setF S 100 (w 0) 1) := (Mr.rf hI).thr
    refine lv_if_ne (tgt := 10) hx hb dX6_wave_5 (by decide) (fun c46 => ?_) (fun c46 => ?_)
    · exact absurd c46 (by decide)
    · refine lv_iconst (v := 0) hx hb dX6_wave_8 (by decide) ?_
      exact kEndI F hr rfl hlk hP hD hS (Nat.le_of_ble_eq_true rfl) (Nat.le_of_ble_eq_true rfl) dX6_wave_9 ⟨_, rfl, ⟨⟨cn, by omega, (show pF (setF S 100 (w 0) 1) 106 (w 0) = nI cn from ((uF_of (Or.inl (by decide))).trans rfl).trans hc)⟩, Or.inl ⟨uF_at, ho2, m2⟩⟩⟩
